theorem gX9_notThere_X9_isSheet : GoodIn wzX9_notThere (va_wsS RX9 257 yX9_isSheet wzX9_isSheet) := wz_co bm_781 (wz_co bm_782 (wz_co bm_5 (wz_in bm_783)))
set_option maxHeartbeats 4000000 in
set_option maxRecDepth 100000 in
theorem c_X9_notThere (l : Launch) (E : zz_E) (σ : zz_S) (h0 : Nat) (sh : Int32) (g0 : zz_M E h0) : Met l yX9_notThere wzX9_notThere ({ frames := 2, cells := 0, slots := 0, locals := 42 }) (va_Pc [.ref h0, .int sh] (zz_B E σ)) (va_Qi (fun r σ1 => σ1 = σ ∧ ((r.toInt = 0 ∧ 0 ≤ sh.toInt ∧ sh.toInt ≤ 3 ∧ zz_HM σ (h0 + 4) sh.toInt.toNat ≠ 0) ∨ (r.toInt = -1000000001 ∧ (sh.toInt < 0 ∨ 3 < sh.toInt)) ∨ (r.toInt = -1000000002 ∧ 0 ≤ sh.toInt ∧ sh.toInt ≤ 3 ∧ zz_HM σ (h0 + 4) sh.toInt.toNat = 0))) (zz_B E) (zz_A E)) 0 0 (zz_A E) := by
  refine zz_met (cc := cX9_notThere) (maxL := 2) (ret := (some .int)) (by decide) rfl (Nat.le_of_ble_eq_true rfl) ?_
  intro p e s m args below meth c ls hx hb hr hts hown hlocks hml hK hP hS hl
  have hl : lv_has ls 2 [(0, .ref h0), (1, .int sh)] := hl
  have hown : s.vm.findClass RX9 = some m.cls := hown
  have hi9 : ∀ w ∈ wsX90, w ∈ wzX9_notThere := fun w h => List.mem_cons_of_mem _ (hbw9 w h)
  have k_m1000000002 : ((-1000000002) : Int32).toInt = -1000000002 := by decide +kernel
  have k_m1000000001 : ((-1000000001) : Int32).toInt = -1000000001 := by decide +kernel
  have k_0 : (0 : Int32).toInt = 0 := by decide +kernel
  refine lv_iload_n hx hb dX9_notThere_0 rfl (lv_at hl 1 rfl) ?_
  refine zz_callSp (As := [.int sh]) (rest := []) ⟨hx, hb, hml, hown, hts⟩ hK hP hS (c_X9_isSheet l E σ sh) (va_cwS 1 hts gX9_notThere_X9_isSheet rfl rfl rfl (by decide +kernel) ⟨Nat.le_of_ble_eq_true rfl, Nat.le_of_ble_eq_true rfl⟩) rfl hl.1 rfl (Nat.le_of_ble_eq_true rfl) dX9_notThere_1 ⟨Nat.zero_le _, Nat.zero_le _⟩ (fun r1 H locs f1 hP1 hS1 => ?_)
  replace hP := hP1
  replace hS := hS1
  clear hP1 hS1
  refine lv_if_ne (tgt := 12) hx hb dX9_notThere_4 (by decide) (fun c2 => ?_) (fun c2 => ?_)
  · have c2 := zz_neT c2
    refine lv_aload_n hx hb dX9_notThere_12 rfl (lv_at hl 0 rfl) ?_
    refine zz_getr hx hb hts hi9 hown hK hP (g0.1) rfl 4 (by decide) (hts (.fieldLink RX9 19 "NoonLawModel" "bitsOf" "[I") (List.mem_cons_of_mem _ bm_96)) rfl rfl dX9_notThere_13 ?_
    refine lv_iload_n hx hb dX9_notThere_16 rfl (lv_at hl 1 rfl) ?_
    refine zz_iald hx hb hK hP (g0.2.2.2.2.1) (by omega) (by omega) dX9_notThere_17 (fun j3 q3 r3 => ?_)
    have hxa : zz_HM σ (h0 + 4) sh.toInt.toNat = (σ (h0 + 4) j3).toInt := by rw [show sh.toInt.toNat = j3 from by omega]; exact zz_HM.at r3
    refine lv_if_ne (tgt := 26) hx hb dX9_notThere_18 (by decide) (fun c4 => ?_) (fun c4 => ?_)
    · have c4 := zz_neT c4
      refine lv_iconst (v := 0) hx hb dX9_notThere_26 (by decide) ?_
      exact zz_iret hx hb hr hlocks hK hP hS dX9_notThere_27 (by refine ⟨rfl, ?_⟩; omega)
    · have c4 := zz_eqT c4
      refine lv_ldc (v := (-1000000002)) hx hb hown (hts (.constant RX9 198 (-1000000002)) (List.mem_cons_of_mem _ bm_687)) dX9_notThere_21 ?_
      refine lv_goto (tgt := 27) hx hb dX9_notThere_23 (by decide) ?_
      exact zz_iret hx hb hr hlocks hK hP hS dX9_notThere_27 (by refine ⟨rfl, ?_⟩; omega)
  · have c2 := zz_eqT c2
    refine lv_ldc (v := (-1000000001)) hx hb hown (hts (.constant RX9 93 (-1000000001)) (List.mem_cons_of_mem _ bm_138)) dX9_notThere_7 ?_
    refine lv_goto (tgt := 27) hx hb dX9_notThere_9 (by decide) ?_
    exact zz_iret hx hb hr hlocks hK hP hS dX9_notThere_27 (by refine ⟨rfl, ?_⟩; omega)
theorem gX9_notMoved_X9_isSheet : GoodIn wzX9_notMoved (va_wsS RX9 257 yX9_isSheet wzX9_isSheet) := wz_co bm_781 (wz_co bm_782 (wz_co bm_5 (wz_in bm_783)))
set_option maxHeartbeats 4000000 in
set_option maxRecDepth 100000 in
theorem c_X9_notMoved (l : Launch) (E : zz_E) (σ : zz_S) (h0 : Nat) (sh : Int32) (ix : Int32) (ot : Int32) (jx : Int32) (nn : Int32) (g0 : zz_M E h0) (hz5 : ∀ j : Nat, j < 4 → 0 ≤ (σ (h0 + 5) j).toInt ∧ (σ (h0 + 5) j).toInt ≤ 24) : Met l yX9_notMoved wzX9_notMoved ({ frames := 2, cells := 0, slots := 0, locals := 42 }) (va_Pc [.ref h0, .int sh, .int ix, .int ot, .int jx, .int nn] (zz_B E σ)) (va_Qi (fun r σ1 => σ1 = σ ∧ ((¬ ((0 ≤ sh.toInt ∧ sh.toInt ≤ 3) ∧ 0 ≤ ot.toInt ∧ ot.toInt ≤ 3) ∧ r.toInt = -1000000001) ∨ (((0 ≤ sh.toInt ∧ sh.toInt ≤ 3) ∧ 0 ≤ ot.toInt ∧ ot.toInt ≤ 3) ∧ (zz_HM σ (h0 + 4) sh.toInt.toNat = 0 ∨ zz_HM σ (h0 + 4) ot.toInt.toNat = 0) ∧ r.toInt = -1000000002) ∨ (((0 ≤ sh.toInt ∧ sh.toInt ≤ 3) ∧ 0 ≤ ot.toInt ∧ ot.toInt ≤ 3) ∧ (zz_HM σ (h0 + 4) sh.toInt.toNat ≠ 0 ∧ zz_HM σ (h0 + 4) ot.toInt.toNat ≠ 0 ∧ zz_HM σ (h0 + 4) sh.toInt.toNat ≠ zz_HM σ (h0 + 4) ot.toInt.toNat) ∧ r.toInt = -1000000005) ∨ (((0 ≤ sh.toInt ∧ sh.toInt ≤ 3) ∧ 0 ≤ ot.toInt ∧ ot.toInt ≤ 3) ∧ (zz_HM σ (h0 + 4) sh.toInt.toNat ≠ 0 ∧ zz_HM σ (h0 + 4) sh.toInt.toNat = zz_HM σ (h0 + 4) ot.toInt.toNat ∧ ¬ (0 ≤ nn.toInt ∧ 0 ≤ ix.toInt ∧ 0 ≤ jx.toInt ∧ ix.toInt + nn.toInt ≤ zz_HM σ (h0 + 5) sh.toInt.toNat ∧ jx.toInt + nn.toInt ≤ zz_HM σ (h0 + 5) ot.toInt.toNat)) ∧ r.toInt = -1000000001) ∨ (((0 ≤ sh.toInt ∧ sh.toInt ≤ 3) ∧ 0 ≤ ot.toInt ∧ ot.toInt ≤ 3) ∧ (zz_HM σ (h0 + 4) sh.toInt.toNat ≠ 0 ∧ zz_HM σ (h0 + 4) sh.toInt.toNat = zz_HM σ (h0 + 4) ot.toInt.toNat ∧ (0 ≤ nn.toInt ∧ 0 ≤ ix.toInt ∧ 0 ≤ jx.toInt ∧ ix.toInt + nn.toInt ≤ zz_HM σ (h0 + 5) sh.toInt.toNat ∧ jx.toInt + nn.toInt ≤ zz_HM σ (h0 + 5) ot.toInt.toNat)) ∧ r.toInt = 0))) (zz_B E) (zz_A E)) 0 0 (zz_A E) := by
  refine zz_met (cc := cX9_notMoved) (maxL := 7) (ret := (some .int)) (by decide) rfl (Nat.le_of_ble_eq_true rfl) ?_
  intro p e s m args below meth c ls hx hb hr hts hown hlocks hml hK hP hS hl
  have hl : lv_has ls 7 [(0, .ref h0), (1, .int sh), (2, .int ix), (3, .int ot), (4, .int jx), (5, .int nn)] := hl
  have hown : s.vm.findClass RX9 = some m.cls := hown
  have hi9 : ∀ w ∈ wsX90, w ∈ wzX9_notMoved := fun w h => List.mem_cons_of_mem _ (hbw9 w h)
  have k_m1000000005 : ((-1000000005) : Int32).toInt = -1000000005 := by decide +kernel
  have k_m1000000002 : ((-1000000002) : Int32).toInt = -1000000002 := by decide +kernel
  have k_m1000000001 : ((-1000000001) : Int32).toInt = -1000000001 := by decide +kernel
  have k_0 : (0 : Int32).toInt = 0 := by decide +kernel
  have k_1 : (1 : Int32).toInt = 1 := by decide +kernel
  have hr1 := zz_rng ix
  have hr2 := zz_rng jx
  have hr3 := zz_rng nn
  refine lv_iload_n hx hb dX9_notMoved_0 rfl (lv_at hl 1 rfl) ?_
  refine zz_callSp (As := [.int sh]) (rest := []) ⟨hx, hb, hml, hown, hts⟩ hK hP hS (c_X9_isSheet l E σ sh) (va_cwS 1 hts gX9_notMoved_X9_isSheet rfl rfl rfl (by decide +kernel) ⟨Nat.le_of_ble_eq_true rfl, Nat.le_of_ble_eq_true rfl⟩) rfl hl.1 rfl (Nat.le_of_ble_eq_true rfl) dX9_notMoved_1 ⟨Nat.zero_le _, Nat.zero_le _⟩ (fun r1 H locs f1 hP1 hS1 => ?_)
  replace hP := hP1
  replace hS := hS1
  clear hP1 hS1
  refine lv_if_eq (tgt := 14) hx hb dX9_notMoved_4 (by decide) (fun c2 => ?_) (fun c2 => ?_)
  · have c2 := zz_eqT c2
    refine lv_ldc (v := (-1000000001)) hx hb hown (hts (.constant RX9 93 (-1000000001)) (List.mem_cons_of_mem _ bm_138)) dX9_notMoved_14 ?_
    exact zz_iret hx hb hr hlocks hK hP hS dX9_notMoved_16 (by refine ⟨rfl, Or.inl ⟨by omega, by omega⟩⟩)
  · have c2 := zz_neT c2
    refine lv_iload_n hx hb dX9_notMoved_7 rfl (lv_at hl 3 rfl) ?_
    refine zz_callSp (As := [.int ot]) (rest := []) ⟨hx, hb, hml, hown, hts⟩ hK hP hS (c_X9_isSheet l E σ ot) (va_cwS 1 hts gX9_notMoved_X9_isSheet rfl rfl rfl (by decide +kernel) ⟨Nat.le_of_ble_eq_true rfl, Nat.le_of_ble_eq_true rfl⟩) rfl hl.1 rfl (Nat.le_of_ble_eq_true rfl) dX9_notMoved_8 ⟨Nat.zero_le _, Nat.zero_le _⟩ (fun r3 H locs f3 hP1 hS1 => ?_)
    replace hP := hP1
    replace hS := hS1
    clear hP1 hS1
    refine lv_if_ne (tgt := 17) hx hb dX9_notMoved_11 (by decide) (fun c4 => ?_) (fun c4 => ?_)
    · have c4 := zz_neT c4
      refine lv_aload_n hx hb dX9_notMoved_17 rfl (lv_at hl 0 rfl) ?_
      refine zz_getr hx hb hts hi9 hown hK hP (g0.1) rfl 4 (by decide) (hts (.fieldLink RX9 19 "NoonLawModel" "bitsOf" "[I") (List.mem_cons_of_mem _ bm_96)) rfl rfl dX9_notMoved_18 ?_
      refine lv_iload_n hx hb dX9_notMoved_21 rfl (lv_at hl 1 rfl) ?_
      refine zz_iald hx hb hK hP (g0.2.2.2.2.1) (by omega) (by omega) dX9_notMoved_22 (fun j5 q5 r5 => ?_)
      have hxa : zz_HM σ (h0 + 4) sh.toInt.toNat = (σ (h0 + 4) j5).toInt := by rw [show sh.toInt.toNat = j5 from by omega]; exact zz_HM.at r5
      refine lv_if_eq (tgt := 35) hx hb dX9_notMoved_23 (by decide) (fun c6 => ?_) (fun c6 => ?_)
      · have c6 := zz_eqT c6
        refine lv_ldc (v := (-1000000002)) hx hb hown (hts (.constant RX9 198 (-1000000002)) (List.mem_cons_of_mem _ bm_687)) dX9_notMoved_35 ?_
        exact zz_iret hx hb hr hlocks hK hP hS dX9_notMoved_37 (by refine ⟨rfl, Or.inr (Or.inl ⟨by omega, by omega, by omega⟩)⟩)
      · have c6 := zz_neT c6
        refine lv_aload_n hx hb dX9_notMoved_26 rfl (lv_at hl 0 rfl) ?_
        refine zz_getr hx hb hts hi9 hown hK hP (g0.1) rfl 4 (by decide) (hts (.fieldLink RX9 19 "NoonLawModel" "bitsOf" "[I") (List.mem_cons_of_mem _ bm_96)) rfl rfl dX9_notMoved_27 ?_
        refine lv_iload_n hx hb dX9_notMoved_30 rfl (lv_at hl 3 rfl) ?_
        refine zz_iald hx hb hK hP (g0.2.2.2.2.1) (by omega) (by omega) dX9_notMoved_31 (fun j7 q7 r7 => ?_)
        have hxb : zz_HM σ (h0 + 4) ot.toInt.toNat = (σ (h0 + 4) j7).toInt := by rw [show ot.toInt.toNat = j7 from by omega]; exact zz_HM.at r7
        refine lv_if_ne (tgt := 38) hx hb dX9_notMoved_32 (by decide) (fun c8 => ?_) (fun c8 => ?_)
        · have c8 := zz_neT c8
          refine lv_aload_n hx hb dX9_notMoved_38 rfl (lv_at hl 0 rfl) ?_
          refine zz_getr hx hb hts hi9 hown hK hP (g0.1) rfl 4 (by decide) (hts (.fieldLink RX9 19 "NoonLawModel" "bitsOf" "[I") (List.mem_cons_of_mem _ bm_96)) rfl rfl dX9_notMoved_39 ?_
          refine lv_iload_n hx hb dX9_notMoved_42 rfl (lv_at hl 1 rfl) ?_
          refine zz_iald hx hb hK hP (g0.2.2.2.2.1) (by omega) (by omega) dX9_notMoved_43 (fun j9 q9 r9 => ?_)
          have hxc : zz_HM σ (h0 + 4) sh.toInt.toNat = (σ (h0 + 4) j9).toInt := by rw [show sh.toInt.toNat = j9 from by omega]; exact zz_HM.at r9
          refine lv_aload_n hx hb dX9_notMoved_44 rfl (lv_at hl 0 rfl) ?_
          refine zz_getr hx hb hts hi9 hown hK hP (g0.1) rfl 4 (by decide) (hts (.fieldLink RX9 19 "NoonLawModel" "bitsOf" "[I") (List.mem_cons_of_mem _ bm_96)) rfl rfl dX9_notMoved_45 ?_
          refine lv_iload_n hx hb dX9_notMoved_48 rfl (lv_at hl 3 rfl) ?_
          refine zz_iald hx hb hK hP (g0.2.2.2.2.1) (by omega) (by omega) dX9_notMoved_49 (fun j10 q10 r10 => ?_)
          have hxd : zz_HM σ (h0 + 4) ot.toInt.toNat = (σ (h0 + 4) j10).toInt := by rw [show ot.toInt.toNat = j10 from by omega]; exact zz_HM.at r10
          refine lv_icmp_eq (tgt := 56) hx hb dX9_notMoved_50 (by decide) (fun c11 => ?_) (fun c11 => ?_)
          · have c11 := zz_eqT c11
            refine lv_iload hx hb dX9_notMoved_56 (lv_at hl 5 rfl) ?_
            refine lv_if_lt (tgt := 101) hx hb dX9_notMoved_58 (by decide) (fun c12 => ?_) (fun c12 => ?_)
            · have c12 := zz_ltT c12
              refine lv_iconst (v := 0) hx hb dX9_notMoved_101 (by decide) ?_
              refine lv_istore (lv' := [(6, .int 0), (0, .ref h0), (1, .int sh), (2, .int ix), (3, .int ot), (4, .int jx), (5, .int nn)]) hx hb dX9_notMoved_102 hl (by decide) rfl (fun ls hl => ?_)
              refine lv_iload hx hb dX9_notMoved_104 (lv_at hl 0 rfl) ?_
              refine lv_if_eq (tgt := 113) hx hb dX9_notMoved_106 (by decide) (fun c13 => ?_) (fun c13 => ?_)
              · have c13 := zz_eqT c13
                refine lv_ldc (v := (-1000000001)) hx hb hown (hts (.constant RX9 93 (-1000000001)) (List.mem_cons_of_mem _ bm_138)) dX9_notMoved_113 ?_
                exact zz_iret hx hb hr hlocks hK hP hS dX9_notMoved_115 (by refine ⟨rfl, Or.inr (Or.inr (Or.inr (Or.inl ⟨by omega, by omega, by omega⟩)))⟩)
              · have c13 := zz_neT c13
                skip
                refine lv_iconst (v := 0) hx hb dX9_notMoved_109 (by decide) ?_
                refine lv_goto (tgt := 115) hx hb dX9_notMoved_110 (by decide) ?_
                exact zz_iret hx hb hr hlocks hK hP hS dX9_notMoved_115 (by refine ⟨rfl, Or.inr (Or.inr (Or.inr (Or.inr (⟨by omega, by omega, by omega⟩))))⟩)
            · have c12 := zz_nltT c12
              refine lv_iload_n hx hb dX9_notMoved_61 rfl (lv_at hl 2 rfl) ?_
              refine lv_if_lt (tgt := 101) hx hb dX9_notMoved_62 (by decide) (fun c14 => ?_) (fun c14 => ?_)
              · have c14 := zz_ltT c14
                refine lv_iconst (v := 0) hx hb dX9_notMoved_101 (by decide) ?_
                refine lv_istore (lv' := [(6, .int 0), (0, .ref h0), (1, .int sh), (2, .int ix), (3, .int ot), (4, .int jx), (5, .int nn)]) hx hb dX9_notMoved_102 hl (by decide) rfl (fun ls hl => ?_)
                refine lv_iload hx hb dX9_notMoved_104 (lv_at hl 0 rfl) ?_
                refine lv_if_eq (tgt := 113) hx hb dX9_notMoved_106 (by decide) (fun c15 => ?_) (fun c15 => ?_)
                · have c15 := zz_eqT c15
                  refine lv_ldc (v := (-1000000001)) hx hb hown (hts (.constant RX9 93 (-1000000001)) (List.mem_cons_of_mem _ bm_138)) dX9_notMoved_113 ?_
                  exact zz_iret hx hb hr hlocks hK hP hS dX9_notMoved_115 (by refine ⟨rfl, Or.inr (Or.inr (Or.inr (Or.inl ⟨by omega, by omega, by omega⟩)))⟩)
                · have c15 := zz_neT c15
                  skip
                  refine lv_iconst (v := 0) hx hb dX9_notMoved_109 (by decide) ?_
                  refine lv_goto (tgt := 115) hx hb dX9_notMoved_110 (by decide) ?_
                  exact zz_iret hx hb hr hlocks hK hP hS dX9_notMoved_115 (by refine ⟨rfl, Or.inr (Or.inr (Or.inr (Or.inr (⟨by omega, by omega, by omega⟩))))⟩)
              · have c14 := zz_nltT c14
                refine lv_iload hx hb dX9_notMoved_65 (lv_at hl 4 rfl) ?_
                refine lv_if_lt (tgt := 101) hx hb dX9_notMoved_67 (by decide) (fun c16 => ?_) (fun c16 => ?_)
                · have c16 := zz_ltT c16
                  refine lv_iconst (v := 0) hx hb dX9_notMoved_101 (by decide) ?_
                  refine lv_istore (lv' := [(6, .int 0), (0, .ref h0), (1, .int sh), (2, .int ix), (3, .int ot), (4, .int jx), (5, .int nn)]) hx hb dX9_notMoved_102 hl (by decide) rfl (fun ls hl => ?_)
                  refine lv_iload hx hb dX9_notMoved_104 (lv_at hl 0 rfl) ?_
                  refine lv_if_eq (tgt := 113) hx hb dX9_notMoved_106 (by decide) (fun c17 => ?_) (fun c17 => ?_)
                  · have c17 := zz_eqT c17
                    refine lv_ldc (v := (-1000000001)) hx hb hown (hts (.constant RX9 93 (-1000000001)) (List.mem_cons_of_mem _ bm_138)) dX9_notMoved_113 ?_
                    exact zz_iret hx hb hr hlocks hK hP hS dX9_notMoved_115 (by refine ⟨rfl, Or.inr (Or.inr (Or.inr (Or.inl ⟨by omega, by omega, by omega⟩)))⟩)
                  · have c17 := zz_neT c17
                    skip
                    refine lv_iconst (v := 0) hx hb dX9_notMoved_109 (by decide) ?_
                    refine lv_goto (tgt := 115) hx hb dX9_notMoved_110 (by decide) ?_
                    exact zz_iret hx hb hr hlocks hK hP hS dX9_notMoved_115 (by refine ⟨rfl, Or.inr (Or.inr (Or.inr (Or.inr (⟨by omega, by omega, by omega⟩))))⟩)
                · have c16 := zz_nltT c16
                  refine lv_iload hx hb dX9_notMoved_70 (lv_at hl 5 rfl) ?_
                  refine lv_aload_n hx hb dX9_notMoved_72 rfl (lv_at hl 0 rfl) ?_
                  refine zz_getr hx hb hts hi9 hown hK hP (g0.1) rfl 5 (by decide) (hts (.fieldLink RX9 22 "NoonLawModel" "sizeOf" "[I") (List.mem_cons_of_mem _ bm_97)) rfl rfl dX9_notMoved_73 ?_
                  refine lv_iload_n hx hb dX9_notMoved_76 rfl (lv_at hl 1 rfl) ?_
                  refine zz_iald hx hb hK hP (g0.2.2.2.2.2.1) (by omega) (by omega) dX9_notMoved_77 (fun j18 q18 r18 => ?_)
                  have hxe : zz_HM σ (h0 + 5) sh.toInt.toNat = (σ (h0 + 5) j18).toInt := by rw [show sh.toInt.toNat = j18 from by omega]; exact zz_HM.at r18
                  have hzj18 := hz5 j18 r18
                  refine lv_iload_n hx hb dX9_notMoved_78 rfl (lv_at hl 2 rfl) ?_
                  refine lv_isub hx hb dX9_notMoved_79 ?_
                  refine lv_topi (fun n19 e19 => ?_)
                  have f19 : n19.toInt = (σ (h0 + 5) j18).toInt - (ix).toInt := zz_subT e19 (by omega) (by omega)
                  refine lv_icmp_gt (tgt := 101) hx hb dX9_notMoved_80 (by decide) (fun c20 => ?_) (fun c20 => ?_)
                  · have c20 := zz_ltT c20
                    refine lv_iconst (v := 0) hx hb dX9_notMoved_101 (by decide) ?_
                    refine lv_istore (lv' := [(6, .int 0), (0, .ref h0), (1, .int sh), (2, .int ix), (3, .int ot), (4, .int jx), (5, .int nn)]) hx hb dX9_notMoved_102 hl (by decide) rfl (fun ls hl => ?_)
                    refine lv_iload hx hb dX9_notMoved_104 (lv_at hl 0 rfl) ?_
                    refine lv_if_eq (tgt := 113) hx hb dX9_notMoved_106 (by decide) (fun c21 => ?_) (fun c21 => ?_)
                    · have c21 := zz_eqT c21
                      refine lv_ldc (v := (-1000000001)) hx hb hown (hts (.constant RX9 93 (-1000000001)) (List.mem_cons_of_mem _ bm_138)) dX9_notMoved_113 ?_
                      exact zz_iret hx hb hr hlocks hK hP hS dX9_notMoved_115 (by refine ⟨rfl, Or.inr (Or.inr (Or.inr (Or.inl ⟨by omega, by omega, by omega⟩)))⟩)
                    · have c21 := zz_neT c21
                      skip
                      refine lv_iconst (v := 0) hx hb dX9_notMoved_109 (by decide) ?_
                      refine lv_goto (tgt := 115) hx hb dX9_notMoved_110 (by decide) ?_
                      exact zz_iret hx hb hr hlocks hK hP hS dX9_notMoved_115 (by refine ⟨rfl, Or.inr (Or.inr (Or.inr (Or.inr (⟨by omega, by omega, by omega⟩))))⟩)
                  · have c20 := zz_nltT c20
                    refine lv_iload hx hb dX9_notMoved_83 (lv_at hl 5 rfl) ?_
                    refine lv_aload_n hx hb dX9_notMoved_85 rfl (lv_at hl 0 rfl) ?_
                    refine zz_getr hx hb hts hi9 hown hK hP (g0.1) rfl 5 (by decide) (hts (.fieldLink RX9 22 "NoonLawModel" "sizeOf" "[I") (List.mem_cons_of_mem _ bm_97)) rfl rfl dX9_notMoved_86 ?_
                    refine lv_iload_n hx hb dX9_notMoved_89 rfl (lv_at hl 3 rfl) ?_
                    refine zz_iald hx hb hK hP (g0.2.2.2.2.2.1) (by omega) (by omega) dX9_notMoved_90 (fun j22 q22 r22 => ?_)
                    have hxf : zz_HM σ (h0 + 5) ot.toInt.toNat = (σ (h0 + 5) j22).toInt := by rw [show ot.toInt.toNat = j22 from by omega]; exact zz_HM.at r22
                    have hzj22 := hz5 j22 r22
                    refine lv_iload hx hb dX9_notMoved_91 (lv_at hl 4 rfl) ?_
                    refine lv_isub hx hb dX9_notMoved_93 ?_
                    refine lv_topi (fun n23 e23 => ?_)
                    have f23 : n23.toInt = (σ (h0 + 5) j22).toInt - (jx).toInt := zz_subT e23 (by omega) (by omega)
                    refine lv_icmp_gt (tgt := 101) hx hb dX9_notMoved_94 (by decide) (fun c24 => ?_) (fun c24 => ?_)
                    · have c24 := zz_ltT c24
                      refine lv_iconst (v := 0) hx hb dX9_notMoved_101 (by decide) ?_
                      refine lv_istore (lv' := [(6, .int 0), (0, .ref h0), (1, .int sh), (2, .int ix), (3, .int ot), (4, .int jx), (5, .int nn)]) hx hb dX9_notMoved_102 hl (by decide) rfl (fun ls hl => ?_)
                      refine lv_iload hx hb dX9_notMoved_104 (lv_at hl 0 rfl) ?_
                      refine lv_if_eq (tgt := 113) hx hb dX9_notMoved_106 (by decide) (fun c25 => ?_) (fun c25 => ?_)
                      · have c25 := zz_eqT c25
                        refine lv_ldc (v := (-1000000001)) hx hb hown (hts (.constant RX9 93 (-1000000001)) (List.mem_cons_of_mem _ bm_138)) dX9_notMoved_113 ?_
                        exact zz_iret hx hb hr hlocks hK hP hS dX9_notMoved_115 (by refine ⟨rfl, Or.inr (Or.inr (Or.inr (Or.inl ⟨by omega, by omega, by omega⟩)))⟩)
                      · have c25 := zz_neT c25
                        skip
                        refine lv_iconst (v := 0) hx hb dX9_notMoved_109 (by decide) ?_
                        refine lv_goto (tgt := 115) hx hb dX9_notMoved_110 (by decide) ?_
                        exact zz_iret hx hb hr hlocks hK hP hS dX9_notMoved_115 (by refine ⟨rfl, Or.inr (Or.inr (Or.inr (Or.inr (⟨by omega, by omega, by omega⟩))))⟩)
                    · have c24 := zz_nltT c24
                      refine lv_iconst (v := 1) hx hb dX9_notMoved_97 (by decide) ?_
                      refine lv_goto (tgt := 102) hx hb dX9_notMoved_98 (by decide) ?_
                      refine lv_istore (lv' := [(6, .int 1), (0, .ref h0), (1, .int sh), (2, .int ix), (3, .int ot), (4, .int jx), (5, .int nn)]) hx hb dX9_notMoved_102 hl (by decide) rfl (fun ls hl => ?_)
                      refine lv_iload hx hb dX9_notMoved_104 (lv_at hl 0 rfl) ?_
                      refine lv_if_eq (tgt := 113) hx hb dX9_notMoved_106 (by decide) (fun c26 => ?_) (fun c26 => ?_)
                      · have c26 := zz_eqT c26
                        refine lv_ldc (v := (-1000000001)) hx hb hown (hts (.constant RX9 93 (-1000000001)) (List.mem_cons_of_mem _ bm_138)) dX9_notMoved_113 ?_
                        exact zz_iret hx hb hr hlocks hK hP hS dX9_notMoved_115 (by refine ⟨rfl, Or.inr (Or.inr (Or.inr (Or.inl ⟨by omega, by omega, by omega⟩)))⟩)
                      · have c26 := zz_neT c26
                        skip
                        refine lv_iconst (v := 0) hx hb dX9_notMoved_109 (by decide) ?_
                        refine lv_goto (tgt := 115) hx hb dX9_notMoved_110 (by decide) ?_
                        exact zz_iret hx hb hr hlocks hK hP hS dX9_notMoved_115 (by refine ⟨rfl, Or.inr (Or.inr (Or.inr (Or.inr (⟨by omega, by omega, by omega⟩))))⟩)
          · have c11 := zz_neT c11
            refine lv_ldc (v := (-1000000005)) hx hb hown (hts (.constant RX9 107 (-1000000005)) (List.mem_cons_of_mem _ bm_297)) dX9_notMoved_53 ?_
            exact zz_iret hx hb hr hlocks hK hP hS dX9_notMoved_55 (by refine ⟨rfl, Or.inr (Or.inr (Or.inl ⟨by omega, by omega, by omega⟩))⟩)
        · have c8 := zz_eqT c8
          refine lv_ldc (v := (-1000000002)) hx hb hown (hts (.constant RX9 198 (-1000000002)) (List.mem_cons_of_mem _ bm_687)) dX9_notMoved_35 ?_
          exact zz_iret hx hb hr hlocks hK hP hS dX9_notMoved_37 (by refine ⟨rfl, Or.inr (Or.inl ⟨by omega, by omega, by omega⟩)⟩)
    · have c4 := zz_eqT c4
      refine lv_ldc (v := (-1000000001)) hx hb hown (hts (.constant RX9 93 (-1000000001)) (List.mem_cons_of_mem _ bm_138)) dX9_notMoved_14 ?_
      exact zz_iret hx hb hr hlocks hK hP hS dX9_notMoved_16 (by refine ⟨rfl, Or.inl ⟨by omega, by omega⟩⟩)
theorem gX9_hoursUnder_X9_underAt : GoodIn wzX9_hoursUnder (wsV RX9 73 RX9 yX9_underAt wzX9_underAt) := wz_co bm_393 (wz_co bm_394 (wz_co bm_395 (wz_co bm_5 (wz_in bm_396))))
theorem dS22_1 (x0 : Nat) : ∀ a k : Nat, (a = (x0) + 9 ∨ a = (x0) + 10) → (a = x0 + 9 ∨ a = x0 + 10) := by intro a k h; omega
theorem dS22_2 (x0 : Nat) : ¬ ((x0 + 1) = (x0) + 9 ∨ (x0 + 1) = (x0) + 10) := by omega
set_option maxHeartbeats 4000000 in
set_option maxRecDepth 100000 in
theorem c_X9_hoursUnder (l : Launch) (E : zz_E) (σ : zz_S) (h0 : Nat) (mt : Int32) (ru : Int32) (nn : Int32) (g0 : zz_M E h0) (hn : 0 ≤ nn.toInt ∧ nn.toInt ≤ 240) (hI : zz_IW σ (h0 + 1)) (K : zy_W) (hW : zy_YW σ (h0 + 1) K) : Met l yX9_hoursUnder wzX9_hoursUnder ({ frames := 6, cells := 0, slots := 0, locals := 144 }) (va_Pc [.ref h0, .int mt, .int ru, .int nn] (zz_B E σ)) (va_Qi (fun r σ1 => zz_ch (fun a k => a = h0 + 9 ∨ a = h0 + 10) σ σ1 ∧ (r.toInt = zy_hu K (σ (h0 + 1) 0).toInt mt.toInt ru.toInt nn.toInt.toNat)) (zz_B E) (zz_A E)) 0 0 (zz_A E) := by
  refine zz_met (cc := cX9_hoursUnder) (maxL := 6) (ret := (some .int)) (by decide) rfl (Nat.le_of_ble_eq_true rfl) ?_
  intro p e s m args below meth c ls hx hb hr hts hown hlocks hml hK hP hS hl
  have hl : lv_has ls 6 [(0, .ref h0), (1, .int mt), (2, .int ru), (3, .int nn)] := hl
  have hown : s.vm.findClass RX9 = some m.cls := hown
  have hi9 : ∀ w ∈ wsX90, w ∈ wzX9_hoursUnder := fun w h => List.mem_cons_of_mem _ (hbw9 w h)
  have k_0 : (0 : Int32).toInt = 0 := by decide +kernel
  have k_1 : (1 : Int32).toInt = 1 := by decide +kernel
  replace t0 : σ (h0 + 1) 2 = σ (h0 + 1) 2 := rfl
  replace t1 : σ (h0 + 1) 3 = σ (h0 + 1) 3 := rfl
  replace t2 : σ (h0 + 1) 0 = σ (h0 + 1) 0 := rfl
  have hC : zz_ch (fun a k => a = h0 + 9 ∨ a = h0 + 10) σ σ := zz_ch.rf σ
  obtain ⟨hh, hsl, hd, hp, htc, hwc, hM, hT⟩ := id hI
  refine lv_iconst (v := 0) hx hb dX9_hoursUnder_0 (by decide) ?_
  refine lv_istore (lv' := [(4, .int 0), (0, .ref h0), (1, .int mt), (2, .int ru), (3, .int nn)]) hx hb dX9_hoursUnder_1 hl (by decide) rfl (fun ls hl => ?_)
  refine lv_iconst (v := 0) hx hb dX9_hoursUnder_3 (by decide) ?_
  refine lv_istore (lv' := [(5, .int 0), (4, .int 0), (0, .ref h0), (1, .int mt), (2, .int ru), (3, .int nn)]) hx hb dX9_hoursUnder_4 hl (by decide) rfl (fun ls hl => ?_)
  have J6 : ∀ (n : Nat) (ma : Int32) (ii : Int32) (σa : zz_S) (H : Heap) (locs : List Loc) (ls : Array Slot), ((240 - ii.toInt).toNat) < n → (zz_ch (fun a k => a = h0 + 9 ∨ a = h0 + 10) σ σa) → (0 ≤ ii.toInt ∧ ii.toInt ≤ nn.toInt) → (ma.toInt = zy_cn (fun i => zy_u K ((σ (h0 + 1) 0).toInt + (i : Int)) mt.toInt = ru.toInt) ii.toInt.toNat) → (σa (h0 + 1) 2 = σ (h0 + 1) 2) → (σa (h0 + 1) 3 = σ (h0 + 1) 3) → (σa (h0 + 1) 0 = σ (h0 + 1) 0) → zz_P E σa H → va_S (zz_A E) s.heap H locs → lv_has ls 6 [(5, .int ii), (4, .int ma), (0, .ref h0), (1, .int mt), (2, .int ru), (3, .int nn)] → W p l e (headSpec wzX9_hoursUnder ({ frames := 6, cells := 0, slots := 0, locals := 144 })).room s m args below meth c H locs 0 0 (MQ below (va_Qi (fun r σ1 => zz_ch (fun a k => a = h0 + 9 ∨ a = h0 + 10) σ σ1 ∧ (r.toInt = zy_hu K (σ (h0 + 1) 0).toInt mt.toInt ru.toInt nn.toInt.toNat)) (zz_B E) (zz_A E)) args s 0 0 (zz_A E)) (F0 m 6 ls []) := by
    intro n
    induction n with
    | zero => intro ma ii σa H locs ls hm; exact absurd hm (Nat.not_lt_zero _)
    | succ n ih6 =>
      intro ma ii σa H locs ls hm hC f6_0 f6_1 t0 t1 t2 hP hS hl
      have hcr := zy_cn_rng (fun i => zy_u K ((σ (h0 + 1) 0).toInt + (i : Int)) mt.toInt = ru.toInt) ii.toInt.toNat
      refine lv_iload hx hb dX9_hoursUnder_6 (lv_at hl 0 rfl) ?_
      refine lv_iload_n hx hb dX9_hoursUnder_8 rfl (lv_at hl 5 rfl) ?_
      refine lv_icmp_ge (tgt := 46) hx hb dX9_hoursUnder_9 (by decide) (fun c1 => ?_) (fun c1 => ?_)
      · have c1 := zz_leT c1
        refine lv_iload hx hb dX9_hoursUnder_46 (lv_at hl 1 rfl) ?_
        exact zz_iret hx hb hr hlocks hK hP hS dX9_hoursUnder_48 (by exact ⟨hC, by rw [zy_hu_eq, f6_1, show ii.toInt.toNat = nn.toInt.toNat from by omega]⟩)
      · have c1 := zz_nleT c1
        refine lv_iload hx hb dX9_hoursUnder_12 (lv_at hl 1 rfl) ?_
        refine lv_aload_n hx hb dX9_hoursUnder_14 rfl (lv_at hl 2 rfl) ?_
        refine lv_iload_n hx hb dX9_hoursUnder_15 rfl (lv_at hl 3 rfl) ?_
        refine lv_aload_n hx hb dX9_hoursUnder_16 rfl (lv_at hl 2 rfl) ?_
        refine zz_getr hx hb hts hi9 hown hK hP (g0.1) rfl 0 (by decide) (hts (.fieldLink RX9 9 "NoonLawModel" "row" "[I") (List.mem_cons_of_mem _ bm_93)) rfl rfl dX9_hoursUnder_17 ?_
        refine lv_iconst (v := 0) hx hb dX9_hoursUnder_20 (by decide) ?_
        refine zz_ialc hx hb hK hP (g0.2.1) 0 (by decide) (by decide) t2 dX9_hoursUnder_21 ?_
        refine lv_iload hx hb dX9_hoursUnder_22 (lv_at hl 0 rfl) ?_
        refine lv_iadd hx hb dX9_hoursUnder_24 ?_
        refine lv_topi (fun n3 e3 => ?_)
        have f3 : n3.toInt = (σ (h0 + 1) 0).toInt + (ii).toInt := zz_addT e3 (by omega) (by omega)
        refine zz_callVi (As := [.int mt, .int n3]) (rest := [.int ma]) ⟨hx, hb, hml, hown, hts⟩ hK hP hS (c_X9_underAt l E σa h0 mt n3 g0 (by first | omega | exact hI | exact hT) (by exact hI.keep (fun k => hC _ _ (by first | (dsimp only; omega) | omega))) K (by exact hW.keep (fun k q => hC _ _ (by first | (dsimp only; omega) | omega)))) (cwV 2 hts gX9_hoursUnder_X9_underAt rfl rfl rfl (by decide +kernel) ⟨Nat.le_of_ble_eq_true rfl, Nat.le_of_ble_eq_true rfl⟩) (g0.1) rfl rfl hl.1 rfl (Nat.le_of_ble_eq_true rfl) dX9_hoursUnder_25 ⟨Nat.zero_le _, Nat.zero_le _⟩ (fun r4 σ4 H locs q4 hP1 hS1 => ?_)
        replace hP := hP1
        replace hS := hS1
        clear hP1 hS1
        try dsimp only at q4
        obtain ⟨w4, f4⟩ := q4
        replace hC := hC.tr (w4.mono (dS22_1 h0))
        try simp only [t0, t1, t2] at f4
        replace t0 : σ4 (h0 + 1) 2 = σ (h0 + 1) 2 := (w4 (h0 + 1) 2 (dS22_2 h0)).trans t0
        replace t1 : σ4 (h0 + 1) 3 = σ (h0 + 1) 3 := (w4 (h0 + 1) 3 (dS22_2 h0)).trans t1
        replace t2 : σ4 (h0 + 1) 0 = σ (h0 + 1) 0 := (w4 (h0 + 1) 0 (dS22_2 h0)).trans t2
        have hu9 : zy_u K ((σ (h0 + 1) 0).toInt + ((ii.toInt.toNat : Nat) : Int)) mt.toInt = r4.toInt := by rw [f4]; exact congrArg (fun q => zy_u K q mt.toInt) (by omega)
        refine lv_iload_n hx hb dX9_hoursUnder_28 rfl (lv_at hl 4 rfl) ?_
        refine lv_icmp_ne (tgt := 36) hx hb dX9_hoursUnder_29 (by decide) (fun c5 => ?_) (fun c5 => ?_)
        · have c5 := zz_neT c5
          refine lv_iconst (v := 0) hx hb dX9_hoursUnder_36 (by decide) ?_
          refine lv_iadd hx hb dX9_hoursUnder_37 ?_
          refine lv_topi (fun n6 e6 => ?_)
          have f6 : n6.toInt = (ma).toInt + (0 : Int32).toInt := zz_addT e6 (by omega) (by omega)
          refine lv_istore (lv' := [(4, .int n6), (5, .int ii), (0, .ref h0), (1, .int mt), (2, .int ru), (3, .int nn)]) hx hb dX9_hoursUnder_38 hl (by decide) rfl (fun ls hl => ?_)
          obtain ⟨n7, e7⟩ : ∃ y : Int32, y = ii + 1 := ⟨_, rfl⟩
          have f7 : n7.toInt = (ii).toInt + (1) := by have h9 := zz_addT e7 (by omega) (by omega); omega
          refine lv_iinc (v := n7) (lv' := [(5, .int n7), (4, .int n6), (0, .ref h0), (1, .int mt), (2, .int ru), (3, .int nn)]) hx hb dX9_hoursUnder_40 hl (k := 1) rfl (by rw [e7]; rfl) (by decide) rfl (fun ls hl => ?_)
          refine lv_goto (tgt := 6) hx hb dX9_hoursUnder_43 (by decide) ?_
          exact ih6 n6 n7 σ4 _ _ _ (by omega) hC (by first | omega | exact hI | exact hT) (by rw [show n7.toInt.toNat = ii.toInt.toNat + 1 from by omega]; rw [zy_cn_0 (P := (fun i => zy_u K ((σ (h0 + 1) 0).toInt + (i : Int)) mt.toInt = ru.toInt)) (show ¬ (zy_u K ((σ (h0 + 1) 0).toInt + ((ii.toInt.toNat : Nat) : Int)) mt.toInt = ru.toInt) from by rw [hu9]; omega)]; omega) t0 t1 t2 hP hS (lv_sub hl [0, 1, 2, 3, 4, 5] rfl)
        · have c5 := zz_eqT c5
          skip
          refine lv_iconst (v := 1) hx hb dX9_hoursUnder_32 (by decide) ?_
          refine lv_goto (tgt := 37) hx hb dX9_hoursUnder_33 (by decide) ?_
          refine lv_iadd hx hb dX9_hoursUnder_37 ?_
          refine lv_topi (fun n8 e8 => ?_)
          have f8 : n8.toInt = (ma).toInt + (1 : Int32).toInt := zz_addT e8 (by omega) (by omega)
          refine lv_istore (lv' := [(4, .int n8), (5, .int ii), (0, .ref h0), (1, .int mt), (2, .int ru), (3, .int nn)]) hx hb dX9_hoursUnder_38 hl (by decide) rfl (fun ls hl => ?_)
          obtain ⟨n9, e9⟩ : ∃ y : Int32, y = ii + 1 := ⟨_, rfl⟩
          have f9 : n9.toInt = (ii).toInt + (1) := by have h9 := zz_addT e9 (by omega) (by omega); omega
          refine lv_iinc (v := n9) (lv' := [(5, .int n9), (4, .int n8), (0, .ref h0), (1, .int mt), (2, .int ru), (3, .int nn)]) hx hb dX9_hoursUnder_40 hl (k := 1) rfl (by rw [e9]; rfl) (by decide) rfl (fun ls hl => ?_)
          refine lv_goto (tgt := 6) hx hb dX9_hoursUnder_43 (by decide) ?_
          exact ih6 n8 n9 σ4 _ _ _ (by omega) hC (by first | omega | exact hI | exact hT) (by rw [show n9.toInt.toNat = ii.toInt.toNat + 1 from by omega]; rw [zy_cn_1 (P := (fun i => zy_u K ((σ (h0 + 1) 0).toInt + (i : Int)) mt.toInt = ru.toInt)) (show zy_u K ((σ (h0 + 1) 0).toInt + ((ii.toInt.toNat : Nat) : Int)) mt.toInt = ru.toInt from by rw [hu9]; omega)]; omega) t0 t1 t2 hP hS (lv_sub hl [0, 1, 2, 3, 4, 5] rfl)
  exact J6 _ 0 0 σ _ _ _ (Nat.lt_succ_self _) hC (by first | omega | exact hI | exact hT) (by rw [show (0 : Int32).toInt.toNat = 0 from by decide, k_0]; rfl) t0 t1 t2 hP hS (lv_sub hl [0, 1, 2, 3, 4, 5] rfl)
theorem gX9_inForce_X9_isInForce : GoodIn wzX9_inForce (wsV RX9 62 RX9 yX9_isInForce wzX9_isInForce) := wz_co bm_266 (wz_co bm_267 (wz_co bm_268 (wz_co bm_5 (wz_in bm_269))))
set_option maxHeartbeats 4000000 in
set_option maxRecDepth 100000 in
theorem c_X9_inForce (l : Launch) (E : zz_E) (σ : zz_S) (h0 : Nat) (g0 : zz_M E h0) (hI : zz_IW σ (h0 + 1)) (K : zy_W) (hW : zy_YW σ (h0 + 1) K) : Met l yX9_inForce wzX9_inForce ({ frames := 3, cells := 0, slots := 0, locals := 72 }) (va_Pc [.ref h0] (zz_B E σ)) (va_Qi (fun r σ1 => σ1 = σ ∧ (r = zy_st (zy_F K (σ (h0 + 1) 0).toInt) K.2.2.1.toNat)) (zz_B E) (zz_A E)) 0 0 (zz_A E) := by
  refine zz_met (cc := cX9_inForce) (maxL := 3) (ret := (some .int)) (by decide) rfl (Nat.le_of_ble_eq_true rfl) ?_
  intro p e s m args below meth c ls hx hb hr hts hown hlocks hml hK hP hS hl
  have hl : lv_has ls 3 [(0, .ref h0)] := hl
  have hown : s.vm.findClass RX9 = some m.cls := hown
  have hi9 : ∀ w ∈ wsX90, w ∈ wzX9_inForce := fun w h => List.mem_cons_of_mem _ (hbw9 w h)
  have k_0 : (0 : Int32).toInt = 0 := by decide +kernel
  have k_1 : (1 : Int32).toInt = 1 := by decide +kernel
  have k_2 : (2 : Int32).toInt = 2 := by decide +kernel
  obtain ⟨hh, hsl, hd, hp, htc, hwc, hM, hT⟩ := id hI
  have hct := hW.2.1
  refine lv_iconst (v := 0) hx hb dX9_inForce_0 (by decide) ?_
  refine lv_istore_n (lv' := [(1, .int 0), (0, .ref h0)]) hx hb dX9_inForce_1 rfl hl (by decide) rfl (fun ls hl => ?_)
  refine lv_iconst (v := 0) hx hb dX9_inForce_2 (by decide) ?_
  refine lv_istore_n (lv' := [(2, .int 0), (1, .int 0), (0, .ref h0)]) hx hb dX9_inForce_3 rfl hl (by decide) rfl (fun ls hl => ?_)
  have J4 : ∀ (n : Nat) (se : Int32) (ii : Int32) (H : Heap) (locs : List Loc) (ls : Array Slot), ((9 - ii.toInt).toNat) < n → (0 ≤ ii.toInt ∧ ii.toInt ≤ K.2.2.1) → (se = zy_st (zy_F K (σ (h0 + 1) 0).toInt) ii.toInt.toNat) → zz_P E σ H → va_S (zz_A E) s.heap H locs → lv_has ls 3 [(2, .int ii), (1, .int se), (0, .ref h0)] → W p l e (headSpec wzX9_inForce ({ frames := 3, cells := 0, slots := 0, locals := 72 })).room s m args below meth c H locs 0 0 (MQ below (va_Qi (fun r σ1 => σ1 = σ ∧ (r = zy_st (zy_F K (σ (h0 + 1) 0).toInt) K.2.2.1.toNat)) (zz_B E) (zz_A E)) args s 0 0 (zz_A E)) (F0 m 4 ls []) := by
    intro n
    induction n with
    | zero => intro se ii H locs ls hm; exact absurd hm (Nat.not_lt_zero _)
    | succ n ih4 =>
      intro se ii H locs ls hm f4_0 f4_1 hP hS hl
      refine lv_iload_n hx hb dX9_inForce_4 rfl (lv_at hl 0 rfl) ?_
      refine lv_aload_n hx hb dX9_inForce_5 rfl (lv_at hl 2 rfl) ?_
      refine zz_getr hx hb hts hi9 hown hK hP (g0.1) rfl 0 (by decide) (hts (.fieldLink RX9 9 "NoonLawModel" "row" "[I") (List.mem_cons_of_mem _ bm_93)) rfl rfl dX9_inForce_6 ?_
      refine lv_iconst (v := 2) hx hb dX9_inForce_9 (by decide) ?_
      refine zz_ialc hx hb hK hP (g0.2.1) 2 (by decide) (by decide) rfl dX9_inForce_10 ?_
      refine lv_icmp_ge (tgt := 44) hx hb dX9_inForce_11 (by decide) (fun c2 => ?_) (fun c2 => ?_)
      · have c2 := zz_leT c2
        refine lv_iload_n hx hb dX9_inForce_44 rfl (lv_at hl 1 rfl) ?_
        exact zz_iret hx hb hr hlocks hK hP hS dX9_inForce_45 (by exact ⟨rfl, by rw [f4_1, show ii.toInt.toNat = K.2.2.1.toNat from by omega]⟩)
      · have c2 := zz_nleT c2
        refine lv_iload_n hx hb dX9_inForce_14 rfl (lv_at hl 1 rfl) ?_
        refine lv_aload_n hx hb dX9_inForce_15 rfl (lv_at hl 2 rfl) ?_
        refine lv_iload_n hx hb dX9_inForce_16 rfl (lv_at hl 0 rfl) ?_
        refine lv_aload_n hx hb dX9_inForce_17 rfl (lv_at hl 2 rfl) ?_
        refine zz_getr hx hb hts hi9 hown hK hP (g0.1) rfl 0 (by decide) (hts (.fieldLink RX9 9 "NoonLawModel" "row" "[I") (List.mem_cons_of_mem _ bm_93)) rfl rfl dX9_inForce_18 ?_
        refine lv_iconst (v := 0) hx hb dX9_inForce_21 (by decide) ?_
        refine zz_ialc hx hb hK hP (g0.2.1) 0 (by decide) (by decide) rfl dX9_inForce_22 ?_
        refine zz_callVp (As := [.int ii, .int (σ (h0 + 1) 0)]) (rest := [.int se]) ⟨hx, hb, hml, hown, hts⟩ hK hP hS (c_X9_isInForce l E σ h0 ii (σ (h0 + 1) 0) g0 (by first | omega | exact hI | exact hT) (by first | omega | exact hI | exact hT) K (by exact hW)) (cwV 2 hts gX9_inForce_X9_isInForce rfl rfl rfl (by decide +kernel) ⟨Nat.le_of_ble_eq_true rfl, Nat.le_of_ble_eq_true rfl⟩) (g0.1) rfl rfl hl.1 rfl (Nat.le_of_ble_eq_true rfl) dX9_inForce_23 ⟨Nat.zero_le _, Nat.zero_le _⟩ (fun r4 H locs f4 hP1 hS1 => ?_)
        replace hP := hP1
        replace hS := hS1
        clear hP1 hS1
        have hF9 := f4
        refine lv_if_eq (tgt := 35) hx hb dX9_inForce_26 (by decide) (fun c5 => ?_) (fun c5 => ?_)
        · have c5 := zz_eqT c5
          refine lv_iconst (v := 0) hx hb dX9_inForce_35 (by decide) ?_
          refine lv_ior hx hb dX9_inForce_36 ?_
          refine lv_topi (fun n6 e6 => ?_)
          refine lv_istore_n (lv' := [(1, .int n6), (2, .int ii), (0, .ref h0)]) hx hb dX9_inForce_37 rfl hl (by decide) rfl (fun ls hl => ?_)
          obtain ⟨n7, e7⟩ : ∃ y : Int32, y = ii + 1 := ⟨_, rfl⟩
          have f7 : n7.toInt = (ii).toInt + (1) := by have h9 := zz_addT e7 (by omega) (by omega); omega
          refine lv_iinc (v := n7) (lv' := [(2, .int n7), (1, .int n6), (0, .ref h0)]) hx hb dX9_inForce_38 hl (k := 1) rfl (by rw [e7]; rfl) (by decide) rfl (fun ls hl => ?_)
          refine lv_goto (tgt := 4) hx hb dX9_inForce_41 (by decide) ?_
          exact ih4 n6 n7 _ _ _ (by omega) (by first | omega | exact hI | exact hT) (by rw [show n7.toInt.toNat = ii.toInt.toNat + 1 from by omega]; exact zy_st_no0 (P := zy_F K (σ (h0 + 1) 0).toInt) (hF9.n (by omega)) f4_1 e6 rfl) hP hS (lv_sub hl [0, 1, 2] rfl)
        · have c5 := zz_neT c5
          skip
          refine lv_iconst (v := 1) hx hb dX9_inForce_29 (by decide) ?_
          refine lv_iload_n hx hb dX9_inForce_30 rfl (lv_at hl 0 rfl) ?_
          refine lv_ishl hx hb dX9_inForce_31 ?_
          refine lv_topi (fun n8 e8 => ?_)
          refine lv_goto (tgt := 36) hx hb dX9_inForce_32 (by decide) ?_
          refine lv_ior hx hb dX9_inForce_36 ?_
          refine lv_topi (fun n9 e9 => ?_)
          refine lv_istore_n (lv' := [(1, .int n9), (2, .int ii), (0, .ref h0)]) hx hb dX9_inForce_37 rfl hl (by decide) rfl (fun ls hl => ?_)
          obtain ⟨n10, e10⟩ : ∃ y : Int32, y = ii + 1 := ⟨_, rfl⟩
          have f10 : n10.toInt = (ii).toInt + (1) := by have h9 := zz_addT e10 (by omega) (by omega); omega
          refine lv_iinc (v := n10) (lv' := [(2, .int n10), (1, .int n9), (0, .ref h0)]) hx hb dX9_inForce_38 hl (k := 1) rfl (by rw [e10]; rfl) (by decide) rfl (fun ls hl => ?_)
          refine lv_goto (tgt := 4) hx hb dX9_inForce_41 (by decide) ?_
          exact ih4 n9 n10 _ _ _ (by omega) (by first | omega | exact hI | exact hT) (by rw [show n10.toInt.toNat = ii.toInt.toNat + 1 from by omega]; exact zy_st_in (P := zy_F K (σ (h0 + 1) 0).toInt) (hF9.y (by omega)) f4_1 (i := ii) (by omega) e8 e9 rfl) hP hS (lv_sub hl [0, 1, 2] rfl)
  exact J4 _ 0 0 _ _ _ (Nat.lt_succ_self _) (by first | omega | exact hI | exact hT) (by rw [show (0 : Int32).toInt.toNat = 0 from by decide]; rfl) hP hS (lv_sub hl [0, 1, 2] rfl)
theorem gX9_dreamsOf_X9_of : GoodIn wzX9_dreamsOf (wsV RX9 51 RX9 yX9_of wzX9_of) := wz_co bm_240 (wz_co bm_241 (wz_co bm_242 (wz_co bm_5 (wz_in bm_243))))
set_option maxHeartbeats 4000000 in
set_option maxRecDepth 100000 in
theorem c_X9_dreamsOf (l : Launch) (E : zz_E) (σ : zz_S) (h0 : Nat) (mt : Int32) (g0 : zz_M E h0) (hI : zz_IW σ (h0 + 1)) (K : zy_W) (hW : zy_YW σ (h0 + 1) K) : Met l yX9_dreamsOf wzX9_dreamsOf ({ frames := 1, cells := 0, slots := 0, locals := 22 }) (va_Pc [.ref h0, .int mt] (zz_B E σ)) (va_Qi (fun r σ1 => σ1 = σ ∧ (r = zy_st (fun d => K.2.1 d 2 = mt.toInt ∧ K.2.1 d 5 = 0) K.2.2.1.toNat ∧ 0 ≤ r.toInt ∧ r.toInt < 1024)) (zz_B E) (zz_A E)) 0 0 (zz_A E) := by
  refine zz_met (cc := cX9_dreamsOf) (maxL := 4) (ret := (some .int)) (by decide) rfl (Nat.le_of_ble_eq_true rfl) ?_
  intro p e s m args below meth c ls hx hb hr hts hown hlocks hml hK hP hS hl
  have hl : lv_has ls 4 [(0, .ref h0), (1, .int mt)] := hl
  have hown : s.vm.findClass RX9 = some m.cls := hown
  have hi9 : ∀ w ∈ wsX90, w ∈ wzX9_dreamsOf := fun w h => List.mem_cons_of_mem _ (hbw9 w h)
  have k_0 : (0 : Int32).toInt = 0 := by decide +kernel
  have k_1 : (1 : Int32).toInt = 1 := by decide +kernel
  have k_2 : (2 : Int32).toInt = 2 := by decide +kernel
  have k_5 : (5 : Int32).toInt = 5 := by decide +kernel
  obtain ⟨hh, hsl, hd, hp, htc, hwc, hM, hT⟩ := id hI
  have hct := hW.2.1
  refine lv_iconst (v := 0) hx hb dX9_dreamsOf_0 (by decide) ?_
  refine lv_istore_n (lv' := [(2, .int 0), (0, .ref h0), (1, .int mt)]) hx hb dX9_dreamsOf_1 rfl hl (by decide) rfl (fun ls hl => ?_)
  refine lv_iconst (v := 0) hx hb dX9_dreamsOf_2 (by decide) ?_
  refine lv_istore_n (lv' := [(3, .int 0), (2, .int 0), (0, .ref h0), (1, .int mt)]) hx hb dX9_dreamsOf_3 rfl hl (by decide) rfl (fun ls hl => ?_)
  have J4 : ∀ (n : Nat) (se : Int32) (ii : Int32) (H : Heap) (locs : List Loc) (ls : Array Slot), ((9 - ii.toInt).toNat) < n → (0 ≤ ii.toInt ∧ ii.toInt ≤ K.2.2.1) → (se = zy_st (fun d => K.2.1 d 2 = mt.toInt ∧ K.2.1 d 5 = 0) ii.toInt.toNat) → zz_P E σ H → va_S (zz_A E) s.heap H locs → lv_has ls 4 [(3, .int ii), (2, .int se), (0, .ref h0), (1, .int mt)] → W p l e (headSpec wzX9_dreamsOf ({ frames := 1, cells := 0, slots := 0, locals := 22 })).room s m args below meth c H locs 0 0 (MQ below (va_Qi (fun r σ1 => σ1 = σ ∧ (r = zy_st (fun d => K.2.1 d 2 = mt.toInt ∧ K.2.1 d 5 = 0) K.2.2.1.toNat ∧ 0 ≤ r.toInt ∧ r.toInt < 1024)) (zz_B E) (zz_A E)) args s 0 0 (zz_A E)) (F0 m 4 ls []) := by
    intro n
    induction n with
    | zero => intro se ii H locs ls hm; exact absurd hm (Nat.not_lt_zero _)
    | succ n ih4 =>
      intro se ii H locs ls hm f4_0 f4_1 hP hS hl
      refine lv_iload_n hx hb dX9_dreamsOf_4 rfl (lv_at hl 0 rfl) ?_
      refine lv_aload_n hx hb dX9_dreamsOf_5 rfl (lv_at hl 2 rfl) ?_
      refine zz_getr hx hb hts hi9 hown hK hP (g0.1) rfl 0 (by decide) (hts (.fieldLink RX9 9 "NoonLawModel" "row" "[I") (List.mem_cons_of_mem _ bm_93)) rfl rfl dX9_dreamsOf_6 ?_
      refine lv_iconst (v := 2) hx hb dX9_dreamsOf_9 (by decide) ?_
      refine zz_ialc hx hb hK hP (g0.2.1) 2 (by decide) (by decide) rfl dX9_dreamsOf_10 ?_
      refine lv_icmp_ge (tgt := 49) hx hb dX9_dreamsOf_11 (by decide) (fun c2 => ?_) (fun c2 => ?_)
      · have c2 := zz_leT c2
        refine lv_iload_n hx hb dX9_dreamsOf_49 rfl (lv_at hl 1 rfl) ?_
        have hrr := zy_st_rng (fun d => K.2.1 d 2 = mt.toInt ∧ K.2.1 d 5 = 0) (n := K.2.2.1.toNat) (by omega)
        have hr9 : se = zy_st (fun d => K.2.1 d 2 = mt.toInt ∧ K.2.1 d 5 = 0) K.2.2.1.toNat := by rw [f4_1, show ii.toInt.toNat = K.2.2.1.toNat from by omega]
        exact zz_iret hx hb hr hlocks hK hP hS dX9_dreamsOf_50 (by exact ⟨rfl, hr9, by rw [hr9]; exact hrr⟩)
      · have c2 := zz_nleT c2
        refine lv_iload_n hx hb dX9_dreamsOf_14 rfl (lv_at hl 1 rfl) ?_
        refine lv_aload_n hx hb dX9_dreamsOf_15 rfl (lv_at hl 2 rfl) ?_
        refine lv_iload_n hx hb dX9_dreamsOf_16 rfl (lv_at hl 0 rfl) ?_
        refine lv_iconst (v := 2) hx hb dX9_dreamsOf_17 (by decide) ?_
        refine zz_callVp (As := [.int ii, .int 2]) (rest := [.int se]) ⟨hx, hb, hml, hown, hts⟩ hK hP hS (c_X9_of l E σ h0 ii 2 g0 (by first | omega | exact hI | exact hT)) (cwV 2 hts gX9_dreamsOf_X9_of rfl rfl rfl (by decide +kernel) ⟨Nat.le_of_ble_eq_true rfl, Nat.le_of_ble_eq_true rfl⟩) (g0.1) rfl rfl hl.1 rfl (Nat.le_of_ble_eq_true rfl) dX9_dreamsOf_18 ⟨Nat.zero_le _, Nat.zero_le _⟩ (fun r3 H locs f3 hP1 hS1 => ?_)
        replace hP := hP1
        replace hS := hS1
        clear hP1 hS1
        have yo2 : r3.toInt = K.2.1 ii.toInt.toNat 2 := by rw [f3]; exact (congrArg (fun q => (σ (h0 + 1) q).toInt) (by omega)).trans (hW.at (j := ii.toInt.toNat) (f := 2) (by omega) (by decide))
        refine lv_iload_n hx hb dX9_dreamsOf_21 rfl (lv_at hl 3 rfl) ?_
        refine lv_icmp_ne (tgt := 40) hx hb dX9_dreamsOf_22 (by decide) (fun c4 => ?_) (fun c4 => ?_)
        · have c4 := zz_neT c4
          refine lv_iconst (v := 0) hx hb dX9_dreamsOf_40 (by decide) ?_
          refine lv_ior hx hb dX9_dreamsOf_41 ?_
          refine lv_topi (fun n5 e5 => ?_)
          refine lv_istore_n (lv' := [(2, .int n5), (3, .int ii), (0, .ref h0), (1, .int mt)]) hx hb dX9_dreamsOf_42 rfl hl (by decide) rfl (fun ls hl => ?_)
          obtain ⟨n6, e6⟩ : ∃ y : Int32, y = ii + 1 := ⟨_, rfl⟩
          have f6 : n6.toInt = (ii).toInt + (1) := by have h9 := zz_addT e6 (by omega) (by omega); omega
          refine lv_iinc (v := n6) (lv' := [(3, .int n6), (2, .int n5), (0, .ref h0), (1, .int mt)]) hx hb dX9_dreamsOf_43 hl (k := 1) rfl (by rw [e6]; rfl) (by decide) rfl (fun ls hl => ?_)
          refine lv_goto (tgt := 4) hx hb dX9_dreamsOf_46 (by decide) ?_
          exact ih4 n5 n6 _ _ _ (by omega) (by first | omega | exact hI | exact hT) (by rw [show n6.toInt.toNat = ii.toInt.toNat + 1 from by omega]; exact zy_st_no0 (P := (fun d => K.2.1 d 2 = mt.toInt ∧ K.2.1 d 5 = 0)) (show ¬ (K.2.1 ii.toInt.toNat 2 = mt.toInt ∧ K.2.1 ii.toInt.toNat 5 = 0) from by omega) f4_1 e5 rfl) hP hS (lv_sub hl [0, 1, 2, 3] rfl)
        · have c4 := zz_eqT c4
          refine lv_aload_n hx hb dX9_dreamsOf_25 rfl (lv_at hl 2 rfl) ?_
          refine lv_iload_n hx hb dX9_dreamsOf_26 rfl (lv_at hl 0 rfl) ?_
          refine lv_iconst (v := 5) hx hb dX9_dreamsOf_27 (by decide) ?_
          refine zz_callVp (As := [.int ii, .int 5]) (rest := [.int se]) ⟨hx, hb, hml, hown, hts⟩ hK hP hS (c_X9_of l E σ h0 ii 5 g0 (by first | omega | exact hI | exact hT)) (cwV 2 hts gX9_dreamsOf_X9_of rfl rfl rfl (by decide +kernel) ⟨Nat.le_of_ble_eq_true rfl, Nat.le_of_ble_eq_true rfl⟩) (g0.1) rfl rfl hl.1 rfl (Nat.le_of_ble_eq_true rfl) dX9_dreamsOf_28 ⟨Nat.zero_le _, Nat.zero_le _⟩ (fun r7 H locs f7 hP1 hS1 => ?_)
          replace hP := hP1
          replace hS := hS1
          clear hP1 hS1
          have yo5 : r7.toInt = K.2.1 ii.toInt.toNat 5 := by rw [f7]; exact (congrArg (fun q => (σ (h0 + 1) q).toInt) (by omega)).trans (hW.at (j := ii.toInt.toNat) (f := 5) (by omega) (by decide))
          refine lv_if_ne (tgt := 40) hx hb dX9_dreamsOf_31 (by decide) (fun c8 => ?_) (fun c8 => ?_)
          · have c8 := zz_neT c8
            refine lv_iconst (v := 0) hx hb dX9_dreamsOf_40 (by decide) ?_
            refine lv_ior hx hb dX9_dreamsOf_41 ?_
            refine lv_topi (fun n9 e9 => ?_)
            refine lv_istore_n (lv' := [(2, .int n9), (3, .int ii), (0, .ref h0), (1, .int mt)]) hx hb dX9_dreamsOf_42 rfl hl (by decide) rfl (fun ls hl => ?_)
            obtain ⟨n10, e10⟩ : ∃ y : Int32, y = ii + 1 := ⟨_, rfl⟩
            have f10 : n10.toInt = (ii).toInt + (1) := by have h9 := zz_addT e10 (by omega) (by omega); omega
            refine lv_iinc (v := n10) (lv' := [(3, .int n10), (2, .int n9), (0, .ref h0), (1, .int mt)]) hx hb dX9_dreamsOf_43 hl (k := 1) rfl (by rw [e10]; rfl) (by decide) rfl (fun ls hl => ?_)
            refine lv_goto (tgt := 4) hx hb dX9_dreamsOf_46 (by decide) ?_
            exact ih4 n9 n10 _ _ _ (by omega) (by first | omega | exact hI | exact hT) (by rw [show n10.toInt.toNat = ii.toInt.toNat + 1 from by omega]; exact zy_st_no0 (P := (fun d => K.2.1 d 2 = mt.toInt ∧ K.2.1 d 5 = 0)) (show ¬ (K.2.1 ii.toInt.toNat 2 = mt.toInt ∧ K.2.1 ii.toInt.toNat 5 = 0) from by omega) f4_1 e9 rfl) hP hS (lv_sub hl [0, 1, 2, 3] rfl)
          · have c8 := zz_eqT c8
            skip
            refine lv_iconst (v := 1) hx hb dX9_dreamsOf_34 (by decide) ?_
            refine lv_iload_n hx hb dX9_dreamsOf_35 rfl (lv_at hl 0 rfl) ?_
            refine lv_ishl hx hb dX9_dreamsOf_36 ?_
            refine lv_topi (fun n11 e11 => ?_)
            refine lv_goto (tgt := 41) hx hb dX9_dreamsOf_37 (by decide) ?_
            refine lv_ior hx hb dX9_dreamsOf_41 ?_
            refine lv_topi (fun n12 e12 => ?_)
            refine lv_istore_n (lv' := [(2, .int n12), (3, .int ii), (0, .ref h0), (1, .int mt)]) hx hb dX9_dreamsOf_42 rfl hl (by decide) rfl (fun ls hl => ?_)
            obtain ⟨n13, e13⟩ : ∃ y : Int32, y = ii + 1 := ⟨_, rfl⟩
            have f13 : n13.toInt = (ii).toInt + (1) := by have h9 := zz_addT e13 (by omega) (by omega); omega
            refine lv_iinc (v := n13) (lv' := [(3, .int n13), (2, .int n12), (0, .ref h0), (1, .int mt)]) hx hb dX9_dreamsOf_43 hl (k := 1) rfl (by rw [e13]; rfl) (by decide) rfl (fun ls hl => ?_)
            refine lv_goto (tgt := 4) hx hb dX9_dreamsOf_46 (by decide) ?_
            exact ih4 n12 n13 _ _ _ (by omega) (by first | omega | exact hI | exact hT) (by rw [show n13.toInt.toNat = ii.toInt.toNat + 1 from by omega]; exact zy_st_in (P := (fun d => K.2.1 d 2 = mt.toInt ∧ K.2.1 d 5 = 0)) (show K.2.1 ii.toInt.toNat 2 = mt.toInt ∧ K.2.1 ii.toInt.toNat 5 = 0 from by omega) f4_1 (i := ii) (by omega) e11 e12 rfl) hP hS (lv_sub hl [0, 1, 2, 3] rfl)
  exact J4 _ 0 0 _ _ _ (Nat.lt_succ_self _) (by first | omega | exact hI | exact hT) (by rw [show (0 : Int32).toInt.toNat = 0 from by decide]; rfl) hP hS (lv_sub hl [0, 1, 2, 3] rfl)
theorem gX9_findWeights_X9_isInForce : GoodIn wzX9_findWeights (wsV RX9 62 RX9 yX9_isInForce wzX9_isInForce) := wz_co bm_266 (wz_co bm_267 (wz_co bm_268 (wz_co bm_5 (wz_in bm_269))))
theorem gX9_findWeights_X9_weightOf : GoodIn wzX9_findWeights (wsV RX9 66 RX9 yX9_weightOf wzX9_weightOf) := wz_co bm_244 (wz_co bm_245 (wz_co bm_246 (wz_co bm_5 (wz_in bm_247))))
theorem dS22_3 (x0 : Nat) : (x0 + 11) = x0 + 9 ∨ (x0 + 11) = x0 + 10 ∨ (x0 + 11) = x0 + 11 := by omega
theorem dS22_4 (x0 : Nat) : ∀ a k : Nat, (a = (x0) + 9 ∨ a = (x0) + 10) → (a = x0 + 9 ∨ a = x0 + 10 ∨ a = x0 + 11) := by intro a k h; omega
set_option maxHeartbeats 4000000 in
set_option maxRecDepth 100000 in
theorem c_X9_findWeights (l : Launch) (E : zz_E) (σ : zz_S) (h0 : Nat) (so : Int32) (nn : Int32) (g0 : zz_M E h0) (hn : 0 ≤ nn.toInt ∧ nn.toInt ≤ 240) (hso : 0 ≤ so.toInt ∧ so.toInt < 1024) (hI : zz_IW σ (h0 + 1)) (K : zy_W) (hW : zy_YW σ (h0 + 1) K) : Met l yX9_findWeights wzX9_findWeights ({ frames := 4, cells := 0, slots := 0, locals := 94 }) (va_Pc [.ref h0, .int so, .int nn] (zz_B E σ)) (va_Qv (fun σ1 => zz_ch (fun a k => a = h0 + 9 ∨ a = h0 + 10 ∨ a = h0 + 11) σ σ1 ∧ (∀ k : Nat, (k : Int) < nn.toInt → ∀ d : Nat, (d : Int) < K.2.2.1 → (σ1 (h0 + 11) (9 * k + d)).toInt = zy_tw K ((σ (h0 + 1) 0).toInt + (k : Int)) so d)) (zz_B E) (zz_A E)) 0 0 (zz_A E) := by
  refine zz_met (cc := cX9_findWeights) (maxL := 6) (ret := none) (by decide) rfl (Nat.le_of_ble_eq_true rfl) ?_
  intro p e s m args below meth c ls hx hb hr hts hown hlocks hml hK hP hS hl
  have hl : lv_has ls 6 [(0, .ref h0), (1, .int so), (2, .int nn)] := hl
  have hown : s.vm.findClass RX9 = some m.cls := hown
  have hi9 : ∀ w ∈ wsX90, w ∈ wzX9_findWeights := fun w h => List.mem_cons_of_mem _ (hbw9 w h)
  have k_m1000000000 : ((-1000000000) : Int32).toInt = -1000000000 := by decide +kernel
  have k_0 : (0 : Int32).toInt = 0 := by decide +kernel
  have k_1 : (1 : Int32).toInt = 1 := by decide +kernel
  have k_2 : (2 : Int32).toInt = 2 := by decide +kernel
  have k_9 : (9 : Int32).toInt = 9 := by decide +kernel
  replace t0 : σ (h0 + 1) 2 = σ (h0 + 1) 2 := rfl
  replace t1 : σ (h0 + 1) 3 = σ (h0 + 1) 3 := rfl
  replace t2 : σ (h0 + 1) 0 = σ (h0 + 1) 0 := rfl
  have hC : zz_ch (fun a k => a = h0 + 9 ∨ a = h0 + 10 ∨ a = h0 + 11) σ σ := zz_ch.rf σ
  obtain ⟨hh, hsl, hd, hp, htc, hwc, hM, hT⟩ := id hI
  have hct := hW.2.1
  refine lv_iconst (v := 0) hx hb dX9_findWeights_0 (by decide) ?_
  refine lv_istore_n (lv' := [(3, .int 0), (0, .ref h0), (1, .int so), (2, .int nn)]) hx hb dX9_findWeights_1 rfl hl (by decide) rfl (fun ls hl => ?_)
  have J2 : ∀ (n : Nat) (ii : Int32) (σa : zz_S) (H : Heap) (locs : List Loc) (ls : Array Slot), ((240 - ii.toInt).toNat) < n → (zz_ch (fun a k => a = h0 + 9 ∨ a = h0 + 10 ∨ a = h0 + 11) σ σa) → (0 ≤ ii.toInt ∧ ii.toInt ≤ nn.toInt) → (∀ k : Nat, (k : Int) < ii.toInt → ∀ d : Nat, (d : Int) < K.2.2.1 → (σa (h0 + 11) (9 * k + d)).toInt = zy_tw K ((σ (h0 + 1) 0).toInt + (k : Int)) so d) → (σa (h0 + 1) 2 = σ (h0 + 1) 2) → (σa (h0 + 1) 3 = σ (h0 + 1) 3) → (σa (h0 + 1) 0 = σ (h0 + 1) 0) → zz_P E σa H → va_S (zz_A E) s.heap H locs → lv_has ls 6 [(3, .int ii), (0, .ref h0), (1, .int so), (2, .int nn)] → W p l e (headSpec wzX9_findWeights ({ frames := 4, cells := 0, slots := 0, locals := 94 })).room s m args below meth c H locs 0 0 (MQ below (va_Qv (fun σ1 => zz_ch (fun a k => a = h0 + 9 ∨ a = h0 + 10 ∨ a = h0 + 11) σ σ1 ∧ (∀ k : Nat, (k : Int) < nn.toInt → ∀ d : Nat, (d : Int) < K.2.2.1 → (σ1 (h0 + 11) (9 * k + d)).toInt = zy_tw K ((σ (h0 + 1) 0).toInt + (k : Int)) so d)) (zz_B E) (zz_A E)) args s 0 0 (zz_A E)) (F0 m 2 ls []) := by
    intro n
    induction n with
    | zero => intro ii σa H locs ls hm; exact absurd hm (Nat.not_lt_zero _)
    | succ n ih2 =>
      intro ii σa H locs ls hm hC f2_0 f2_1 t0 t1 t2 hP hS hl
      refine lv_iload_n hx hb dX9_findWeights_2 rfl (lv_at hl 0 rfl) ?_
      refine lv_iload_n hx hb dX9_findWeights_3 rfl (lv_at hl 3 rfl) ?_
      refine lv_icmp_ge (tgt := 103) hx hb dX9_findWeights_4 (by decide) (fun c1 => ?_) (fun c1 => ?_)
      · have c1 := zz_leT c1
        exact zz_vret hx hb hr hlocks hK hP hS dX9_findWeights_103 (by exact ⟨hC, fun k hk d hd => f2_1 k (by omega) d hd⟩)
      · have c1 := zz_nleT c1
        refine lv_iconst (v := 0) hx hb dX9_findWeights_7 (by decide) ?_
        refine lv_istore (lv' := [(4, .int 0), (3, .int ii), (0, .ref h0), (1, .int so), (2, .int nn)]) hx hb dX9_findWeights_8 hl (by decide) rfl (fun ls hl => ?_)
        have J10 : ∀ (n : Nat) (dj : Int32) (σb : zz_S) (H : Heap) (locs : List Loc) (ls : Array Slot), ((9 - dj.toInt).toNat) < n → (zz_ch (fun a k => a = h0 + 9 ∨ a = h0 + 10 ∨ a = h0 + 11) σ σb) → (0 ≤ dj.toInt ∧ dj.toInt ≤ K.2.2.1) → (∀ k : Nat, (k : Int) < ii.toInt → ∀ d : Nat, (d : Int) < K.2.2.1 → (σb (h0 + 11) (9 * k + d)).toInt = zy_tw K ((σ (h0 + 1) 0).toInt + (k : Int)) so d) → (∀ d : Nat, (d : Int) < dj.toInt → (σb (h0 + 11) (9 * ii.toInt.toNat + d)).toInt = zy_tw K ((σ (h0 + 1) 0).toInt + ((ii.toInt.toNat : Nat) : Int)) so d) → (σb (h0 + 1) 2 = σ (h0 + 1) 2) → (σb (h0 + 1) 3 = σ (h0 + 1) 3) → (σb (h0 + 1) 0 = σ (h0 + 1) 0) → zz_P E σb H → va_S (zz_A E) s.heap H locs → lv_has ls 6 [(4, .int dj), (3, .int ii), (0, .ref h0), (1, .int so), (2, .int nn)] → W p l e (headSpec wzX9_findWeights ({ frames := 4, cells := 0, slots := 0, locals := 94 })).room s m args below meth c H locs 0 0 (MQ below (va_Qv (fun σ1 => zz_ch (fun a k => a = h0 + 9 ∨ a = h0 + 10 ∨ a = h0 + 11) σ σ1 ∧ (∀ k : Nat, (k : Int) < nn.toInt → ∀ d : Nat, (d : Int) < K.2.2.1 → (σ1 (h0 + 11) (9 * k + d)).toInt = zy_tw K ((σ (h0 + 1) 0).toInt + (k : Int)) so d)) (zz_B E) (zz_A E)) args s 0 0 (zz_A E)) (F0 m 10 ls []) := by
          intro n
          induction n with
          | zero => intro dj σb H locs ls hm; exact absurd hm (Nat.not_lt_zero _)
          | succ n ih10 =>
            intro dj σb H locs ls hm hC f10_0 f10_1 f10_2 t0 t1 t2 hP hS hl
            refine lv_iload hx hb dX9_findWeights_10 (lv_at hl 0 rfl) ?_
            refine lv_aload_n hx hb dX9_findWeights_12 rfl (lv_at hl 2 rfl) ?_
            refine zz_getr hx hb hts hi9 hown hK hP (g0.1) rfl 0 (by decide) (hts (.fieldLink RX9 9 "NoonLawModel" "row" "[I") (List.mem_cons_of_mem _ bm_93)) rfl rfl dX9_findWeights_13 ?_
            refine lv_iconst (v := 2) hx hb dX9_findWeights_16 (by decide) ?_
            refine zz_ialc hx hb hK hP (g0.2.1) 2 (by decide) (by decide) t0 dX9_findWeights_17 ?_
            refine lv_icmp_ge (tgt := 97) hx hb dX9_findWeights_18 (by decide) (fun c3 => ?_) (fun c3 => ?_)
            · have c3 := zz_leT c3
              obtain ⟨n4, e4⟩ : ∃ y : Int32, y = ii + 1 := ⟨_, rfl⟩
              have f4 : n4.toInt = (ii).toInt + (1) := by have h9 := zz_addT e4 (by omega) (by omega); omega
              refine lv_iinc (v := n4) (lv' := [(3, .int n4), (4, .int dj), (0, .ref h0), (1, .int so), (2, .int nn)]) hx hb dX9_findWeights_97 hl (k := 1) rfl (by rw [e4]; rfl) (by decide) rfl (fun ls hl => ?_)
              refine lv_goto (tgt := 2) hx hb dX9_findWeights_100 (by decide) ?_
              exact ih2 n4 σb _ _ _ (by omega) hC (by first | omega | exact hI | exact hT) (by intro k hk d hd; exact if hq : (k : Int) = ii.toInt then (by rw [show k = ii.toInt.toNat from by omega]; exact f10_2 d (by omega)) else f10_1 k (by omega) d hd) t0 t1 t2 hP hS (lv_sub hl [0, 2, 3, 4] rfl)
            · have c3 := zz_nleT c3
              refine lv_iload_n hx hb dX9_findWeights_21 rfl (lv_at hl 3 rfl) ?_
              refine lv_iload hx hb dX9_findWeights_22 (lv_at hl 0 rfl) ?_
              refine lv_ishr hx hb dX9_findWeights_24 ?_
              refine lv_topi (fun n5 e5 => ?_)
              refine lv_iconst (v := 1) hx hb dX9_findWeights_25 (by decide) ?_
              refine lv_iand hx hb dX9_findWeights_26 ?_
              refine lv_topi (fun n6 e6 => ?_)
              have hT9 := zy_tb_shr hso (m := dj.toInt.toNat) (i := dj) (by omega) (by omega) e5 e6
              refine lv_iconst (v := 1) hx hb dX9_findWeights_27 (by decide) ?_
              refine lv_icmp_ne (tgt := 52) hx hb dX9_findWeights_28 (by decide) (fun c7 => ?_) (fun c7 => ?_)
              · have c7 := zz_neT c7
                refine lv_iconst (v := 0) hx hb dX9_findWeights_52 (by decide) ?_
                refine lv_istore (lv' := [(5, .int 0), (4, .int dj), (3, .int ii), (0, .ref h0), (1, .int so), (2, .int nn)]) hx hb dX9_findWeights_53 hl (by decide) rfl (fun ls hl => ?_)
                refine lv_aload_n hx hb dX9_findWeights_55 rfl (lv_at hl 3 rfl) ?_
                refine zz_getr hx hb hts hi9 hown hK hP (g0.1) rfl 16 (by decide) (hts (.fieldLink RX9 40 "NoonLawModel" "weights" "[I") (List.mem_cons_of_mem _ bm_103)) rfl rfl dX9_findWeights_56 ?_
                refine lv_bipush (v := 9) hx hb dX9_findWeights_59 (by decide) ?_
                refine lv_iload_n hx hb dX9_findWeights_61 rfl (lv_at hl 2 rfl) ?_
                refine lv_imul hx hb dX9_findWeights_62 ?_
                refine lv_topi (fun n8 e8 => ?_)
                have f8 : n8.toInt = 9 * (ii).toInt := zz_mulL 9 e8 (by decide) (by omega) (by omega)
                refine lv_iload hx hb dX9_findWeights_63 (lv_at hl 1 rfl) ?_
                refine lv_iadd hx hb dX9_findWeights_65 ?_
                refine lv_topi (fun n9 e9 => ?_)
                have f9 : n9.toInt = (n8).toInt + (dj).toInt := zz_addT e9 (by omega) (by omega)
                refine lv_iload hx hb dX9_findWeights_66 (lv_at hl 0 rfl) ?_
                refine lv_if_eq (tgt := 88) hx hb dX9_findWeights_68 (by decide) (fun c10 => ?_) (fun c10 => ?_)
                · have c10 := zz_eqT c10
                  refine lv_ldc (v := (-1000000000)) hx hb hown (hts (.constant RX9 46 (-1000000000)) (List.mem_cons_of_mem _ bm_150)) dX9_findWeights_88 ?_
                  skip
                  refine zz_iast hx hb hK hP hS (g0.2.2.2.2.2.2.2.2.2.2.2.1) (by omega) (by omega) dX9_findWeights_90 (fun j11 σ11 H locs q11 r11 w11 hP1 hS1 => ?_)
                  replace hP := hP1
                  replace hS := hS1
                  clear hP1 hS1
                  replace hC := hC.u w11 (dS22_3 h0)
                  replace t0 : σ11 (h0 + 1) 2 = σ (h0 + 1) 2 := (zz_w (b := (h0 + 1)) (j := 2) w11 (fun q9 => zz_na (a := h0) (i := 1) (j := 11) (by decide) q9.1)).trans t0
                  replace t1 : σ11 (h0 + 1) 3 = σ (h0 + 1) 3 := (zz_w (b := (h0 + 1)) (j := 3) w11 (fun q9 => zz_na (a := h0) (i := 1) (j := 11) (by decide) q9.1)).trans t1
                  replace t2 : σ11 (h0 + 1) 0 = σ (h0 + 1) 0 := (zz_w (b := (h0 + 1)) (j := 0) w11 (fun q9 => zz_na (a := h0) (i := 1) (j := 11) (by decide) q9.1)).trans t2
                  obtain ⟨n12, e12⟩ : ∃ y : Int32, y = dj + 1 := ⟨_, rfl⟩
                  have f12 : n12.toInt = (dj).toInt + (1) := by have h9 := zz_addT e12 (by omega) (by omega); omega
                  refine lv_iinc (v := n12) (lv' := [(4, .int n12), (5, .int 0), (3, .int ii), (0, .ref h0), (1, .int so), (2, .int nn)]) hx hb dX9_findWeights_91 hl (k := 1) rfl (by rw [e12]; rfl) (by decide) rfl (fun ls hl => ?_)
                  refine lv_goto (tgt := 10) hx hb dX9_findWeights_94 (by decide) ?_
                  exact ih10 n12 σ11 _ _ _ (by omega) hC (by omega) (by intro k hk d hd; rw [w11, zz_un (by omega)]; exact f10_1 k hk d hd) (by intro d hd; exact if hq : (d : Int) = dj.toInt then (by rw [w11, show 9 * ii.toInt.toNat + d = j11 from by omega, zz_us, show d = dj.toInt.toNat from by omega]; rw [zy_tw_0 (fun z => absurd (hT9.eq (Or.inl ⟨rfl, z.1⟩)) (by omega))]; exact k_m1000000000) else (by rw [w11, zz_un (by omega)]; exact f10_2 d (by omega))) t0 t1 t2 hP hS (lv_sub hl [0, 2, 3, 4, 5] rfl)
                · have c10 := zz_neT c10
                  refine lv_aload_n hx hb dX9_findWeights_71 rfl (lv_at hl 3 rfl) ?_
                  refine lv_iload hx hb dX9_findWeights_72 (lv_at hl 1 rfl) ?_
                  refine lv_aload_n hx hb dX9_findWeights_74 rfl (lv_at hl 3 rfl) ?_
                  refine zz_getr hx hb hts hi9 hown hK hP (g0.1) rfl 0 (by decide) (hts (.fieldLink RX9 9 "NoonLawModel" "row" "[I") (List.mem_cons_of_mem _ bm_93)) rfl rfl dX9_findWeights_75 ?_
                  refine lv_iconst (v := 0) hx hb dX9_findWeights_78 (by decide) ?_
                  refine zz_ialc hx hb hK hP (g0.2.1) 0 (by decide) (by decide) t2 dX9_findWeights_79 ?_
                  refine lv_iload_n hx hb dX9_findWeights_80 rfl (lv_at hl 2 rfl) ?_
                  refine lv_iadd hx hb dX9_findWeights_81 ?_
                  refine lv_topi (fun n14 e14 => ?_)
                  have f14 : n14.toInt = (σ (h0 + 1) 0).toInt + (ii).toInt := zz_addT e14 (by omega) (by omega)
                  refine zz_callVi (As := [.int dj, .int n14]) (rest := [.int n9, .ref (h0 + 11)]) ⟨hx, hb, hml, hown, hts⟩ hK hP hS (c_X9_weightOf l E σb h0 dj n14 g0 (by omega) (by first | omega | exact hI | exact hT) (by exact hI.keep (fun k => hC _ _ (by first | (dsimp only; omega) | omega))) K (by exact hW.keep (fun k q => hC _ _ (by first | (dsimp only; omega) | omega)))) (cwV 2 hts gX9_findWeights_X9_weightOf rfl rfl rfl (by decide +kernel) ⟨Nat.le_of_ble_eq_true rfl, Nat.le_of_ble_eq_true rfl⟩) (g0.1) rfl rfl hl.1 rfl (Nat.le_of_ble_eq_true rfl) dX9_findWeights_82 ⟨Nat.zero_le _, Nat.zero_le _⟩ (fun r15 σ15 H locs q15 hP1 hS1 => ?_)
                  replace hP := hP1
                  replace hS := hS1
                  clear hP1 hS1
                  try dsimp only at q15
                  obtain ⟨w15, f15⟩ := q15
                  replace hC := hC.tr (w15.mono (dS22_4 h0))
                  try simp only [t0, t1, t2] at f15
                  replace t0 : σ15 (h0 + 1) 2 = σ (h0 + 1) 2 := (w15 (h0 + 1) 2 (dS22_2 h0)).trans t0
                  replace t1 : σ15 (h0 + 1) 3 = σ (h0 + 1) 3 := (w15 (h0 + 1) 3 (dS22_2 h0)).trans t1
                  replace t2 : σ15 (h0 + 1) 0 = σ (h0 + 1) 0 := (w15 (h0 + 1) 0 (dS22_2 h0)).trans t2
                  refine lv_goto (tgt := 90) hx hb dX9_findWeights_85 (by decide) ?_
                  have hv9 : r15.toInt = zy_wt K ((σ (h0 + 1) 0).toInt + ((ii.toInt.toNat : Nat) : Int)) dj.toInt.toNat := by rw [f15]; exact congrArg (fun q => zy_wt K q dj.toInt.toNat) (by omega)
                  refine zz_iast hx hb hK hP hS (g0.2.2.2.2.2.2.2.2.2.2.2.1) (by omega) (by omega) dX9_findWeights_90 (fun j16 σ16 H locs q16 r16 w16 hP1 hS1 => ?_)
                  replace hP := hP1
                  replace hS := hS1
                  clear hP1 hS1
                  replace hC := hC.u w16 (dS22_3 h0)
                  replace t0 : σ16 (h0 + 1) 2 = σ (h0 + 1) 2 := (zz_w (b := (h0 + 1)) (j := 2) w16 (fun q9 => zz_na (a := h0) (i := 1) (j := 11) (by decide) q9.1)).trans t0
                  replace t1 : σ16 (h0 + 1) 3 = σ (h0 + 1) 3 := (zz_w (b := (h0 + 1)) (j := 3) w16 (fun q9 => zz_na (a := h0) (i := 1) (j := 11) (by decide) q9.1)).trans t1
                  replace t2 : σ16 (h0 + 1) 0 = σ (h0 + 1) 0 := (zz_w (b := (h0 + 1)) (j := 0) w16 (fun q9 => zz_na (a := h0) (i := 1) (j := 11) (by decide) q9.1)).trans t2
                  obtain ⟨n17, e17⟩ : ∃ y : Int32, y = dj + 1 := ⟨_, rfl⟩
                  have f17 : n17.toInt = (dj).toInt + (1) := by have h9 := zz_addT e17 (by omega) (by omega); omega
                  refine lv_iinc (v := n17) (lv' := [(4, .int n17), (5, .int 0), (3, .int ii), (0, .ref h0), (1, .int so), (2, .int nn)]) hx hb dX9_findWeights_91 hl (k := 1) rfl (by rw [e17]; rfl) (by decide) rfl (fun ls hl => ?_)
                  refine lv_goto (tgt := 10) hx hb dX9_findWeights_94 (by decide) ?_
                  exact ih10 n17 σ16 _ _ _ (by omega) hC (by exfalso; omega) (by exfalso; omega) (by exfalso; omega) t0 t1 t2 hP hS (lv_sub hl [0, 2, 3, 4, 5] rfl)
              · have c7 := zz_eqT c7
                refine lv_aload_n hx hb dX9_findWeights_31 rfl (lv_at hl 2 rfl) ?_
                refine lv_iload hx hb dX9_findWeights_32 (lv_at hl 0 rfl) ?_
                refine lv_aload_n hx hb dX9_findWeights_34 rfl (lv_at hl 2 rfl) ?_
                refine zz_getr hx hb hts hi9 hown hK hP (g0.1) rfl 0 (by decide) (hts (.fieldLink RX9 9 "NoonLawModel" "row" "[I") (List.mem_cons_of_mem _ bm_93)) rfl rfl dX9_findWeights_35 ?_
                refine lv_iconst (v := 0) hx hb dX9_findWeights_38 (by decide) ?_
                refine zz_ialc hx hb hK hP (g0.2.1) 0 (by decide) (by decide) t2 dX9_findWeights_39 ?_
                refine lv_iload_n hx hb dX9_findWeights_40 rfl (lv_at hl 1 rfl) ?_
                refine lv_iadd hx hb dX9_findWeights_41 ?_
                refine lv_topi (fun n19 e19 => ?_)
                have f19 : n19.toInt = (σ (h0 + 1) 0).toInt + (ii).toInt := zz_addT e19 (by omega) (by omega)
                refine zz_callVp (As := [.int dj, .int n19]) (rest := []) ⟨hx, hb, hml, hown, hts⟩ hK hP hS (c_X9_isInForce l E σb h0 dj n19 g0 (by omega) (by first | omega | exact hI | exact hT) K (by exact hW.keep (fun k q => hC _ _ (by first | (dsimp only; omega) | omega)))) (cwV 2 hts gX9_findWeights_X9_isInForce rfl rfl rfl (by decide +kernel) ⟨Nat.le_of_ble_eq_true rfl, Nat.le_of_ble_eq_true rfl⟩) (g0.1) rfl rfl hl.1 rfl (Nat.le_of_ble_eq_true rfl) dX9_findWeights_42 ⟨Nat.zero_le _, Nat.zero_le _⟩ (fun r20 H locs f20 hP1 hS1 => ?_)
                replace hP := hP1
                replace hS := hS1
                clear hP1 hS1
                have hF9 : zy_bt r20.toInt (zy_F K ((σ (h0 + 1) 0).toInt + ((ii.toInt.toNat : Nat) : Int)) dj.toInt.toNat) := by rw [← show n19.toInt = ((σ (h0 + 1) 0).toInt + ((ii.toInt.toNat : Nat) : Int)) from by omega]; exact f20
                refine lv_if_eq (tgt := 52) hx hb dX9_findWeights_45 (by decide) (fun c21 => ?_) (fun c21 => ?_)
                · have c21 := zz_eqT c21
                  refine lv_iconst (v := 0) hx hb dX9_findWeights_52 (by decide) ?_
                  refine lv_istore (lv' := [(5, .int 0), (4, .int dj), (3, .int ii), (0, .ref h0), (1, .int so), (2, .int nn)]) hx hb dX9_findWeights_53 hl (by decide) rfl (fun ls hl => ?_)
                  refine lv_aload_n hx hb dX9_findWeights_55 rfl (lv_at hl 3 rfl) ?_
                  refine zz_getr hx hb hts hi9 hown hK hP (g0.1) rfl 16 (by decide) (hts (.fieldLink RX9 40 "NoonLawModel" "weights" "[I") (List.mem_cons_of_mem _ bm_103)) rfl rfl dX9_findWeights_56 ?_
                  refine lv_bipush (v := 9) hx hb dX9_findWeights_59 (by decide) ?_
                  refine lv_iload_n hx hb dX9_findWeights_61 rfl (lv_at hl 2 rfl) ?_
                  refine lv_imul hx hb dX9_findWeights_62 ?_
                  refine lv_topi (fun n22 e22 => ?_)
                  have f22 : n22.toInt = 9 * (ii).toInt := zz_mulL 9 e22 (by decide) (by omega) (by omega)
                  refine lv_iload hx hb dX9_findWeights_63 (lv_at hl 1 rfl) ?_
                  refine lv_iadd hx hb dX9_findWeights_65 ?_
                  refine lv_topi (fun n23 e23 => ?_)
                  have f23 : n23.toInt = (n22).toInt + (dj).toInt := zz_addT e23 (by omega) (by omega)
                  refine lv_iload hx hb dX9_findWeights_66 (lv_at hl 0 rfl) ?_
                  refine lv_if_eq (tgt := 88) hx hb dX9_findWeights_68 (by decide) (fun c24 => ?_) (fun c24 => ?_)
                  · have c24 := zz_eqT c24
                    refine lv_ldc (v := (-1000000000)) hx hb hown (hts (.constant RX9 46 (-1000000000)) (List.mem_cons_of_mem _ bm_150)) dX9_findWeights_88 ?_
                    skip
                    refine zz_iast hx hb hK hP hS (g0.2.2.2.2.2.2.2.2.2.2.2.1) (by omega) (by omega) dX9_findWeights_90 (fun j25 σ25 H locs q25 r25 w25 hP1 hS1 => ?_)
                    replace hP := hP1
                    replace hS := hS1
                    clear hP1 hS1
                    replace hC := hC.u w25 (dS22_3 h0)
                    replace t0 : σ25 (h0 + 1) 2 = σ (h0 + 1) 2 := (zz_w (b := (h0 + 1)) (j := 2) w25 (fun q9 => zz_na (a := h0) (i := 1) (j := 11) (by decide) q9.1)).trans t0
                    replace t1 : σ25 (h0 + 1) 3 = σ (h0 + 1) 3 := (zz_w (b := (h0 + 1)) (j := 3) w25 (fun q9 => zz_na (a := h0) (i := 1) (j := 11) (by decide) q9.1)).trans t1
                    replace t2 : σ25 (h0 + 1) 0 = σ (h0 + 1) 0 := (zz_w (b := (h0 + 1)) (j := 0) w25 (fun q9 => zz_na (a := h0) (i := 1) (j := 11) (by decide) q9.1)).trans t2
                    obtain ⟨n26, e26⟩ : ∃ y : Int32, y = dj + 1 := ⟨_, rfl⟩
                    have f26 : n26.toInt = (dj).toInt + (1) := by have h9 := zz_addT e26 (by omega) (by omega); omega
                    refine lv_iinc (v := n26) (lv' := [(4, .int n26), (5, .int 0), (3, .int ii), (0, .ref h0), (1, .int so), (2, .int nn)]) hx hb dX9_findWeights_91 hl (k := 1) rfl (by rw [e26]; rfl) (by decide) rfl (fun ls hl => ?_)
                    refine lv_goto (tgt := 10) hx hb dX9_findWeights_94 (by decide) ?_
                    exact ih10 n26 σ25 _ _ _ (by omega) hC (by omega) (by intro k hk d hd; rw [w25, zz_un (by omega)]; exact f10_1 k hk d hd) (by intro d hd; exact if hq : (d : Int) = dj.toInt then (by rw [w25, show 9 * ii.toInt.toNat + d = j25 from by omega, zz_us, show d = dj.toInt.toNat from by omega]; rw [zy_tw_0 (fun z => hF9.n (by omega) z.2)]; exact k_m1000000000) else (by rw [w25, zz_un (by omega)]; exact f10_2 d (by omega))) t0 t1 t2 hP hS (lv_sub hl [0, 2, 3, 4, 5] rfl)
                  · have c24 := zz_neT c24
                    refine lv_aload_n hx hb dX9_findWeights_71 rfl (lv_at hl 3 rfl) ?_
                    refine lv_iload hx hb dX9_findWeights_72 (lv_at hl 1 rfl) ?_
                    refine lv_aload_n hx hb dX9_findWeights_74 rfl (lv_at hl 3 rfl) ?_
                    refine zz_getr hx hb hts hi9 hown hK hP (g0.1) rfl 0 (by decide) (hts (.fieldLink RX9 9 "NoonLawModel" "row" "[I") (List.mem_cons_of_mem _ bm_93)) rfl rfl dX9_findWeights_75 ?_
                    refine lv_iconst (v := 0) hx hb dX9_findWeights_78 (by decide) ?_
                    refine zz_ialc hx hb hK hP (g0.2.1) 0 (by decide) (by decide) t2 dX9_findWeights_79 ?_
                    refine lv_iload_n hx hb dX9_findWeights_80 rfl (lv_at hl 2 rfl) ?_
                    refine lv_iadd hx hb dX9_findWeights_81 ?_
                    refine lv_topi (fun n28 e28 => ?_)
                    have f28 : n28.toInt = (σ (h0 + 1) 0).toInt + (ii).toInt := zz_addT e28 (by omega) (by omega)
                    refine zz_callVi (As := [.int dj, .int n28]) (rest := [.int n23, .ref (h0 + 11)]) ⟨hx, hb, hml, hown, hts⟩ hK hP hS (c_X9_weightOf l E σb h0 dj n28 g0 (by omega) (by first | omega | exact hI | exact hT) (by exact hI.keep (fun k => hC _ _ (by first | (dsimp only; omega) | omega))) K (by exact hW.keep (fun k q => hC _ _ (by first | (dsimp only; omega) | omega)))) (cwV 2 hts gX9_findWeights_X9_weightOf rfl rfl rfl (by decide +kernel) ⟨Nat.le_of_ble_eq_true rfl, Nat.le_of_ble_eq_true rfl⟩) (g0.1) rfl rfl hl.1 rfl (Nat.le_of_ble_eq_true rfl) dX9_findWeights_82 ⟨Nat.zero_le _, Nat.zero_le _⟩ (fun r29 σ29 H locs q29 hP1 hS1 => ?_)
                    replace hP := hP1
                    replace hS := hS1
                    clear hP1 hS1
                    try dsimp only at q29
                    obtain ⟨w29, f29⟩ := q29
                    replace hC := hC.tr (w29.mono (dS22_4 h0))
                    try simp only [t0, t1, t2] at f29
                    replace t0 : σ29 (h0 + 1) 2 = σ (h0 + 1) 2 := (w29 (h0 + 1) 2 (dS22_2 h0)).trans t0
                    replace t1 : σ29 (h0 + 1) 3 = σ (h0 + 1) 3 := (w29 (h0 + 1) 3 (dS22_2 h0)).trans t1
                    replace t2 : σ29 (h0 + 1) 0 = σ (h0 + 1) 0 := (w29 (h0 + 1) 0 (dS22_2 h0)).trans t2
                    refine lv_goto (tgt := 90) hx hb dX9_findWeights_85 (by decide) ?_
                    have hv9 : r29.toInt = zy_wt K ((σ (h0 + 1) 0).toInt + ((ii.toInt.toNat : Nat) : Int)) dj.toInt.toNat := by rw [f29]; exact congrArg (fun q => zy_wt K q dj.toInt.toNat) (by omega)
                    refine zz_iast hx hb hK hP hS (g0.2.2.2.2.2.2.2.2.2.2.2.1) (by omega) (by omega) dX9_findWeights_90 (fun j30 σ30 H locs q30 r30 w30 hP1 hS1 => ?_)
                    replace hP := hP1
                    replace hS := hS1
                    clear hP1 hS1
                    replace hC := hC.u w30 (dS22_3 h0)
                    replace t0 : σ30 (h0 + 1) 2 = σ (h0 + 1) 2 := (zz_w (b := (h0 + 1)) (j := 2) w30 (fun q9 => zz_na (a := h0) (i := 1) (j := 11) (by decide) q9.1)).trans t0
                    replace t1 : σ30 (h0 + 1) 3 = σ (h0 + 1) 3 := (zz_w (b := (h0 + 1)) (j := 3) w30 (fun q9 => zz_na (a := h0) (i := 1) (j := 11) (by decide) q9.1)).trans t1
                    replace t2 : σ30 (h0 + 1) 0 = σ (h0 + 1) 0 := (zz_w (b := (h0 + 1)) (j := 0) w30 (fun q9 => zz_na (a := h0) (i := 1) (j := 11) (by decide) q9.1)).trans t2
                    obtain ⟨n31, e31⟩ : ∃ y : Int32, y = dj + 1 := ⟨_, rfl⟩
                    have f31 : n31.toInt = (dj).toInt + (1) := by have h9 := zz_addT e31 (by omega) (by omega); omega
                    refine lv_iinc (v := n31) (lv' := [(4, .int n31), (5, .int 0), (3, .int ii), (0, .ref h0), (1, .int so), (2, .int nn)]) hx hb dX9_findWeights_91 hl (k := 1) rfl (by rw [e31]; rfl) (by decide) rfl (fun ls hl => ?_)
                    refine lv_goto (tgt := 10) hx hb dX9_findWeights_94 (by decide) ?_
                    exact ih10 n31 σ30 _ _ _ (by omega) hC (by exfalso; omega) (by exfalso; omega) (by exfalso; omega) t0 t1 t2 hP hS (lv_sub hl [0, 2, 3, 4, 5] rfl)
                · have c21 := zz_neT c21
                  refine lv_iconst (v := 1) hx hb dX9_findWeights_48 (by decide) ?_
                  refine lv_goto (tgt := 53) hx hb dX9_findWeights_49 (by decide) ?_
                  refine lv_istore (lv' := [(5, .int 1), (4, .int dj), (3, .int ii), (0, .ref h0), (1, .int so), (2, .int nn)]) hx hb dX9_findWeights_53 hl (by decide) rfl (fun ls hl => ?_)
                  refine lv_aload_n hx hb dX9_findWeights_55 rfl (lv_at hl 3 rfl) ?_
                  refine zz_getr hx hb hts hi9 hown hK hP (g0.1) rfl 16 (by decide) (hts (.fieldLink RX9 40 "NoonLawModel" "weights" "[I") (List.mem_cons_of_mem _ bm_103)) rfl rfl dX9_findWeights_56 ?_
                  refine lv_bipush (v := 9) hx hb dX9_findWeights_59 (by decide) ?_
                  refine lv_iload_n hx hb dX9_findWeights_61 rfl (lv_at hl 2 rfl) ?_
                  refine lv_imul hx hb dX9_findWeights_62 ?_
                  refine lv_topi (fun n32 e32 => ?_)
                  have f32 : n32.toInt = 9 * (ii).toInt := zz_mulL 9 e32 (by decide) (by omega) (by omega)
                  refine lv_iload hx hb dX9_findWeights_63 (lv_at hl 1 rfl) ?_
                  refine lv_iadd hx hb dX9_findWeights_65 ?_
                  refine lv_topi (fun n33 e33 => ?_)
                  have f33 : n33.toInt = (n32).toInt + (dj).toInt := zz_addT e33 (by omega) (by omega)
                  refine lv_iload hx hb dX9_findWeights_66 (lv_at hl 0 rfl) ?_
                  refine lv_if_eq (tgt := 88) hx hb dX9_findWeights_68 (by decide) (fun c34 => ?_) (fun c34 => ?_)
                  · have c34 := zz_eqT c34
                    refine lv_ldc (v := (-1000000000)) hx hb hown (hts (.constant RX9 46 (-1000000000)) (List.mem_cons_of_mem _ bm_150)) dX9_findWeights_88 ?_
                    skip
                    refine zz_iast hx hb hK hP hS (g0.2.2.2.2.2.2.2.2.2.2.2.1) (by omega) (by omega) dX9_findWeights_90 (fun j35 σ35 H locs q35 r35 w35 hP1 hS1 => ?_)
                    replace hP := hP1
                    replace hS := hS1
                    clear hP1 hS1
                    replace hC := hC.u w35 (dS22_3 h0)
                    replace t0 : σ35 (h0 + 1) 2 = σ (h0 + 1) 2 := (zz_w (b := (h0 + 1)) (j := 2) w35 (fun q9 => zz_na (a := h0) (i := 1) (j := 11) (by decide) q9.1)).trans t0
                    replace t1 : σ35 (h0 + 1) 3 = σ (h0 + 1) 3 := (zz_w (b := (h0 + 1)) (j := 3) w35 (fun q9 => zz_na (a := h0) (i := 1) (j := 11) (by decide) q9.1)).trans t1
                    replace t2 : σ35 (h0 + 1) 0 = σ (h0 + 1) 0 := (zz_w (b := (h0 + 1)) (j := 0) w35 (fun q9 => zz_na (a := h0) (i := 1) (j := 11) (by decide) q9.1)).trans t2
                    obtain ⟨n36, e36⟩ : ∃ y : Int32, y = dj + 1 := ⟨_, rfl⟩
                    have f36 : n36.toInt = (dj).toInt + (1) := by have h9 := zz_addT e36 (by omega) (by omega); omega
                    refine lv_iinc (v := n36) (lv' := [(4, .int n36), (5, .int 1), (3, .int ii), (0, .ref h0), (1, .int so), (2, .int nn)]) hx hb dX9_findWeights_91 hl (k := 1) rfl (by rw [e36]; rfl) (by decide) rfl (fun ls hl => ?_)
                    refine lv_goto (tgt := 10) hx hb dX9_findWeights_94 (by decide) ?_
                    exact ih10 n36 σ35 _ _ _ (by omega) hC (by exfalso; omega) (by exfalso; omega) (by exfalso; omega) t0 t1 t2 hP hS (lv_sub hl [0, 2, 3, 4, 5] rfl)
                  · have c34 := zz_neT c34
                    refine lv_aload_n hx hb dX9_findWeights_71 rfl (lv_at hl 3 rfl) ?_
                    refine lv_iload hx hb dX9_findWeights_72 (lv_at hl 1 rfl) ?_
                    refine lv_aload_n hx hb dX9_findWeights_74 rfl (lv_at hl 3 rfl) ?_
                    refine zz_getr hx hb hts hi9 hown hK hP (g0.1) rfl 0 (by decide) (hts (.fieldLink RX9 9 "NoonLawModel" "row" "[I") (List.mem_cons_of_mem _ bm_93)) rfl rfl dX9_findWeights_75 ?_
                    refine lv_iconst (v := 0) hx hb dX9_findWeights_78 (by decide) ?_
                    refine zz_ialc hx hb hK hP (g0.2.1) 0 (by decide) (by decide) t2 dX9_findWeights_79 ?_
                    refine lv_iload_n hx hb dX9_findWeights_80 rfl (lv_at hl 2 rfl) ?_
                    refine lv_iadd hx hb dX9_findWeights_81 ?_
                    refine lv_topi (fun n38 e38 => ?_)
                    have f38 : n38.toInt = (σ (h0 + 1) 0).toInt + (ii).toInt := zz_addT e38 (by omega) (by omega)
                    refine zz_callVi (As := [.int dj, .int n38]) (rest := [.int n33, .ref (h0 + 11)]) ⟨hx, hb, hml, hown, hts⟩ hK hP hS (c_X9_weightOf l E σb h0 dj n38 g0 (by omega) (by first | omega | exact hI | exact hT) (by exact hI.keep (fun k => hC _ _ (by first | (dsimp only; omega) | omega))) K (by exact hW.keep (fun k q => hC _ _ (by first | (dsimp only; omega) | omega)))) (cwV 2 hts gX9_findWeights_X9_weightOf rfl rfl rfl (by decide +kernel) ⟨Nat.le_of_ble_eq_true rfl, Nat.le_of_ble_eq_true rfl⟩) (g0.1) rfl rfl hl.1 rfl (Nat.le_of_ble_eq_true rfl) dX9_findWeights_82 ⟨Nat.zero_le _, Nat.zero_le _⟩ (fun r39 σ39 H locs q39 hP1 hS1 => ?_)
                    replace hP := hP1
                    replace hS := hS1
                    clear hP1 hS1
                    try dsimp only at q39
                    obtain ⟨w39, f39⟩ := q39
                    replace hC := hC.tr (w39.mono (dS22_4 h0))
                    try simp only [t0, t1, t2] at f39
                    replace t0 : σ39 (h0 + 1) 2 = σ (h0 + 1) 2 := (w39 (h0 + 1) 2 (dS22_2 h0)).trans t0
                    replace t1 : σ39 (h0 + 1) 3 = σ (h0 + 1) 3 := (w39 (h0 + 1) 3 (dS22_2 h0)).trans t1
                    replace t2 : σ39 (h0 + 1) 0 = σ (h0 + 1) 0 := (w39 (h0 + 1) 0 (dS22_2 h0)).trans t2
                    refine lv_goto (tgt := 90) hx hb dX9_findWeights_85 (by decide) ?_
                    have hv9 : r39.toInt = zy_wt K ((σ (h0 + 1) 0).toInt + ((ii.toInt.toNat : Nat) : Int)) dj.toInt.toNat := by rw [f39]; exact congrArg (fun q => zy_wt K q dj.toInt.toNat) (by omega)
                    refine zz_iast hx hb hK hP hS (g0.2.2.2.2.2.2.2.2.2.2.2.1) (by omega) (by omega) dX9_findWeights_90 (fun j40 σ40 H locs q40 r40 w40 hP1 hS1 => ?_)
                    replace hP := hP1
                    replace hS := hS1
                    clear hP1 hS1
                    replace hC := hC.u w40 (dS22_3 h0)
                    replace t0 : σ40 (h0 + 1) 2 = σ (h0 + 1) 2 := (zz_w (b := (h0 + 1)) (j := 2) w40 (fun q9 => zz_na (a := h0) (i := 1) (j := 11) (by decide) q9.1)).trans t0
                    replace t1 : σ40 (h0 + 1) 3 = σ (h0 + 1) 3 := (zz_w (b := (h0 + 1)) (j := 3) w40 (fun q9 => zz_na (a := h0) (i := 1) (j := 11) (by decide) q9.1)).trans t1
                    replace t2 : σ40 (h0 + 1) 0 = σ (h0 + 1) 0 := (zz_w (b := (h0 + 1)) (j := 0) w40 (fun q9 => zz_na (a := h0) (i := 1) (j := 11) (by decide) q9.1)).trans t2
                    obtain ⟨n41, e41⟩ : ∃ y : Int32, y = dj + 1 := ⟨_, rfl⟩
                    have f41 : n41.toInt = (dj).toInt + (1) := by have h9 := zz_addT e41 (by omega) (by omega); omega
                    refine lv_iinc (v := n41) (lv' := [(4, .int n41), (5, .int 1), (3, .int ii), (0, .ref h0), (1, .int so), (2, .int nn)]) hx hb dX9_findWeights_91 hl (k := 1) rfl (by rw [e41]; rfl) (by decide) rfl (fun ls hl => ?_)
                    refine lv_goto (tgt := 10) hx hb dX9_findWeights_94 (by decide) ?_
                    exact ih10 n41 σ40 _ _ _ (by omega) hC (by omega) (by intro k hk d hd; rw [w40, zz_un (by omega), w39 _ _ (by first | (dsimp only; omega) | omega)]; exact f10_1 k hk d hd) (by intro d hd; exact if hq : (d : Int) = dj.toInt then (by rw [w40, show 9 * ii.toInt.toNat + d = j40 from by omega, zz_us, show d = dj.toInt.toNat from by omega]; rw [zy_tw_1 ⟨hT9.y (by omega), hF9.y (by omega)⟩]; exact hv9) else (by rw [w40, zz_un (by omega), w39 _ _ (by first | (dsimp only; omega) | omega)]; exact f10_2 d (by omega))) t0 t1 t2 hP hS (lv_sub hl [0, 2, 3, 4, 5] rfl)
        exact J10 _ 0 σa _ _ _ (Nat.lt_succ_self _) hC (by omega) (by exact f2_1) (by intro d hd; omega) t0 t1 t2 hP hS (lv_sub hl [0, 1, 2, 3, 4] rfl)
  exact J2 _ 0 σ _ _ _ (Nat.lt_succ_self _) hC (by first | omega | exact hI | exact hT) (by intro k hk; omega) t0 t1 t2 hP hS (lv_sub hl [0, 1, 2, 3] rfl)
theorem gX9_isFreeBy_X9_of : GoodIn wzX9_isFreeBy (wsV RX9 51 RX9 yX9_of wzX9_of) := wz_co bm_240 (wz_co bm_241 (wz_co bm_242 (wz_co bm_5 (wz_in bm_243))))
set_option maxHeartbeats 4000000 in
set_option maxRecDepth 100000 in
theorem c_X9_isFreeBy (l : Launch) (E : zz_E) (σ : zz_S) (h0 : Nat) (so : Int32) (nn : Int32) (g0 : zz_M E h0) (hn : 0 ≤ nn.toInt ∧ nn.toInt ≤ 240) (hI : zz_IW σ (h0 + 1)) (K : zy_W) (hW : zy_YW σ (h0 + 1) K) (sm : Int32) (hso : 0 ≤ so.toInt ∧ so.toInt < 1024) (htw : ∀ k : Nat, (k : Int) < nn.toInt → ∀ d : Nat, (d : Int) < K.2.2.1 → (σ (h0 + 11) (9 * k + d)).toInt = zy_tw K ((σ (h0 + 1) 0).toInt + (k : Int)) sm d) : Met l yX9_isFreeBy wzX9_isFreeBy ({ frames := 1, cells := 0, slots := 0, locals := 22 }) (va_Pc [.ref h0, .int so, .int nn] (zz_B E σ)) (va_Qi (fun r σ1 => σ1 = σ ∧ (zy_bt r.toInt (∀ k : Nat, k < nn.toInt.toNat → zy_ig K ((σ (h0 + 1) 0).toInt + ((k : Nat) : Int)) so sm 1 = zy_ig K ((σ (h0 + 1) 0).toInt + ((k : Nat) : Int)) so sm 0))) (zz_B E) (zz_A E)) 0 0 (zz_A E) := by
  refine zz_met (cc := cX9_isFreeBy) (maxL := 8) (ret := (some .boolean)) (by decide) rfl (Nat.le_of_ble_eq_true rfl) ?_
  intro p e s m args below meth c ls hx hb hr hts hown hlocks hml hK hP hS hl
  have hl : lv_has ls 8 [(0, .ref h0), (1, .int so), (2, .int nn)] := hl
  have hown : s.vm.findClass RX9 = some m.cls := hown
  have hi9 : ∀ w ∈ wsX90, w ∈ wzX9_isFreeBy := fun w h => List.mem_cons_of_mem _ (hbw9 w h)
  have k_m1000000000 : ((-1000000000) : Int32).toInt = -1000000000 := by decide +kernel
  have k_0 : (0 : Int32).toInt = 0 := by decide +kernel
  have k_1 : (1 : Int32).toInt = 1 := by decide +kernel
  have k_2 : (2 : Int32).toInt = 2 := by decide +kernel
  have k_3 : (3 : Int32).toInt = 3 := by decide +kernel
  have k_9 : (9 : Int32).toInt = 9 := by decide +kernel
  obtain ⟨hh, hsl, hd, hp, htc, hwc, hM, hT⟩ := id hI
  have hct := hW.2.1
  refine lv_iconst (v := 0) hx hb dX9_isFreeBy_0 (by decide) ?_
  refine lv_istore_n (lv' := [(3, .int 0), (0, .ref h0), (1, .int so), (2, .int nn)]) hx hb dX9_isFreeBy_1 rfl hl (by decide) rfl (fun ls hl => ?_)
  have J2 : ∀ (n : Nat) (ii : Int32) (H : Heap) (locs : List Loc) (ls : Array Slot), ((240 - ii.toInt).toNat) < n → (0 ≤ ii.toInt ∧ ii.toInt ≤ nn.toInt) → (∀ k : Nat, (k : Int) < ii.toInt → zy_ig K ((σ (h0 + 1) 0).toInt + ((k : Nat) : Int)) so sm 1 = zy_ig K ((σ (h0 + 1) 0).toInt + ((k : Nat) : Int)) so sm 0) → zz_P E σ H → va_S (zz_A E) s.heap H locs → lv_has ls 8 [(3, .int ii), (0, .ref h0), (1, .int so), (2, .int nn)] → W p l e (headSpec wzX9_isFreeBy ({ frames := 1, cells := 0, slots := 0, locals := 22 })).room s m args below meth c H locs 0 0 (MQ below (va_Qi (fun r σ1 => σ1 = σ ∧ (zy_bt r.toInt (∀ k : Nat, k < nn.toInt.toNat → zy_ig K ((σ (h0 + 1) 0).toInt + ((k : Nat) : Int)) so sm 1 = zy_ig K ((σ (h0 + 1) 0).toInt + ((k : Nat) : Int)) so sm 0))) (zz_B E) (zz_A E)) args s 0 0 (zz_A E)) (F0 m 2 ls []) := by
    intro n
    induction n with
    | zero => intro ii H locs ls hm; exact absurd hm (Nat.not_lt_zero _)
    | succ n ih2 =>
      intro ii H locs ls hm f2_0 f2_1 hP hS hl
      refine lv_iload_n hx hb dX9_isFreeBy_2 rfl (lv_at hl 0 rfl) ?_
      refine lv_iload_n hx hb dX9_isFreeBy_3 rfl (lv_at hl 3 rfl) ?_
      refine lv_icmp_ge (tgt := 132) hx hb dX9_isFreeBy_4 (by decide) (fun c1 => ?_) (fun c1 => ?_)
      · have c1 := zz_leT c1
        refine lv_iconst (v := 1) hx hb dX9_isFreeBy_132 (by decide) ?_
        exact zz_zret hx hb hr hlocks hK hP hS dX9_isFreeBy_133 (zz_01 (by omega)) (by exact ⟨rfl, Or.inl ⟨k_1, fun k hk => f2_1 k (by omega)⟩⟩)
      · have c1 := zz_nleT c1
        refine lv_ldc (v := (-1000000000)) hx hb hown (hts (.constant RX9 46 (-1000000000)) (List.mem_cons_of_mem _ bm_150)) dX9_isFreeBy_7 ?_
        refine lv_istore (lv' := [(4, .int (-1000000000)), (3, .int ii), (0, .ref h0), (1, .int so), (2, .int nn)]) hx hb dX9_isFreeBy_9 hl (by decide) rfl (fun ls hl => ?_)
        refine lv_ldc (v := (-1000000000)) hx hb hown (hts (.constant RX9 46 (-1000000000)) (List.mem_cons_of_mem _ bm_150)) dX9_isFreeBy_11 ?_
        refine lv_istore (lv' := [(5, .int (-1000000000)), (4, .int (-1000000000)), (3, .int ii), (0, .ref h0), (1, .int so), (2, .int nn)]) hx hb dX9_isFreeBy_13 hl (by decide) rfl (fun ls hl => ?_)
        refine lv_iconst (v := 0) hx hb dX9_isFreeBy_15 (by decide) ?_
        refine lv_istore (lv' := [(6, .int 0), (5, .int (-1000000000)), (4, .int (-1000000000)), (3, .int ii), (0, .ref h0), (1, .int so), (2, .int nn)]) hx hb dX9_isFreeBy_16 hl (by decide) rfl (fun ls hl => ?_)
        have J18 : ∀ (n : Nat) (bd : Int32) (bn : Int32) (dj : Int32) (H : Heap) (locs : List Loc) (ls : Array Slot), ((9 - dj.toInt).toNat) < n → (0 ≤ dj.toInt ∧ dj.toInt ≤ K.2.2.1) → (bd.toInt = zy_gx (-1000000000) (zy_ip K ((σ (h0 + 1) 0).toInt + ((ii.toInt.toNat : Nat) : Int)) so sm 1) (zy_wt K ((σ (h0 + 1) 0).toInt + ((ii.toInt.toNat : Nat) : Int))) dj.toInt.toNat) → (bn.toInt = zy_gx (-1000000000) (zy_ip K ((σ (h0 + 1) 0).toInt + ((ii.toInt.toNat : Nat) : Int)) so sm 0) (zy_wt K ((σ (h0 + 1) 0).toInt + ((ii.toInt.toNat : Nat) : Int))) dj.toInt.toNat) → zz_P E σ H → va_S (zz_A E) s.heap H locs → lv_has ls 8 [(6, .int dj), (5, .int bn), (4, .int bd), (3, .int ii), (0, .ref h0), (1, .int so), (2, .int nn)] → W p l e (headSpec wzX9_isFreeBy ({ frames := 1, cells := 0, slots := 0, locals := 22 })).room s m args below meth c H locs 0 0 (MQ below (va_Qi (fun r σ1 => σ1 = σ ∧ (zy_bt r.toInt (∀ k : Nat, k < nn.toInt.toNat → zy_ig K ((σ (h0 + 1) 0).toInt + ((k : Nat) : Int)) so sm 1 = zy_ig K ((σ (h0 + 1) 0).toInt + ((k : Nat) : Int)) so sm 0))) (zz_B E) (zz_A E)) args s 0 0 (zz_A E)) (F0 m 18 ls []) := by
          intro n
          induction n with
          | zero => intro bd bn dj H locs ls hm; exact absurd hm (Nat.not_lt_zero _)
          | succ n ih18 =>
            intro bd bn dj H locs ls hm f18_0 f18_1 f18_2 hP hS hl
            refine lv_iload hx hb dX9_isFreeBy_18 (lv_at hl 0 rfl) ?_
            refine lv_aload_n hx hb dX9_isFreeBy_20 rfl (lv_at hl 4 rfl) ?_
            refine zz_getr hx hb hts hi9 hown hK hP (g0.1) rfl 0 (by decide) (hts (.fieldLink RX9 9 "NoonLawModel" "row" "[I") (List.mem_cons_of_mem _ bm_93)) rfl rfl dX9_isFreeBy_21 ?_
            refine lv_iconst (v := 2) hx hb dX9_isFreeBy_24 (by decide) ?_
            refine zz_ialc hx hb hK hP (g0.2.1) 2 (by decide) (by decide) rfl dX9_isFreeBy_25 ?_
            refine lv_icmp_ge (tgt := 117) hx hb dX9_isFreeBy_26 (by decide) (fun c3 => ?_) (fun c3 => ?_)
            · have c3 := zz_leT c3
              have hj9 : dj.toInt.toNat = K.2.2.1.toNat := by omega
              refine lv_iload hx hb dX9_isFreeBy_117 (lv_at hl 2 rfl) ?_
              refine lv_iload hx hb dX9_isFreeBy_119 (lv_at hl 1 rfl) ?_
              refine lv_icmp_eq (tgt := 126) hx hb dX9_isFreeBy_121 (by decide) (fun c4 => ?_) (fun c4 => ?_)
              · have c4 := zz_eqT c4
                obtain ⟨n5, e5⟩ : ∃ y : Int32, y = ii + 1 := ⟨_, rfl⟩
                have f5 : n5.toInt = (ii).toInt + (1) := by have h9 := zz_addT e5 (by omega) (by omega); omega
                refine lv_iinc (v := n5) (lv' := [(3, .int n5), (6, .int dj), (5, .int bn), (4, .int bd), (0, .ref h0), (1, .int so), (2, .int nn)]) hx hb dX9_isFreeBy_126 hl (k := 3) rfl (by rw [e5]; rfl) (by decide) rfl (fun ls hl => ?_)
                refine lv_goto (tgt := 2) hx hb dX9_isFreeBy_129 (by decide) ?_
                exact ih2 n5 _ _ _ (by omega) (by first | omega | exact hI | exact hT) (by intro k hk; exact if hq : (k : Int) = ii.toInt then (by rw [show k = ii.toInt.toNat from by omega, zy_ig_eq, zy_ig_eq, ← hj9, ← f18_1, ← f18_2]; omega) else f2_1 k (by omega)) hP hS (lv_sub hl [0, 4, 5, 6] rfl)
              · have c4 := zz_neT c4
                refine lv_iconst (v := 0) hx hb dX9_isFreeBy_124 (by decide) ?_
                exact zz_zret hx hb hr hlocks hK hP hS dX9_isFreeBy_125 (zz_01 (by omega)) (by exact ⟨rfl, Or.inr ⟨k_0, fun z => by have z9 := z ii.toInt.toNat (by omega); rw [zy_ig_eq, zy_ig_eq, ← hj9, ← f18_1, ← f18_2] at z9; omega⟩⟩)
            · have c3 := zz_nleT c3
              have J58 : ∀ (we : Int32) (H : Heap) (locs : List Loc) (ls : Array Slot),  (((zy_tb so dj.toInt.toNat ∧ zy_tb sm dj.toInt.toNat ∧ zy_F K ((σ (h0 + 1) 0).toInt + ((ii.toInt.toNat : Nat) : Int)) dj.toInt.toNat) ∧ we.toInt = zy_wt K ((σ (h0 + 1) 0).toInt + ((ii.toInt.toNat : Nat) : Int)) dj.toInt.toNat) ∨ (¬ (zy_tb so dj.toInt.toNat ∧ zy_tb sm dj.toInt.toNat ∧ zy_F K ((σ (h0 + 1) 0).toInt + ((ii.toInt.toNat : Nat) : Int)) dj.toInt.toNat) ∧ we.toInt = -1000000000)) → zz_P E σ H → va_S (zz_A E) s.heap H locs → lv_has ls 8 [(6, .int dj), (5, .int bn), (4, .int bd), (3, .int ii), (0, .ref h0), (1, .int so), (2, .int nn), (7, .int we)] → W p l e (headSpec wzX9_isFreeBy ({ frames := 1, cells := 0, slots := 0, locals := 22 })).room s m args below meth c H locs 0 0 (MQ below (va_Qi (fun r σ1 => σ1 = σ ∧ (zy_bt r.toInt (∀ k : Nat, k < nn.toInt.toNat → zy_ig K ((σ (h0 + 1) 0).toInt + ((k : Nat) : Int)) so sm 1 = zy_ig K ((σ (h0 + 1) 0).toInt + ((k : Nat) : Int)) so sm 0))) (zz_B E) (zz_A E)) args s 0 0 (zz_A E)) (F0 m 58 ls []) := by
                intro we H locs ls f58_0 hP hS hl
                have J85 : ∀ (b2 : Int32) (H : Heap) (locs : List Loc) (ls : Array Slot),  (b2.toInt = zy_gx (-1000000000) (zy_ip K ((σ (h0 + 1) 0).toInt + ((ii.toInt.toNat : Nat) : Int)) so sm 1) (zy_wt K ((σ (h0 + 1) 0).toInt + ((ii.toInt.toNat : Nat) : Int))) (dj.toInt.toNat + 1)) → zz_P E σ H → va_S (zz_A E) s.heap H locs → lv_has ls 8 [(6, .int dj), (5, .int bn), (4, .int b2), (3, .int ii), (0, .ref h0), (1, .int so), (2, .int nn), (7, .int we)] → W p l e (headSpec wzX9_isFreeBy ({ frames := 1, cells := 0, slots := 0, locals := 22 })).room s m args below meth c H locs 0 0 (MQ below (va_Qi (fun r σ1 => σ1 = σ ∧ (zy_bt r.toInt (∀ k : Nat, k < nn.toInt.toNat → zy_ig K ((σ (h0 + 1) 0).toInt + ((k : Nat) : Int)) so sm 1 = zy_ig K ((σ (h0 + 1) 0).toInt + ((k : Nat) : Int)) so sm 0))) (zz_B E) (zz_A E)) args s 0 0 (zz_A E)) (F0 m 85 ls []) := by
                  intro b2 H locs ls f85_0 hP hS hl
                  have J111 : ∀ (b3 : Int32) (H : Heap) (locs : List Loc) (ls : Array Slot),  (b3.toInt = zy_gx (-1000000000) (zy_ip K ((σ (h0 + 1) 0).toInt + ((ii.toInt.toNat : Nat) : Int)) so sm 0) (zy_wt K ((σ (h0 + 1) 0).toInt + ((ii.toInt.toNat : Nat) : Int))) (dj.toInt.toNat + 1)) → zz_P E σ H → va_S (zz_A E) s.heap H locs → lv_has ls 8 [(6, .int dj), (5, .int b3), (4, .int b2), (3, .int ii), (0, .ref h0), (1, .int so), (2, .int nn), (7, .int we)] → W p l e (headSpec wzX9_isFreeBy ({ frames := 1, cells := 0, slots := 0, locals := 22 })).room s m args below meth c H locs 0 0 (MQ below (va_Qi (fun r σ1 => σ1 = σ ∧ (zy_bt r.toInt (∀ k : Nat, k < nn.toInt.toNat → zy_ig K ((σ (h0 + 1) 0).toInt + ((k : Nat) : Int)) so sm 1 = zy_ig K ((σ (h0 + 1) 0).toInt + ((k : Nat) : Int)) so sm 0))) (zz_B E) (zz_A E)) args s 0 0 (zz_A E)) (F0 m 111 ls []) := by
                    intro b3 H locs ls f111_0 hP hS hl
                    obtain ⟨n6, e6⟩ : ∃ y : Int32, y = dj + 1 := ⟨_, rfl⟩
                    have f6 : n6.toInt = (dj).toInt + (1) := by have h9 := zz_addT e6 (by omega) (by omega); omega
                    refine lv_iinc (v := n6) (lv' := [(6, .int n6), (5, .int b3), (4, .int b2), (3, .int ii), (0, .ref h0), (1, .int so), (2, .int nn), (7, .int we)]) hx hb dX9_isFreeBy_111 hl (k := 0) rfl (by rw [e6]; rfl) (by decide) rfl (fun ls hl => ?_)
                    refine lv_goto (tgt := 18) hx hb dX9_isFreeBy_114 (by decide) ?_
                    exact ih18 b2 b3 n6 _ _ _ (by omega) (by first | omega | exact hI | exact hT) (by rw [show n6.toInt.toNat = dj.toInt.toNat + 1 from by omega]; exact f85_0) (by rw [show n6.toInt.toNat = dj.toInt.toNat + 1 from by omega]; exact f111_0) hP hS (lv_sub hl [0, 1, 2, 3, 4, 5, 6] rfl)
                  refine lv_aload_n hx hb dX9_isFreeBy_85 rfl (lv_at hl 4 rfl) ?_
                  refine lv_iload hx hb dX9_isFreeBy_86 (lv_at hl 0 rfl) ?_
                  refine lv_iconst (v := 3) hx hb dX9_isFreeBy_88 (by decide) ?_
                  refine zz_callVp (As := [.int dj, .int 3]) (rest := []) ⟨hx, hb, hml, hown, hts⟩ hK hP hS (c_X9_of l E σ h0 dj 3 g0 (by omega)) (cwV 2 hts gX9_isFreeBy_X9_of rfl rfl rfl (by decide +kernel) ⟨Nat.le_of_ble_eq_true rfl, Nat.le_of_ble_eq_true rfl⟩) (g0.1) rfl rfl hl.1 rfl (Nat.le_of_ble_eq_true rfl) dX9_isFreeBy_89 ⟨Nat.zero_le _, Nat.zero_le _⟩ (fun r7 H locs f7 hP1 hS1 => ?_)
                  replace hP := hP1
                  replace hS := hS1
                  clear hP1 hS1
                  have yo3 : r7.toInt = K.2.1 dj.toInt.toNat 3 := by rw [f7]; exact (congrArg (fun q => (σ (h0 + 1) q).toInt) (by omega)).trans (hW.at (j := dj.toInt.toNat) (f := 3) (by omega) (by decide))
                  refine lv_if_ne (tgt := 107) hx hb dX9_isFreeBy_92 (by decide) (fun c8 => ?_) (fun c8 => ?_)
                  · have c8 := zz_neT c8
                    refine lv_iload hx hb dX9_isFreeBy_107 (lv_at hl 1 rfl) ?_
                    refine lv_istore (lv' := [(5, .int bn), (6, .int dj), (4, .int b2), (3, .int ii), (0, .ref h0), (1, .int so), (2, .int nn), (7, .int we)]) hx hb dX9_isFreeBy_109 hl (by decide) rfl (fun ls hl => ?_)
                    exact J111 bn _ _ _ (by exact zy_gx_w (P := (zy_ip K ((σ (h0 + 1) 0).toInt + ((ii.toInt.toNat : Nat) : Int)) so sm 0)) (s := K.2.1 dj.toInt.toNat 3 = 0) f18_2 f58_0 ⟨fun z => ⟨⟨z.1, z.2.1, z.2.2.1⟩, z.2.2.2⟩, fun z => ⟨z.1.1, z.1.2.1, z.1.2.2, z.2⟩⟩ (Or.inr ⟨by omega, rfl⟩) rfl) hP hS (lv_sub hl [1, 0, 2, 3, 4, 5, 6, 7] rfl)
                  · have c8 := zz_eqT c8
                    refine lv_iload hx hb dX9_isFreeBy_95 (lv_at hl 7 rfl) ?_
                    refine lv_iload hx hb dX9_isFreeBy_97 (lv_at hl 1 rfl) ?_
                    refine lv_icmp_le (tgt := 107) hx hb dX9_isFreeBy_99 (by decide) (fun c9 => ?_) (fun c9 => ?_)
                    · have c9 := zz_leT c9
                      refine lv_iload hx hb dX9_isFreeBy_107 (lv_at hl 1 rfl) ?_
                      refine lv_istore (lv' := [(5, .int bn), (6, .int dj), (4, .int b2), (3, .int ii), (0, .ref h0), (1, .int so), (2, .int nn), (7, .int we)]) hx hb dX9_isFreeBy_109 hl (by decide) rfl (fun ls hl => ?_)
                      exact J111 bn _ _ _ (by exact zy_gx_w (P := (zy_ip K ((σ (h0 + 1) 0).toInt + ((ii.toInt.toNat : Nat) : Int)) so sm 0)) (s := K.2.1 dj.toInt.toNat 3 = 0) f18_2 f58_0 ⟨fun z => ⟨⟨z.1, z.2.1, z.2.2.1⟩, z.2.2.2⟩, fun z => ⟨z.1.1, z.1.2.1, z.1.2.2, z.2⟩⟩ (Or.inr ⟨by omega, rfl⟩) rfl) hP hS (lv_sub hl [1, 0, 2, 3, 4, 5, 6, 7] rfl)
                    · have c9 := zz_nleT c9
                      refine lv_iload hx hb dX9_isFreeBy_102 (lv_at hl 7 rfl) ?_
                      refine lv_goto (tgt := 109) hx hb dX9_isFreeBy_104 (by decide) ?_
                      refine lv_istore (lv' := [(5, .int we), (6, .int dj), (4, .int b2), (3, .int ii), (0, .ref h0), (1, .int so), (2, .int nn), (7, .int we)]) hx hb dX9_isFreeBy_109 hl (by decide) rfl (fun ls hl => ?_)
                      exact J111 we _ _ _ (by exact zy_gx_w (P := (zy_ip K ((σ (h0 + 1) 0).toInt + ((ii.toInt.toNat : Nat) : Int)) so sm 0)) (s := K.2.1 dj.toInt.toNat 3 = 0) f18_2 f58_0 ⟨fun z => ⟨⟨z.1, z.2.1, z.2.2.1⟩, z.2.2.2⟩, fun z => ⟨z.1.1, z.1.2.1, z.1.2.2, z.2⟩⟩ (Or.inl ⟨by omega, by omega, rfl⟩) rfl) hP hS (lv_sub hl [1, 0, 2, 3, 4, 5, 6, 7] rfl)
                refine lv_aload_n hx hb dX9_isFreeBy_58 rfl (lv_at hl 4 rfl) ?_
                refine lv_iload hx hb dX9_isFreeBy_59 (lv_at hl 0 rfl) ?_
                refine lv_iconst (v := 3) hx hb dX9_isFreeBy_61 (by decide) ?_
                refine zz_callVp (As := [.int dj, .int 3]) (rest := []) ⟨hx, hb, hml, hown, hts⟩ hK hP hS (c_X9_of l E σ h0 dj 3 g0 (by omega)) (cwV 2 hts gX9_isFreeBy_X9_of rfl rfl rfl (by decide +kernel) ⟨Nat.le_of_ble_eq_true rfl, Nat.le_of_ble_eq_true rfl⟩) (g0.1) rfl rfl hl.1 rfl (Nat.le_of_ble_eq_true rfl) dX9_isFreeBy_62 ⟨Nat.zero_le _, Nat.zero_le _⟩ (fun r10 H locs f10 hP1 hS1 => ?_)
                replace hP := hP1
                replace hS := hS1
                clear hP1 hS1
                have yo3 : r10.toInt = K.2.1 dj.toInt.toNat 3 := by rw [f10]; exact (congrArg (fun q => (σ (h0 + 1) q).toInt) (by omega)).trans (hW.at (j := dj.toInt.toNat) (f := 3) (by omega) (by decide))
                refine lv_iconst (v := 1) hx hb dX9_isFreeBy_65 (by decide) ?_
                refine lv_icmp_ne (tgt := 81) hx hb dX9_isFreeBy_66 (by decide) (fun c11 => ?_) (fun c11 => ?_)
                · have c11 := zz_neT c11
                  refine lv_iload hx hb dX9_isFreeBy_81 (lv_at hl 2 rfl) ?_
                  refine lv_istore (lv' := [(4, .int bd), (6, .int dj), (5, .int bn), (3, .int ii), (0, .ref h0), (1, .int so), (2, .int nn), (7, .int we)]) hx hb dX9_isFreeBy_83 hl (by decide) rfl (fun ls hl => ?_)
                  exact J85 bd _ _ _ (by exact zy_gx_w (P := (zy_ip K ((σ (h0 + 1) 0).toInt + ((ii.toInt.toNat : Nat) : Int)) so sm 1)) (s := K.2.1 dj.toInt.toNat 3 = 1) f18_1 f58_0 ⟨fun z => ⟨⟨z.1, z.2.1, z.2.2.1⟩, z.2.2.2⟩, fun z => ⟨z.1.1, z.1.2.1, z.1.2.2, z.2⟩⟩ (Or.inr ⟨by omega, rfl⟩) rfl) hP hS (lv_sub hl [1, 2, 0, 3, 4, 5, 6, 7] rfl)
                · have c11 := zz_eqT c11
                  refine lv_iload hx hb dX9_isFreeBy_69 (lv_at hl 7 rfl) ?_
                  refine lv_iload hx hb dX9_isFreeBy_71 (lv_at hl 2 rfl) ?_
                  refine lv_icmp_le (tgt := 81) hx hb dX9_isFreeBy_73 (by decide) (fun c12 => ?_) (fun c12 => ?_)
                  · have c12 := zz_leT c12
                    refine lv_iload hx hb dX9_isFreeBy_81 (lv_at hl 2 rfl) ?_
                    refine lv_istore (lv' := [(4, .int bd), (6, .int dj), (5, .int bn), (3, .int ii), (0, .ref h0), (1, .int so), (2, .int nn), (7, .int we)]) hx hb dX9_isFreeBy_83 hl (by decide) rfl (fun ls hl => ?_)
                    exact J85 bd _ _ _ (by exact zy_gx_w (P := (zy_ip K ((σ (h0 + 1) 0).toInt + ((ii.toInt.toNat : Nat) : Int)) so sm 1)) (s := K.2.1 dj.toInt.toNat 3 = 1) f18_1 f58_0 ⟨fun z => ⟨⟨z.1, z.2.1, z.2.2.1⟩, z.2.2.2⟩, fun z => ⟨z.1.1, z.1.2.1, z.1.2.2, z.2⟩⟩ (Or.inr ⟨by omega, rfl⟩) rfl) hP hS (lv_sub hl [1, 2, 0, 3, 4, 5, 6, 7] rfl)
                  · have c12 := zz_nleT c12
                    refine lv_iload hx hb dX9_isFreeBy_76 (lv_at hl 7 rfl) ?_
                    refine lv_goto (tgt := 83) hx hb dX9_isFreeBy_78 (by decide) ?_
                    refine lv_istore (lv' := [(4, .int we), (6, .int dj), (5, .int bn), (3, .int ii), (0, .ref h0), (1, .int so), (2, .int nn), (7, .int we)]) hx hb dX9_isFreeBy_83 hl (by decide) rfl (fun ls hl => ?_)
                    exact J85 we _ _ _ (by exact zy_gx_w (P := (zy_ip K ((σ (h0 + 1) 0).toInt + ((ii.toInt.toNat : Nat) : Int)) so sm 1)) (s := K.2.1 dj.toInt.toNat 3 = 1) f18_1 f58_0 ⟨fun z => ⟨⟨z.1, z.2.1, z.2.2.1⟩, z.2.2.2⟩, fun z => ⟨z.1.1, z.1.2.1, z.1.2.2, z.2⟩⟩ (Or.inl ⟨by omega, by omega, rfl⟩) rfl) hP hS (lv_sub hl [1, 2, 0, 3, 4, 5, 6, 7] rfl)
              refine lv_iload_n hx hb dX9_isFreeBy_29 rfl (lv_at hl 5 rfl) ?_
              refine lv_iload hx hb dX9_isFreeBy_30 (lv_at hl 0 rfl) ?_
              refine lv_ishr hx hb dX9_isFreeBy_32 ?_
              refine lv_topi (fun n13 e13 => ?_)
              refine lv_iconst (v := 1) hx hb dX9_isFreeBy_33 (by decide) ?_
              refine lv_iand hx hb dX9_isFreeBy_34 ?_
              refine lv_topi (fun n14 e14 => ?_)
              have hT9 := zy_tb_shr hso (m := dj.toInt.toNat) (i := dj) (by omega) (by omega) e13 e14
              refine lv_iconst (v := 1) hx hb dX9_isFreeBy_35 (by decide) ?_
              refine lv_icmp_ne (tgt := 54) hx hb dX9_isFreeBy_36 (by decide) (fun c15 => ?_) (fun c15 => ?_)
              · have c15 := zz_neT c15
                refine lv_ldc (v := (-1000000000)) hx hb hown (hts (.constant RX9 46 (-1000000000)) (List.mem_cons_of_mem _ bm_150)) dX9_isFreeBy_54 ?_
                refine lv_istore (lv' := [(7, .int (-1000000000)), (6, .int dj), (5, .int bn), (4, .int bd), (3, .int ii), (0, .ref h0), (1, .int so), (2, .int nn)]) hx hb dX9_isFreeBy_56 hl (by decide) rfl (fun ls hl => ?_)
                exact J58 (-1000000000) _ _ _ (by exact Or.inr ⟨fun z => absurd (hT9.eq (Or.inl ⟨rfl, z.1⟩)) (by omega), k_m1000000000⟩) hP hS (lv_sub hl [1, 2, 3, 4, 5, 6, 7, 0] rfl)
              · have c15 := zz_eqT c15
                refine lv_aload_n hx hb dX9_isFreeBy_39 rfl (lv_at hl 4 rfl) ?_
                refine zz_getr hx hb hts hi9 hown hK hP (g0.1) rfl 16 (by decide) (hts (.fieldLink RX9 40 "NoonLawModel" "weights" "[I") (List.mem_cons_of_mem _ bm_103)) rfl rfl dX9_isFreeBy_40 ?_
                refine lv_bipush (v := 9) hx hb dX9_isFreeBy_43 (by decide) ?_
                refine lv_iload_n hx hb dX9_isFreeBy_45 rfl (lv_at hl 3 rfl) ?_
                refine lv_imul hx hb dX9_isFreeBy_46 ?_
                refine lv_topi (fun n16 e16 => ?_)
                have f16 : n16.toInt = 9 * (ii).toInt := zz_mulL 9 e16 (by decide) (by omega) (by omega)
                refine lv_iload hx hb dX9_isFreeBy_47 (lv_at hl 0 rfl) ?_
                refine lv_iadd hx hb dX9_isFreeBy_49 ?_
                refine lv_topi (fun n17 e17 => ?_)
                have f17 : n17.toInt = (n16).toInt + (dj).toInt := zz_addT e17 (by omega) (by omega)
                refine zz_iald hx hb hK hP (g0.2.2.2.2.2.2.2.2.2.2.2.1) (by omega) (by omega) dX9_isFreeBy_50 (fun j18 q18 r18 => ?_)
                have hv9 : (σ (h0 + 11) j18).toInt = zy_tw K ((σ (h0 + 1) 0).toInt + ((ii.toInt.toNat : Nat) : Int)) sm dj.toInt.toNat := by rw [show j18 = 9 * ii.toInt.toNat + dj.toInt.toNat from by omega]; exact htw _ (by omega) _ (by omega)
                refine lv_goto (tgt := 56) hx hb dX9_isFreeBy_51 (by decide) ?_
                refine lv_istore (lv' := [(7, .int (σ (h0 + 11) j18)), (6, .int dj), (5, .int bn), (4, .int bd), (3, .int ii), (0, .ref h0), (1, .int so), (2, .int nn)]) hx hb dX9_isFreeBy_56 hl (by decide) rfl (fun ls hl => ?_)
                exact J58 (σ (h0 + 11) j18) _ _ _ (by by_cases q9 : zy_tb sm dj.toInt.toNat ∧ zy_F K ((σ (h0 + 1) 0).toInt + ((ii.toInt.toNat : Nat) : Int)) dj.toInt.toNat; exact Or.inl ⟨⟨hT9.y (by omega), q9.1, q9.2⟩, by rw [hv9, zy_tw_1 q9]⟩; exact Or.inr ⟨fun z => q9 z.2, by rw [hv9, zy_tw_0 q9]⟩) hP hS (lv_sub hl [1, 2, 3, 4, 5, 6, 7, 0] rfl)
        exact J18 _ (-1000000000) (-1000000000) 0 _ _ _ (Nat.lt_succ_self _) (by first | omega | exact hI | exact hT) (by rw [show (0 : Int32).toInt.toNat = 0 from by decide, k_m1000000000]; rfl) (by rw [show (0 : Int32).toInt.toNat = 0 from by decide, k_m1000000000]; rfl) hP hS (lv_sub hl [0, 1, 2, 3, 4, 5, 6] rfl)
  exact J2 _ 0 _ _ _ (Nat.lt_succ_self _) (by first | omega | exact hI | exact hT) (by intro k hk; omega) hP hS (lv_sub hl [0, 1, 2, 3] rfl)
theorem gX9_rightOf_X9_underAt : GoodIn wzX9_rightOf (wsV RX9 73 RX9 yX9_underAt wzX9_underAt) := wz_co bm_393 (wz_co bm_394 (wz_co bm_395 (wz_co bm_5 (wz_in bm_396))))
set_option maxHeartbeats 4000000 in
set_option maxRecDepth 100000 in
theorem c_X9_rightOf (l : Launch) (E : zz_E) (σ : zz_S) (h0 : Nat) (sh : Int32) (ho : Int32) (g0 : zz_M E h0) (hx : 0 ≤ sh.toInt ∧ sh.toInt ≤ 3) (hhr : 0 ≤ ho.toInt ∧ ho.toInt ≤ 20000) (hz5 : ∀ j : Nat, j < 4 → 0 ≤ (σ (h0 + 5) j).toInt ∧ (σ (h0 + 5) j).toInt ≤ 24) (hI : zz_IW σ (h0 + 1)) (K : zy_W) (hW : zy_YW σ (h0 + 1) K) : Met l yX9_rightOf wzX9_rightOf ({ frames := 6, cells := 0, slots := 0, locals := 144 }) (va_Pc [.ref h0, .int sh, .int ho] (zz_B E σ)) (va_Qi (fun r σ1 => zz_ch (fun a k => a = h0 + 9 ∨ a = h0 + 10) σ σ1 ∧ (r.toInt = ((zy_rt (zy_ro (zz_CM σ (h0 + 6)) K ho.toInt sh.toInt.toNat) (min (zz_HM σ (h0 + 5) sh.toInt.toNat) 10).toNat 0 : Nat) : Int) ∧ 0 ≤ r.toInt ∧ r.toInt ≤ (min (zz_HM σ (h0 + 5) sh.toInt.toNat) 10))) (zz_B E) (zz_A E)) 0 0 (zz_A E) := by
  refine zz_met (cc := cX9_rightOf) (maxL := 4) (ret := (some .int)) (by decide) rfl (Nat.le_of_ble_eq_true rfl) ?_
  intro p e s m args below meth c ls hx hb hr hts hown hlocks hml hK hP hS hl
  have hl : lv_has ls 4 [(0, .ref h0), (1, .int sh), (2, .int ho)] := hl
  have hown : s.vm.findClass RX9 = some m.cls := hown
  have hi9 : ∀ w ∈ wsX90, w ∈ wzX9_rightOf := fun w h => List.mem_cons_of_mem _ (hbw9 w h)
  have k_0 : (0 : Int32).toInt = 0 := by decide +kernel
  have k_1 : (1 : Int32).toInt = 1 := by decide +kernel
  have k_10 : (10 : Int32).toInt = 10 := by decide +kernel
  have k_24 : (24 : Int32).toInt = 24 := by decide +kernel
  replace t0 : σ (h0 + 1) 2 = σ (h0 + 1) 2 := rfl
  replace t1 : σ (h0 + 1) 3 = σ (h0 + 1) 3 := rfl
  replace t2 : σ (h0 + 1) 0 = σ (h0 + 1) 0 := rfl
  have hC : zz_ch (fun a k => a = h0 + 9 ∨ a = h0 + 10) σ σ := zz_ch.rf σ
  obtain ⟨hh, hsl, hd, hp, htc, hwc, hM, hT⟩ := id hI
  have hsz : 0 ≤ zz_HM σ (h0 + 5) sh.toInt.toNat ∧ zz_HM σ (h0 + 5) sh.toInt.toNat ≤ 24 := by rw [zz_HM.at (by omega)]; exact hz5 _ (by omega)
  refine lv_iconst (v := 0) hx hb dX9_rightOf_0 (by decide) ?_
  refine lv_istore_n (lv' := [(3, .int 0), (0, .ref h0), (1, .int sh), (2, .int ho)]) hx hb dX9_rightOf_1 rfl hl (by decide) rfl (fun ls hl => ?_)
  have J2 : ∀ (n : Nat) (ii : Int32) (σa : zz_S) (H : Heap) (locs : List Loc) (ls : Array Slot), ((10 - ii.toInt).toNat) < n → (zz_ch (fun a k => a = h0 + 9 ∨ a = h0 + 10) σ σa) → (0 ≤ ii.toInt ∧ ii.toInt ≤ (min (zz_HM σ (h0 + 5) sh.toInt.toNat) 10)) → (zy_rt (zy_ro (zz_CM σ (h0 + 6)) K ho.toInt sh.toInt.toNat) ((min (zz_HM σ (h0 + 5) sh.toInt.toNat) 10).toNat - ii.toInt.toNat) ii.toInt.toNat = zy_rt (zy_ro (zz_CM σ (h0 + 6)) K ho.toInt sh.toInt.toNat) (min (zz_HM σ (h0 + 5) sh.toInt.toNat) 10).toNat 0) → (σa (h0 + 1) 2 = σ (h0 + 1) 2) → (σa (h0 + 1) 3 = σ (h0 + 1) 3) → (σa (h0 + 1) 0 = σ (h0 + 1) 0) → zz_P E σa H → va_S (zz_A E) s.heap H locs → lv_has ls 4 [(3, .int ii), (0, .ref h0), (1, .int sh), (2, .int ho)] → W p l e (headSpec wzX9_rightOf ({ frames := 6, cells := 0, slots := 0, locals := 144 })).room s m args below meth c H locs 0 0 (MQ below (va_Qi (fun r σ1 => zz_ch (fun a k => a = h0 + 9 ∨ a = h0 + 10) σ σ1 ∧ (r.toInt = ((zy_rt (zy_ro (zz_CM σ (h0 + 6)) K ho.toInt sh.toInt.toNat) (min (zz_HM σ (h0 + 5) sh.toInt.toNat) 10).toNat 0 : Nat) : Int) ∧ 0 ≤ r.toInt ∧ r.toInt ≤ (min (zz_HM σ (h0 + 5) sh.toInt.toNat) 10))) (zz_B E) (zz_A E)) args s 0 0 (zz_A E)) (F0 m 2 ls []) := by
    intro n
    induction n with
    | zero => intro ii σa H locs ls hm; exact absurd hm (Nat.not_lt_zero _)
    | succ n ih2 =>
      intro ii σa H locs ls hm hC f2_0 f2_1 t0 t1 t2 hP hS hl
      refine lv_iload_n hx hb dX9_rightOf_2 rfl (lv_at hl 0 rfl) ?_
      refine lv_aload_n hx hb dX9_rightOf_3 rfl (lv_at hl 1 rfl) ?_
      refine zz_getr hx hb hts hi9 hown hK hP (g0.1) rfl 5 (by decide) (hts (.fieldLink RX9 22 "NoonLawModel" "sizeOf" "[I") (List.mem_cons_of_mem _ bm_97)) rfl rfl dX9_rightOf_4 ?_
      refine lv_iload_n hx hb dX9_rightOf_7 rfl (lv_at hl 2 rfl) ?_
      refine zz_iald hx hb hK hP (g0.2.2.2.2.2.1) (by omega) (by omega) dX9_rightOf_8 (fun j1 q1 r1 => ?_)
      have hx5 : zz_HM σ (h0 + 5) sh.toInt.toNat = (σa (h0 + 5) j1).toInt := by rw [show σa (h0 + 5) j1 = σ (h0 + 5) j1 from hC _ _ (by first | (dsimp only; omega) | omega)]; rw [show sh.toInt.toNat = j1 from by omega]; exact zz_HM.at r1
      refine lv_icmp_ge (tgt := 44) hx hb dX9_rightOf_9 (by decide) (fun c2 => ?_) (fun c2 => ?_)
      · have c2 := zz_leT c2
        refine lv_iload_n hx hb dX9_rightOf_44 rfl (lv_at hl 0 rfl) ?_
        have g := zy_rt_end f2_1 (by omega)
        exact zz_iret hx hb hr hlocks hK hP hS dX9_rightOf_45 (by exact ⟨hC, by rw [g]; omega, by omega⟩)
      · have c2 := zz_nleT c2
        refine lv_iload_n hx hb dX9_rightOf_12 rfl (lv_at hl 0 rfl) ?_
        refine lv_bipush (v := 10) hx hb dX9_rightOf_13 (by decide) ?_
        refine lv_icmp_ge (tgt := 44) hx hb dX9_rightOf_15 (by decide) (fun c3 => ?_) (fun c3 => ?_)
        · have c3 := zz_leT c3
          refine lv_iload_n hx hb dX9_rightOf_44 rfl (lv_at hl 0 rfl) ?_
          have g := zy_rt_end f2_1 (by omega)
          exact zz_iret hx hb hr hlocks hK hP hS dX9_rightOf_45 (by exact ⟨hC, by rw [g]; omega, by omega⟩)
        · have c3 := zz_nleT c3
          refine lv_aload_n hx hb dX9_rightOf_18 rfl (lv_at hl 1 rfl) ?_
          refine zz_getr hx hb hts hi9 hown hK hP (g0.1) rfl 6 (by decide) (hts (.fieldLink RX9 25 "NoonLawModel" "cells" "[I") (List.mem_cons_of_mem _ bm_98)) rfl rfl dX9_rightOf_19 ?_
          refine lv_bipush (v := 24) hx hb dX9_rightOf_22 (by decide) ?_
          refine lv_iload_n hx hb dX9_rightOf_24 rfl (lv_at hl 2 rfl) ?_
          refine lv_imul hx hb dX9_rightOf_25 ?_
          refine lv_topi (fun n4 e4 => ?_)
          have f4 : n4.toInt = 24 * (sh).toInt := zz_mulL 24 e4 (by decide) (by omega) (by omega)
          refine lv_iload_n hx hb dX9_rightOf_26 rfl (lv_at hl 0 rfl) ?_
          refine lv_iadd hx hb dX9_rightOf_27 ?_
          refine lv_topi (fun n5 e5 => ?_)
          have f5 : n5.toInt = (n4).toInt + (ii).toInt := zz_addT e5 (by omega) (by omega)
          refine zz_iald hx hb hK hP (g0.2.2.2.2.2.2.1) (by omega) (by omega) dX9_rightOf_28 (fun j6 q6 r6 => ?_)
          have hc9 : (σa (h0 + 6) j6).toInt = zz_CM σ (h0 + 6) sh.toInt.toNat ii.toInt.toNat := by rw [hC _ _ (by first | (dsimp only; omega) | omega), zz_CM.at (by omega) (by omega)]; exact congrArg (fun q => (σ (h0 + 6) q).toInt) (by omega)
          refine lv_aload_n hx hb dX9_rightOf_29 rfl (lv_at hl 1 rfl) ?_
          refine lv_iload_n hx hb dX9_rightOf_30 rfl (lv_at hl 0 rfl) ?_
          refine lv_iload_n hx hb dX9_rightOf_31 rfl (lv_at hl 3 rfl) ?_
          refine zz_callVi (As := [.int ii, .int ho]) (rest := [.int (σa (h0 + 6) j6)]) ⟨hx, hb, hml, hown, hts⟩ hK hP hS (c_X9_underAt l E σa h0 ii ho g0 (by first | omega | exact hI | exact hT) (by exact hI.keep (fun k => hC _ _ (by first | (dsimp only; omega) | omega))) K (by exact hW.keep (fun k q => hC _ _ (by first | (dsimp only; omega) | omega)))) (cwV 2 hts gX9_rightOf_X9_underAt rfl rfl rfl (by decide +kernel) ⟨Nat.le_of_ble_eq_true rfl, Nat.le_of_ble_eq_true rfl⟩) (g0.1) rfl rfl hl.1 rfl (Nat.le_of_ble_eq_true rfl) dX9_rightOf_32 ⟨Nat.zero_le _, Nat.zero_le _⟩ (fun r7 σ7 H locs q7 hP1 hS1 => ?_)
          replace hP := hP1
          replace hS := hS1
          clear hP1 hS1
          try dsimp only at q7
          obtain ⟨w7, f7⟩ := q7
          replace hC := hC.tr (w7.mono (dS22_1 h0))
          try simp only [t0, t1, t2] at f7
          replace t0 : σ7 (h0 + 1) 2 = σ (h0 + 1) 2 := (w7 (h0 + 1) 2 (dS22_2 h0)).trans t0
          replace t1 : σ7 (h0 + 1) 3 = σ (h0 + 1) 3 := (w7 (h0 + 1) 3 (dS22_2 h0)).trans t1
          replace t2 : σ7 (h0 + 1) 0 = σ (h0 + 1) 0 := (w7 (h0 + 1) 0 (dS22_2 h0)).trans t2
          have hu9 : zy_u K ho.toInt ((ii.toInt.toNat : Nat) : Int) = r7.toInt := by rw [f7, show ((ii.toInt.toNat : Nat) : Int) = ii.toInt from by omega]
          refine lv_icmp_ne (tgt := 44) hx hb dX9_rightOf_35 (by decide) (fun c8 => ?_) (fun c8 => ?_)
          · have c8 := zz_neT c8
            refine lv_iload_n hx hb dX9_rightOf_44 rfl (lv_at hl 0 rfl) ?_
            have g := zy_rt_stop (P := (zy_ro (zz_CM σ (h0 + 6)) K ho.toInt sh.toInt.toNat)) (show ¬ (zz_CM σ (h0 + 6) sh.toInt.toNat ii.toInt.toNat = zy_u K ho.toInt ((ii.toInt.toNat : Nat) : Int)) by rw [hu9]; omega) f2_1
            exact zz_iret hx hb hr hlocks hK hP hS dX9_rightOf_45 (by exact ⟨hC, by rw [g]; omega, by omega⟩)
          · have c8 := zz_eqT c8
            obtain ⟨n9, e9⟩ : ∃ y : Int32, y = ii + 1 := ⟨_, rfl⟩
            have f9 : n9.toInt = (ii).toInt + (1) := by have h9 := zz_addT e9 (by omega) (by omega); omega
            refine lv_iinc (v := n9) (lv' := [(3, .int n9), (0, .ref h0), (1, .int sh), (2, .int ho)]) hx hb dX9_rightOf_38 hl (k := 0) rfl (by rw [e9]; rfl) (by decide) rfl (fun ls hl => ?_)
            refine lv_goto (tgt := 2) hx hb dX9_rightOf_41 (by decide) ?_
            exact ih2 n9 σ7 _ _ _ (by omega) hC (by first | omega | exact hI | exact hT) (by exact zy_rt_go (P := (zy_ro (zz_CM σ (h0 + 6)) K ho.toInt sh.toInt.toNat)) (show zz_CM σ (h0 + 6) sh.toInt.toNat ii.toInt.toNat = zy_u K ho.toInt ((ii.toInt.toNat : Nat) : Int) by rw [hu9]; omega) f2_1 (by omega) (by omega)) t0 t1 t2 hP hS (lv_sub hl [0, 1, 2, 3] rfl)
  exact J2 _ 0 σ _ _ _ (Nat.lt_succ_self _) hC (by first | omega | exact hI | exact hT) (by exact zy_rt_0 (by omega)) t0 t1 t2 hP hS (lv_sub hl [0, 1, 2, 3] rfl)
