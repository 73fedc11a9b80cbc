def k_X9_opens (l : Launch) (E : zz_E) (rk : Nat) (T : Int → Int) (us : Int) (v : Int) : Prop := ∀ (σ : zz_S) (h0 : Nat) (sg : Int32) (g0 : zz_M E h0) (hPG : zz_PG σ h0) (hT : zz_hM σ h0 T) (hus : (σ h0 15).toInt = us) (hu1 : us = 0 ∨ us = 1) (ho : (σ h0 13).toInt = v) (hlt : (σ h0 12).toInt < (σ (h0 + 1) 5).toInt) (hsg : sg.toInt = 33 ∨ sg.toInt = 40) (hTs : T (σ h0 12).toInt = sg.toInt), Met l yX9_opens wzX9_opens (zz_rm rk) (va_Pc [.ref h0, .int sg] (zz_B E σ)) (va_Qv (fun σ1 => zz_ch (fun a k => (a = h0 ∧ 11 ≤ k ∧ k ≤ 14) ∨ a = h0 + 7 ∨ a = h0 + 8) σ σ1 ∧ (zz_PP σ σ1 h0 ∧ zz_q9 σ σ1 h0 (zz_uq T us (5 - v).toNat (σ h0 12).toInt))) (zz_B E) (zz_A E)) 0 0 (zz_A E)
def k_X9_one (l : Launch) (E : zz_E) (rk : Nat) (T : Int → Int) (us : Int) (v : Int) : Prop := ∀ (σ : zz_S) (h0 : Nat) (g0 : zz_M E h0) (hPG : zz_PG σ h0) (hT : zz_hM σ h0 T) (hus : (σ h0 15).toInt = us) (hu1 : us = 0 ∨ us = 1) (ho : (σ h0 13).toInt = v), Met l yX9_one wzX9_one (zz_rm rk) (va_Pc [.ref h0] (zz_B E σ)) (va_Qv (fun σ1 => zz_ch (fun a k => (a = h0 ∧ 11 ≤ k ∧ k ≤ 14) ∨ a = h0 + 7 ∨ a = h0 + 8) σ σ1 ∧ (zz_PP σ σ1 h0 ∧ zz_q9 σ σ1 h0 (zz_uq T us (5 - v).toNat (σ h0 12).toInt))) (zz_B E) (zz_A E)) 0 0 (zz_A E)
def k_X9_times (l : Launch) (E : zz_E) (rk : Nat) (T : Int → Int) (us : Int) (v : Int) : Prop := ∀ (σ : zz_S) (h0 : Nat) (g0 : zz_M E h0) (hPG : zz_PG σ h0) (hT : zz_hM σ h0 T) (hus : (σ h0 15).toInt = us) (hu1 : us = 0 ∨ us = 1) (ho : (σ h0 13).toInt = v), Met l yX9_times wzX9_times (zz_rm rk) (va_Pc [.ref h0] (zz_B E σ)) (va_Qv (fun σ1 => zz_ch (fun a k => (a = h0 ∧ 11 ≤ k ∧ k ≤ 14) ∨ a = h0 + 7 ∨ a = h0 + 8) σ σ1 ∧ (zz_PP σ σ1 h0 ∧ zz_q9 σ σ1 h0 (zz_lw T (fun q => zz_uq T us (5 - v).toNat q) 4 (σ h0 12).toInt))) (zz_B E) (zz_A E)) 0 0 (zz_A E)
def k_X9_sum (l : Launch) (E : zz_E) (rk : Nat) (T : Int → Int) (us : Int) (v : Int) : Prop := ∀ (σ : zz_S) (h0 : Nat) (g0 : zz_M E h0) (hPG : zz_PG σ h0) (hT : zz_hM σ h0 T) (hus : (σ h0 15).toInt = us) (hu1 : us = 0 ∨ us = 1) (ho : (σ h0 13).toInt = v), Met l yX9_sum wzX9_sum (zz_rm rk) (va_Pc [.ref h0] (zz_B E σ)) (va_Qv (fun σ1 => zz_ch (fun a k => (a = h0 ∧ 11 ≤ k ∧ k ≤ 14) ∨ a = h0 + 7 ∨ a = h0 + 8) σ σ1 ∧ (zz_PP σ σ1 h0 ∧ zz_q9 σ σ1 h0 (zz_lw T (fun q => zz_uq T us (5 - v).toNat q) 3 (σ h0 12).toInt))) (zz_B E) (zz_A E)) 0 0 (zz_A E)
def k_X9_compares (l : Launch) (E : zz_E) (rk : Nat) (T : Int → Int) (us : Int) (v : Int) : Prop := ∀ (σ : zz_S) (h0 : Nat) (g0 : zz_M E h0) (hPG : zz_PG σ h0) (hT : zz_hM σ h0 T) (hus : (σ h0 15).toInt = us) (hu1 : us = 0 ∨ us = 1) (ho : (σ h0 13).toInt = v), Met l yX9_compares wzX9_compares (zz_rm rk) (va_Pc [.ref h0] (zz_B E σ)) (va_Qv (fun σ1 => zz_ch (fun a k => (a = h0 ∧ 11 ≤ k ∧ k ≤ 14) ∨ a = h0 + 7 ∨ a = h0 + 8) σ σ1 ∧ (zz_PP σ σ1 h0 ∧ zz_q9 σ σ1 h0 (zz_lw T (fun q => zz_uq T us (5 - v).toNat q) 2 (σ h0 12).toInt))) (zz_B E) (zz_A E)) 0 0 (zz_A E)
def k_X9_all (l : Launch) (E : zz_E) (rk : Nat) (T : Int → Int) (us : Int) (v : Int) : Prop := ∀ (σ : zz_S) (h0 : Nat) (g0 : zz_M E h0) (hPG : zz_PG σ h0) (hT : zz_hM σ h0 T) (hus : (σ h0 15).toInt = us) (hu1 : us = 0 ∨ us = 1) (ho : (σ h0 13).toInt = v), Met l yX9_all wzX9_all (zz_rm rk) (va_Pc [.ref h0] (zz_B E σ)) (va_Qv (fun σ1 => zz_ch (fun a k => (a = h0 ∧ 11 ≤ k ∧ k ≤ 14) ∨ a = h0 + 7 ∨ a = h0 + 8) σ σ1 ∧ (zz_PP σ σ1 h0 ∧ zz_q9 σ σ1 h0 (zz_lw T (fun q => zz_uq T us (5 - v).toNat q) 1 (σ h0 12).toInt))) (zz_B E) (zz_A E)) 0 0 (zz_A E)
def k_X9_any (l : Launch) (E : zz_E) (rk : Nat) (T : Int → Int) (us : Int) (v : Int) : Prop := ∀ (σ : zz_S) (h0 : Nat) (g0 : zz_M E h0) (hPG : zz_PG σ h0) (hT : zz_hM σ h0 T) (hus : (σ h0 15).toInt = us) (hu1 : us = 0 ∨ us = 1) (ho : (σ h0 13).toInt = v), Met l yX9_any wzX9_any (zz_rm rk) (va_Pc [.ref h0] (zz_B E σ)) (va_Qv (fun σ1 => zz_ch (fun a k => (a = h0 ∧ 11 ≤ k ∧ k ≤ 14) ∨ a = h0 + 7 ∨ a = h0 + 8) σ σ1 ∧ (zz_PP σ σ1 h0 ∧ zz_q9 σ σ1 h0 (zz_lw T (fun q => zz_uq T us (5 - v).toNat q) 0 (σ h0 12).toInt))) (zz_B E) (zz_A E)) 0 0 (zz_A E)
set_option maxHeartbeats 4000000 in
set_option maxRecDepth 100000 in
theorem c_X9_look (l : Launch) (E : zz_E) (σ : zz_S) (h0 : Nat) (g0 : zz_M E h0) (hhe : 0 ≤ (σ h0 12).toInt ∧ 0 ≤ (σ (h0 + 1) 5).toInt ∧ (σ (h0 + 1) 5).toInt ≤ 60) : Met l yX9_look wzX9_look ({ frames := 0, cells := 0, slots := 0, locals := 0 }) (va_Pc [.ref h0] (zz_B E σ)) (va_Qi (fun r σ1 => σ1 = σ ∧ (r = zz_look σ h0 ∧ ((σ h0 12).toInt < (σ (h0 + 1) 5).toInt ∨ r.toInt = -1))) (zz_B E) (zz_A E)) 0 0 (zz_A E) := by
  refine zz_met (cc := cX9_look) (maxL := 1) (ret := (some .int)) (by decide) rfl (Nat.le_of_ble_eq_true rfl) ?_
  intro p e s m args below meth c ls hx hb hr hts hown hlocks hml hK hP hS hl
  have hl : lv_has ls 1 [(0, .ref h0)] := hl
  have hown : s.vm.findClass RX9 = some m.cls := hown
  have hi9 : ∀ w ∈ wsX90, w ∈ wzX9_look := fun w h => List.mem_cons_of_mem _ (hbw9 w h)
  have k_m1 : ((-1) : Int32).toInt = -1 := by decide +kernel
  have k_5 : (5 : Int32).toInt = 5 := by decide +kernel
  have k_73 : (73 : Int32).toInt = 73 := by decide +kernel
  refine lv_aload_n hx hb dX9_look_0 rfl (lv_at hl 0 rfl) ?_
  refine zz_geti hx hb hts hi9 hown hK hP (g0.1) rfl 12 (by decide) (hts (.fieldLink RX9 116 "NoonLawModel" "here" "I") (List.mem_cons_of_mem _ bm_512)) rfl rfl rfl dX9_look_1 ?_
  refine lv_aload_n hx hb dX9_look_4 rfl (lv_at hl 0 rfl) ?_
  refine zz_getr hx hb hts hi9 hown hK hP (g0.1) rfl 0 (by decide) (hts (.fieldLink RX9 9 "NoonLawModel" "row" "[I") (List.mem_cons_of_mem _ bm_93)) rfl rfl dX9_look_5 ?_
  refine lv_iconst (v := 5) hx hb dX9_look_8 (by decide) ?_
  refine zz_ialc hx hb hK hP (g0.2.1) 5 (by decide) (by decide) rfl dX9_look_9 ?_
  refine lv_icmp_ge (tgt := 28) hx hb dX9_look_10 (by decide) (fun c2 => ?_) (fun c2 => ?_)
  · have c2 := zz_leT c2
    refine lv_iconst (v := (-1)) hx hb dX9_look_28 (by decide) ?_
    exact zz_iret hx hb hr hlocks hK hP hS dX9_look_29 (by refine ⟨rfl, ?_, Or.inr (by omega)⟩; unfold zz_look; rw [if_neg (by omega)])
  · have c2 := zz_nleT c2
    refine lv_aload_n hx hb dX9_look_13 rfl (lv_at hl 0 rfl) ?_
    refine zz_getr hx hb hts hi9 hown hK hP (g0.1) rfl 0 (by decide) (hts (.fieldLink RX9 9 "NoonLawModel" "row" "[I") (List.mem_cons_of_mem _ bm_93)) rfl rfl dX9_look_14 ?_
    refine lv_bipush (v := 73) hx hb dX9_look_17 (by decide) ?_
    refine lv_aload_n hx hb dX9_look_19 rfl (lv_at hl 0 rfl) ?_
    refine zz_geti hx hb hts hi9 hown hK hP (g0.1) rfl 12 (by decide) (hts (.fieldLink RX9 116 "NoonLawModel" "here" "I") (List.mem_cons_of_mem _ bm_512)) rfl rfl rfl dX9_look_20 ?_
    refine lv_iadd hx hb dX9_look_23 ?_
    refine lv_topi (fun n3 e3 => ?_)
    have f3 : n3.toInt = (73 : Int32).toInt + (σ h0 12).toInt := zz_addT e3 (by omega) (by omega)
    refine zz_iald hx hb hK hP (g0.2.1) (by omega) (by omega) dX9_look_24 (fun j4 q4 r4 => ?_)
    refine lv_goto (tgt := 29) hx hb dX9_look_25 (by decide) ?_
    exact zz_iret hx hb hr hlocks hK hP hS dX9_look_29 (by refine ⟨rfl, ?_, Or.inl (by omega)⟩; unfold zz_look; rw [if_pos (by omega), show 73 + (σ h0 12).toInt.toNat = j4 from by omega])
set_option maxHeartbeats 4000000 in
set_option maxRecDepth 100000 in
theorem c_X9_nameOf (l : Launch) (E : zz_E) (σ : zz_S) (h0 : Nat) (bb : Int32) (g0 : zz_M E h0) (us : Int) (hus : (σ h0 15).toInt = us) (hu1 : us = 0 ∨ us = 1) : Met l yX9_nameOf wzX9_nameOf ({ frames := 0, cells := 0, slots := 0, locals := 0 }) (va_Pc [.ref h0, .int bb] (zz_B E σ)) (va_Qi (fun r σ1 => σ1 = σ ∧ ((-1 ≤ r.toInt ∧ r.toInt ≤ 2) ∧ (r.toInt = -1 ∨ 0 ≤ bb.toInt) ∧ zz_nmp us bb.toInt r.toInt)) (zz_B E) (zz_A E)) 0 0 (zz_A E) := by
  refine zz_met (cc := cX9_nameOf) (maxL := 2) (ret := (some .int)) (by decide) rfl (Nat.le_of_ble_eq_true rfl) ?_
  intro p e s m args below meth c ls hx hb hr hts hown hlocks hml hK hP hS hl
  have hl : lv_has ls 2 [(0, .ref h0), (1, .int bb)] := hl
  have hown : s.vm.findClass RX9 = some m.cls := hown
  have hi9 : ∀ w ∈ wsX90, w ∈ wzX9_nameOf := fun w h => List.mem_cons_of_mem _ (hbw9 w h)
  have k_m1 : ((-1) : Int32).toInt = -1 := by decide +kernel
  have k_0 : (0 : Int32).toInt = 0 := by decide +kernel
  have k_1 : (1 : Int32).toInt = 1 := by decide +kernel
  have k_2 : (2 : Int32).toInt = 2 := by decide +kernel
  have k_103 : (103 : Int32).toInt = 103 := by decide +kernel
  have k_104 : (104 : Int32).toInt = 104 := by decide +kernel
  have k_107 : (107 : Int32).toInt = 107 := by decide +kernel
  have k_109 : (109 : Int32).toInt = 109 := by decide +kernel
  refine lv_iload_n hx hb dX9_nameOf_0 rfl (lv_at hl 1 rfl) ?_
  by_cases c1 : (bb).toInt = 100
  · refine lv_tableIn (off := 92) (tgt := 93) hx hb dX9_nameOf_1 (by omega) (by omega) (by rw [show ((bb).toInt - (100)).toNat = 0 from by omega]; rfl) (by decide) ?_
    refine lv_aload_n hx hb dX9_nameOf_93 rfl (lv_at hl 0 rfl) ?_
    refine zz_geti hx hb hts hi9 hown hK hP (g0.1) rfl 15 (by decide) (hts (.fieldLink RX9 123 "NoonLawModel" "using" "I") (List.mem_cons_of_mem _ bm_510)) rfl rfl rfl dX9_nameOf_94 ?_
    refine lv_iconst (v := 1) hx hb dX9_nameOf_97 (by decide) ?_
    refine lv_icmp_eq (tgt := 105) hx hb dX9_nameOf_98 (by decide) (fun c2 => ?_) (fun c2 => ?_)
    · have c2 := zz_eqT c2
      refine lv_iload_n hx hb dX9_nameOf_105 rfl (lv_at hl 1 rfl) ?_
      refine lv_bipush (v := 107) hx hb dX9_nameOf_106 (by decide) ?_
      refine lv_icmp_ne (tgt := 115) hx hb dX9_nameOf_108 (by decide) (fun c3 => ?_) (fun c3 => ?_)
      · have c3 := zz_neT c3
        refine lv_iload_n hx hb dX9_nameOf_115 rfl (lv_at hl 1 rfl) ?_
        refine lv_bipush (v := 109) hx hb dX9_nameOf_116 (by decide) ?_
        refine lv_icmp_ne (tgt := 125) hx hb dX9_nameOf_118 (by decide) (fun c4 => ?_) (fun c4 => ?_)
        · have c4 := zz_neT c4
          skip
          refine lv_iconst (v := 2) hx hb dX9_nameOf_125 (by decide) ?_
          exact zz_iret hx hb hr hlocks hK hP hS dX9_nameOf_126 (by exact ⟨rfl, by omega, by omega, zz_nmp1 (by omega) (Or.inr (Or.inr ⟨by omega, by omega⟩))⟩)
        · have c4 := zz_eqT c4
          skip
          refine lv_iconst (v := 1) hx hb dX9_nameOf_121 (by decide) ?_
          refine lv_goto (tgt := 126) hx hb dX9_nameOf_122 (by decide) ?_
          exact zz_iret hx hb hr hlocks hK hP hS dX9_nameOf_126 (by exact ⟨rfl, by omega, by omega, zz_nmp1 (by omega) (Or.inr (Or.inl ⟨by omega, by omega⟩))⟩)
      · have c3 := zz_eqT c3
        skip
        refine lv_iconst (v := 0) hx hb dX9_nameOf_111 (by decide) ?_
        refine lv_goto (tgt := 126) hx hb dX9_nameOf_112 (by decide) ?_
        exact zz_iret hx hb hr hlocks hK hP hS dX9_nameOf_126 (by exact ⟨rfl, by omega, by omega, zz_nmp1 (by omega) (Or.inl ⟨by omega, by omega⟩)⟩)
    · have c2 := zz_neT c2
      skip
      refine lv_iconst (v := (-1)) hx hb dX9_nameOf_101 (by decide) ?_
      refine lv_goto (tgt := 126) hx hb dX9_nameOf_102 (by decide) ?_
      exact zz_iret hx hb hr hlocks hK hP hS dX9_nameOf_126 (by exact ⟨rfl, by omega, by omega, zz_nmp_o0 (by omega) (by omega) (by omega)⟩)
  by_cases c5 : (bb).toInt = 103
  · refine lv_tableIn (off := 59) (tgt := 60) hx hb dX9_nameOf_1 (by omega) (by omega) (by rw [show ((bb).toInt - (100)).toNat = 3 from by omega]; rfl) (by decide) ?_
    refine lv_aload_n hx hb dX9_nameOf_60 rfl (lv_at hl 0 rfl) ?_
    refine zz_geti hx hb hts hi9 hown hK hP (g0.1) rfl 15 (by decide) (hts (.fieldLink RX9 123 "NoonLawModel" "using" "I") (List.mem_cons_of_mem _ bm_510)) rfl rfl rfl dX9_nameOf_61 ?_
    refine lv_if_eq (tgt := 71) hx hb dX9_nameOf_64 (by decide) (fun c6 => ?_) (fun c6 => ?_)
    · have c6 := zz_eqT c6
      refine lv_iload_n hx hb dX9_nameOf_71 rfl (lv_at hl 1 rfl) ?_
      refine lv_bipush (v := 103) hx hb dX9_nameOf_72 (by decide) ?_
      refine lv_icmp_ne (tgt := 81) hx hb dX9_nameOf_74 (by decide) (fun c7 => ?_) (fun c7 => ?_)
      · have c7 := zz_neT c7
        refine lv_iload_n hx hb dX9_nameOf_81 rfl (lv_at hl 1 rfl) ?_
        refine lv_bipush (v := 104) hx hb dX9_nameOf_82 (by decide) ?_
        refine lv_icmp_ne (tgt := 91) hx hb dX9_nameOf_84 (by decide) (fun c8 => ?_) (fun c8 => ?_)
        · have c8 := zz_neT c8
          skip
          refine lv_iconst (v := 2) hx hb dX9_nameOf_91 (by decide) ?_
          exact zz_iret hx hb hr hlocks hK hP hS dX9_nameOf_92 (by exact ⟨rfl, by omega, by omega, zz_nmp0 (by omega) (Or.inr (Or.inr ⟨by omega, by omega⟩))⟩)
        · have c8 := zz_eqT c8
          skip
          refine lv_iconst (v := 1) hx hb dX9_nameOf_87 (by decide) ?_
          refine lv_goto (tgt := 92) hx hb dX9_nameOf_88 (by decide) ?_
          exact zz_iret hx hb hr hlocks hK hP hS dX9_nameOf_92 (by exact ⟨rfl, by omega, by omega, zz_nmp0 (by omega) (Or.inr (Or.inl ⟨by omega, by omega⟩))⟩)
      · have c7 := zz_eqT c7
        skip
        refine lv_iconst (v := 0) hx hb dX9_nameOf_77 (by decide) ?_
        refine lv_goto (tgt := 92) hx hb dX9_nameOf_78 (by decide) ?_
        exact zz_iret hx hb hr hlocks hK hP hS dX9_nameOf_92 (by exact ⟨rfl, by omega, by omega, zz_nmp0 (by omega) (Or.inl ⟨by omega, by omega⟩)⟩)
    · have c6 := zz_neT c6
      skip
      refine lv_iconst (v := (-1)) hx hb dX9_nameOf_67 (by decide) ?_
      refine lv_goto (tgt := 92) hx hb dX9_nameOf_68 (by decide) ?_
      exact zz_iret hx hb hr hlocks hK hP hS dX9_nameOf_92 (by exact ⟨rfl, by omega, by omega, zz_nmp_o1 (by omega) (by omega) (by omega)⟩)
  by_cases c9 : (bb).toInt = 104
  · refine lv_tableIn (off := 59) (tgt := 60) hx hb dX9_nameOf_1 (by omega) (by omega) (by rw [show ((bb).toInt - (100)).toNat = 4 from by omega]; rfl) (by decide) ?_
    refine lv_aload_n hx hb dX9_nameOf_60 rfl (lv_at hl 0 rfl) ?_
    refine zz_geti hx hb hts hi9 hown hK hP (g0.1) rfl 15 (by decide) (hts (.fieldLink RX9 123 "NoonLawModel" "using" "I") (List.mem_cons_of_mem _ bm_510)) rfl rfl rfl dX9_nameOf_61 ?_
    refine lv_if_eq (tgt := 71) hx hb dX9_nameOf_64 (by decide) (fun c10 => ?_) (fun c10 => ?_)
    · have c10 := zz_eqT c10
      refine lv_iload_n hx hb dX9_nameOf_71 rfl (lv_at hl 1 rfl) ?_
      refine lv_bipush (v := 103) hx hb dX9_nameOf_72 (by decide) ?_
      refine lv_icmp_ne (tgt := 81) hx hb dX9_nameOf_74 (by decide) (fun c11 => ?_) (fun c11 => ?_)
      · have c11 := zz_neT c11
        refine lv_iload_n hx hb dX9_nameOf_81 rfl (lv_at hl 1 rfl) ?_
        refine lv_bipush (v := 104) hx hb dX9_nameOf_82 (by decide) ?_
        refine lv_icmp_ne (tgt := 91) hx hb dX9_nameOf_84 (by decide) (fun c12 => ?_) (fun c12 => ?_)
        · have c12 := zz_neT c12
          skip
          refine lv_iconst (v := 2) hx hb dX9_nameOf_91 (by decide) ?_
          exact zz_iret hx hb hr hlocks hK hP hS dX9_nameOf_92 (by exact ⟨rfl, by omega, by omega, zz_nmp0 (by omega) (Or.inr (Or.inr ⟨by omega, by omega⟩))⟩)
        · have c12 := zz_eqT c12
          skip
          refine lv_iconst (v := 1) hx hb dX9_nameOf_87 (by decide) ?_
          refine lv_goto (tgt := 92) hx hb dX9_nameOf_88 (by decide) ?_
          exact zz_iret hx hb hr hlocks hK hP hS dX9_nameOf_92 (by exact ⟨rfl, by omega, by omega, zz_nmp0 (by omega) (Or.inr (Or.inl ⟨by omega, by omega⟩))⟩)
      · have c11 := zz_eqT c11
        skip
        refine lv_iconst (v := 0) hx hb dX9_nameOf_77 (by decide) ?_
        refine lv_goto (tgt := 92) hx hb dX9_nameOf_78 (by decide) ?_
        exact zz_iret hx hb hr hlocks hK hP hS dX9_nameOf_92 (by exact ⟨rfl, by omega, by omega, zz_nmp0 (by omega) (Or.inl ⟨by omega, by omega⟩)⟩)
    · have c10 := zz_neT c10
      skip
      refine lv_iconst (v := (-1)) hx hb dX9_nameOf_67 (by decide) ?_
      refine lv_goto (tgt := 92) hx hb dX9_nameOf_68 (by decide) ?_
      exact zz_iret hx hb hr hlocks hK hP hS dX9_nameOf_92 (by exact ⟨rfl, by omega, by omega, zz_nmp_o1 (by omega) (by omega) (by omega)⟩)
  by_cases c13 : (bb).toInt = 107
  · refine lv_tableIn (off := 92) (tgt := 93) hx hb dX9_nameOf_1 (by omega) (by omega) (by rw [show ((bb).toInt - (100)).toNat = 7 from by omega]; rfl) (by decide) ?_
    refine lv_aload_n hx hb dX9_nameOf_93 rfl (lv_at hl 0 rfl) ?_
    refine zz_geti hx hb hts hi9 hown hK hP (g0.1) rfl 15 (by decide) (hts (.fieldLink RX9 123 "NoonLawModel" "using" "I") (List.mem_cons_of_mem _ bm_510)) rfl rfl rfl dX9_nameOf_94 ?_
    refine lv_iconst (v := 1) hx hb dX9_nameOf_97 (by decide) ?_
    refine lv_icmp_eq (tgt := 105) hx hb dX9_nameOf_98 (by decide) (fun c14 => ?_) (fun c14 => ?_)
    · have c14 := zz_eqT c14
      refine lv_iload_n hx hb dX9_nameOf_105 rfl (lv_at hl 1 rfl) ?_
      refine lv_bipush (v := 107) hx hb dX9_nameOf_106 (by decide) ?_
      refine lv_icmp_ne (tgt := 115) hx hb dX9_nameOf_108 (by decide) (fun c15 => ?_) (fun c15 => ?_)
      · have c15 := zz_neT c15
        refine lv_iload_n hx hb dX9_nameOf_115 rfl (lv_at hl 1 rfl) ?_
        refine lv_bipush (v := 109) hx hb dX9_nameOf_116 (by decide) ?_
        refine lv_icmp_ne (tgt := 125) hx hb dX9_nameOf_118 (by decide) (fun c16 => ?_) (fun c16 => ?_)
        · have c16 := zz_neT c16
          skip
          refine lv_iconst (v := 2) hx hb dX9_nameOf_125 (by decide) ?_
          exact zz_iret hx hb hr hlocks hK hP hS dX9_nameOf_126 (by exact ⟨rfl, by omega, by omega, zz_nmp1 (by omega) (Or.inr (Or.inr ⟨by omega, by omega⟩))⟩)
        · have c16 := zz_eqT c16
          skip
          refine lv_iconst (v := 1) hx hb dX9_nameOf_121 (by decide) ?_
          refine lv_goto (tgt := 126) hx hb dX9_nameOf_122 (by decide) ?_
          exact zz_iret hx hb hr hlocks hK hP hS dX9_nameOf_126 (by exact ⟨rfl, by omega, by omega, zz_nmp1 (by omega) (Or.inr (Or.inl ⟨by omega, by omega⟩))⟩)
      · have c15 := zz_eqT c15
        skip
        refine lv_iconst (v := 0) hx hb dX9_nameOf_111 (by decide) ?_
        refine lv_goto (tgt := 126) hx hb dX9_nameOf_112 (by decide) ?_
        exact zz_iret hx hb hr hlocks hK hP hS dX9_nameOf_126 (by exact ⟨rfl, by omega, by omega, zz_nmp1 (by omega) (Or.inl ⟨by omega, by omega⟩)⟩)
    · have c14 := zz_neT c14
      skip
      refine lv_iconst (v := (-1)) hx hb dX9_nameOf_101 (by decide) ?_
      refine lv_goto (tgt := 126) hx hb dX9_nameOf_102 (by decide) ?_
      exact zz_iret hx hb hr hlocks hK hP hS dX9_nameOf_126 (by exact ⟨rfl, by omega, by omega, zz_nmp_o0 (by omega) (by omega) (by omega)⟩)
  by_cases c17 : (bb).toInt = 109
  · refine lv_tableIn (off := 92) (tgt := 93) hx hb dX9_nameOf_1 (by omega) (by omega) (by rw [show ((bb).toInt - (100)).toNat = 9 from by omega]; rfl) (by decide) ?_
    refine lv_aload_n hx hb dX9_nameOf_93 rfl (lv_at hl 0 rfl) ?_
    refine zz_geti hx hb hts hi9 hown hK hP (g0.1) rfl 15 (by decide) (hts (.fieldLink RX9 123 "NoonLawModel" "using" "I") (List.mem_cons_of_mem _ bm_510)) rfl rfl rfl dX9_nameOf_94 ?_
    refine lv_iconst (v := 1) hx hb dX9_nameOf_97 (by decide) ?_
    refine lv_icmp_eq (tgt := 105) hx hb dX9_nameOf_98 (by decide) (fun c18 => ?_) (fun c18 => ?_)
    · have c18 := zz_eqT c18
      refine lv_iload_n hx hb dX9_nameOf_105 rfl (lv_at hl 1 rfl) ?_
      refine lv_bipush (v := 107) hx hb dX9_nameOf_106 (by decide) ?_
      refine lv_icmp_ne (tgt := 115) hx hb dX9_nameOf_108 (by decide) (fun c19 => ?_) (fun c19 => ?_)
      · have c19 := zz_neT c19
        refine lv_iload_n hx hb dX9_nameOf_115 rfl (lv_at hl 1 rfl) ?_
        refine lv_bipush (v := 109) hx hb dX9_nameOf_116 (by decide) ?_
        refine lv_icmp_ne (tgt := 125) hx hb dX9_nameOf_118 (by decide) (fun c20 => ?_) (fun c20 => ?_)
        · have c20 := zz_neT c20
          skip
          refine lv_iconst (v := 2) hx hb dX9_nameOf_125 (by decide) ?_
          exact zz_iret hx hb hr hlocks hK hP hS dX9_nameOf_126 (by exact ⟨rfl, by omega, by omega, zz_nmp1 (by omega) (Or.inr (Or.inr ⟨by omega, by omega⟩))⟩)
        · have c20 := zz_eqT c20
          skip
          refine lv_iconst (v := 1) hx hb dX9_nameOf_121 (by decide) ?_
          refine lv_goto (tgt := 126) hx hb dX9_nameOf_122 (by decide) ?_
          exact zz_iret hx hb hr hlocks hK hP hS dX9_nameOf_126 (by exact ⟨rfl, by omega, by omega, zz_nmp1 (by omega) (Or.inr (Or.inl ⟨by omega, by omega⟩))⟩)
      · have c19 := zz_eqT c19
        skip
        refine lv_iconst (v := 0) hx hb dX9_nameOf_111 (by decide) ?_
        refine lv_goto (tgt := 126) hx hb dX9_nameOf_112 (by decide) ?_
        exact zz_iret hx hb hr hlocks hK hP hS dX9_nameOf_126 (by exact ⟨rfl, by omega, by omega, zz_nmp1 (by omega) (Or.inl ⟨by omega, by omega⟩)⟩)
    · have c18 := zz_neT c18
      skip
      refine lv_iconst (v := (-1)) hx hb dX9_nameOf_101 (by decide) ?_
      refine lv_goto (tgt := 126) hx hb dX9_nameOf_102 (by decide) ?_
      exact zz_iret hx hb hr hlocks hK hP hS dX9_nameOf_126 (by exact ⟨rfl, by omega, by omega, zz_nmp_o0 (by omega) (by omega) (by omega)⟩)
  by_cases c21 : (bb).toInt = 110
  · refine lv_tableIn (off := 59) (tgt := 60) hx hb dX9_nameOf_1 (by omega) (by omega) (by rw [show ((bb).toInt - (100)).toNat = 10 from by omega]; rfl) (by decide) ?_
    refine lv_aload_n hx hb dX9_nameOf_60 rfl (lv_at hl 0 rfl) ?_
    refine zz_geti hx hb hts hi9 hown hK hP (g0.1) rfl 15 (by decide) (hts (.fieldLink RX9 123 "NoonLawModel" "using" "I") (List.mem_cons_of_mem _ bm_510)) rfl rfl rfl dX9_nameOf_61 ?_
    refine lv_if_eq (tgt := 71) hx hb dX9_nameOf_64 (by decide) (fun c22 => ?_) (fun c22 => ?_)
    · have c22 := zz_eqT c22
      refine lv_iload_n hx hb dX9_nameOf_71 rfl (lv_at hl 1 rfl) ?_
      refine lv_bipush (v := 103) hx hb dX9_nameOf_72 (by decide) ?_
      refine lv_icmp_ne (tgt := 81) hx hb dX9_nameOf_74 (by decide) (fun c23 => ?_) (fun c23 => ?_)
      · have c23 := zz_neT c23
        refine lv_iload_n hx hb dX9_nameOf_81 rfl (lv_at hl 1 rfl) ?_
        refine lv_bipush (v := 104) hx hb dX9_nameOf_82 (by decide) ?_
        refine lv_icmp_ne (tgt := 91) hx hb dX9_nameOf_84 (by decide) (fun c24 => ?_) (fun c24 => ?_)
        · have c24 := zz_neT c24
          skip
          refine lv_iconst (v := 2) hx hb dX9_nameOf_91 (by decide) ?_
          exact zz_iret hx hb hr hlocks hK hP hS dX9_nameOf_92 (by exact ⟨rfl, by omega, by omega, zz_nmp0 (by omega) (Or.inr (Or.inr ⟨by omega, by omega⟩))⟩)
        · have c24 := zz_eqT c24
          skip
          refine lv_iconst (v := 1) hx hb dX9_nameOf_87 (by decide) ?_
          refine lv_goto (tgt := 92) hx hb dX9_nameOf_88 (by decide) ?_
          exact zz_iret hx hb hr hlocks hK hP hS dX9_nameOf_92 (by exact ⟨rfl, by omega, by omega, zz_nmp0 (by omega) (Or.inr (Or.inl ⟨by omega, by omega⟩))⟩)
      · have c23 := zz_eqT c23
        skip
        refine lv_iconst (v := 0) hx hb dX9_nameOf_77 (by decide) ?_
        refine lv_goto (tgt := 92) hx hb dX9_nameOf_78 (by decide) ?_
        exact zz_iret hx hb hr hlocks hK hP hS dX9_nameOf_92 (by exact ⟨rfl, by omega, by omega, zz_nmp0 (by omega) (Or.inl ⟨by omega, by omega⟩)⟩)
    · have c22 := zz_neT c22
      skip
      refine lv_iconst (v := (-1)) hx hb dX9_nameOf_67 (by decide) ?_
      refine lv_goto (tgt := 92) hx hb dX9_nameOf_68 (by decide) ?_
      exact zz_iret hx hb hr hlocks hK hP hS dX9_nameOf_92 (by exact ⟨rfl, by omega, by omega, zz_nmp_o1 (by omega) (by omega) (by omega)⟩)
  by_cases c924 : (bb).toInt < 100 ∨ 110 < (bb).toInt
  · refine lv_tableOut (tgt := 127) hx hb dX9_nameOf_1 c924 (by decide) ?_
    skip
    refine lv_iconst (v := (-1)) hx hb dX9_nameOf_127 (by decide) ?_
    exact zz_iret hx hb hr hlocks hK hP hS dX9_nameOf_128 (by exact ⟨rfl, by omega, by omega, zz_nmp_no (by omega) ⟨by omega, by omega, by omega, by omega, by omega, by omega⟩⟩)
  by_cases c25 : (bb).toInt = 101
  · refine lv_tableIn (off := 126) (tgt := 127) hx hb dX9_nameOf_1 (by omega) (by omega) (by rw [show ((bb).toInt - (100)).toNat = 1 from by omega]; rfl) (by decide) ?_
    skip
    refine lv_iconst (v := (-1)) hx hb dX9_nameOf_127 (by decide) ?_
    exact zz_iret hx hb hr hlocks hK hP hS dX9_nameOf_128 (by exact ⟨rfl, by omega, by omega, zz_nmp_no (by omega) ⟨by omega, by omega, by omega, by omega, by omega, by omega⟩⟩)
  by_cases c26 : (bb).toInt = 102
  · refine lv_tableIn (off := 126) (tgt := 127) hx hb dX9_nameOf_1 (by omega) (by omega) (by rw [show ((bb).toInt - (100)).toNat = 2 from by omega]; rfl) (by decide) ?_
    skip
    refine lv_iconst (v := (-1)) hx hb dX9_nameOf_127 (by decide) ?_
    exact zz_iret hx hb hr hlocks hK hP hS dX9_nameOf_128 (by exact ⟨rfl, by omega, by omega, zz_nmp_no (by omega) ⟨by omega, by omega, by omega, by omega, by omega, by omega⟩⟩)
  by_cases c27 : (bb).toInt = 105
  · refine lv_tableIn (off := 126) (tgt := 127) hx hb dX9_nameOf_1 (by omega) (by omega) (by rw [show ((bb).toInt - (100)).toNat = 5 from by omega]; rfl) (by decide) ?_
    skip
    refine lv_iconst (v := (-1)) hx hb dX9_nameOf_127 (by decide) ?_
    exact zz_iret hx hb hr hlocks hK hP hS dX9_nameOf_128 (by exact ⟨rfl, by omega, by omega, zz_nmp_no (by omega) ⟨by omega, by omega, by omega, by omega, by omega, by omega⟩⟩)
  by_cases c28 : (bb).toInt = 106
  · refine lv_tableIn (off := 126) (tgt := 127) hx hb dX9_nameOf_1 (by omega) (by omega) (by rw [show ((bb).toInt - (100)).toNat = 6 from by omega]; rfl) (by decide) ?_
    skip
    refine lv_iconst (v := (-1)) hx hb dX9_nameOf_127 (by decide) ?_
    exact zz_iret hx hb hr hlocks hK hP hS dX9_nameOf_128 (by exact ⟨rfl, by omega, by omega, zz_nmp_no (by omega) ⟨by omega, by omega, by omega, by omega, by omega, by omega⟩⟩)
  have c29 : (bb).toInt = 108 := by omega
  refine lv_tableIn (off := 126) (tgt := 127) hx hb dX9_nameOf_1 (by omega) (by omega) (by rw [show ((bb).toInt - (100)).toNat = 8 from by omega]; rfl) (by decide) ?_
  skip
  refine lv_iconst (v := (-1)) hx hb dX9_nameOf_127 (by decide) ?_
  exact zz_iret hx hb hr hlocks hK hP hS dX9_nameOf_128 (by exact ⟨rfl, by omega, by omega, zz_nmp_no (by omega) ⟨by omega, by omega, by omega, by omega, by omega, by omega⟩⟩)
theorem dS29_1 (x0 : Nat) : ((x0) = x0 ∧ (11) = 11) ∨ (x0) = x0 + 7 ∨ (x0) = x0 + 8 := by omega
set_option maxHeartbeats 4000000 in
set_option maxRecDepth 100000 in
theorem c_X9_step (l : Launch) (E : zz_E) (σ : zz_S) (h0 : Nat) (wh : Int32) (v : Int32) (g0 : zz_M E h0) (hla : 0 ≤ (σ h0 11).toInt ∧ (σ h0 11).toInt ≤ 60) : Met l yX9_step wzX9_step ({ frames := 0, cells := 0, slots := 0, locals := 0 }) (va_Pc [.ref h0, .int wh, .int v] (zz_B E σ)) (va_Qv (fun σ1 => zz_ch (fun a k => (a = h0 ∧ k = 11) ∨ a = h0 + 7 ∨ a = h0 + 8) σ σ1 ∧ (zz_ST σ σ1 h0 wh v)) (zz_B E) (zz_A E)) 0 0 (zz_A E) := by
  refine zz_met (cc := cX9_step) (maxL := 3) (ret := none) (by decide) rfl (Nat.le_of_ble_eq_true rfl) ?_
  intro p e s m args below meth c ls hx hb hr hts hown hlocks hml hK hP hS hl
  have hl : lv_has ls 3 [(0, .ref h0), (1, .int wh), (2, .int v)] := hl
  have hown : s.vm.findClass RX9 = some m.cls := hown
  have hi9 : ∀ w ∈ wsX90, w ∈ wzX9_step := fun w h => List.mem_cons_of_mem _ (hbw9 w h)
  have k_1 : (1 : Int32).toInt = 1 := by decide +kernel
  have k_60 : (60 : Int32).toInt = 60 := by decide +kernel
  replace t0 : σ h0 11 = σ h0 11 := rfl
  have hC : zz_ch (fun a k => (a = h0 ∧ k = 11) ∨ a = h0 + 7 ∨ a = h0 + 8) σ σ := zz_ch.rf σ
  refine lv_aload_n hx hb dX9_step_0 rfl (lv_at hl 0 rfl) ?_
  refine zz_geti hx hb hts hi9 hown hK hP (g0.1) rfl 11 (by decide) (hts (.fieldLink RX9 120 "NoonLawModel" "laid" "I") (List.mem_cons_of_mem _ bm_511)) rfl rfl t0 dX9_step_1 ?_
  refine lv_aload_n hx hb dX9_step_4 rfl (lv_at hl 0 rfl) ?_
  refine zz_getr hx hb hts hi9 hown hK hP (g0.1) rfl 7 (by decide) (hts (.fieldLink RX9 28 "NoonLawModel" "act" "[I") (List.mem_cons_of_mem _ bm_99)) rfl rfl dX9_step_5 ?_
  refine zz_alen hx hb hK hP (g0.2.2.2.2.2.2.2.1) rfl (v := 60) (by decide) dX9_step_8 ?_
  refine lv_icmp_ge (tgt := 42) hx hb dX9_step_9 (by decide) (fun c1 => ?_) (fun c1 => ?_)
  · have c1 := zz_leT c1
    exact zz_vret hx hb hr hlocks hK hP hS dX9_step_42 (by exact ⟨hC, Or.inl ⟨by omega, fun _ _ => rfl⟩⟩)
  · have c1 := zz_nleT c1
    refine lv_aload_n hx hb dX9_step_12 rfl (lv_at hl 0 rfl) ?_
    refine zz_getr hx hb hts hi9 hown hK hP (g0.1) rfl 7 (by decide) (hts (.fieldLink RX9 28 "NoonLawModel" "act" "[I") (List.mem_cons_of_mem _ bm_99)) rfl rfl dX9_step_13 ?_
    refine lv_aload_n hx hb dX9_step_16 rfl (lv_at hl 0 rfl) ?_
    refine zz_geti hx hb hts hi9 hown hK hP (g0.1) rfl 11 (by decide) (hts (.fieldLink RX9 120 "NoonLawModel" "laid" "I") (List.mem_cons_of_mem _ bm_511)) rfl rfl t0 dX9_step_17 ?_
    refine lv_iload_n hx hb dX9_step_20 rfl (lv_at hl 1 rfl) ?_
    refine zz_iast hx hb hK hP hS (g0.2.2.2.2.2.2.2.1) (by omega) (by omega) dX9_step_21 (fun j2 σ2 H locs q2 r2 w2 hP1 hS1 => ?_)
    replace hP := hP1
    replace hS := hS1
    clear hP1 hS1
    replace hC := hC.u w2 (by first | (dsimp only; omega) | omega | (dsimp only; done))
    replace t0 : σ2 h0 11 = σ h0 11 := (zz_w (b := h0) (j := 11) w2 (fun q9 => zz_na (a := h0) (i := 0) (j := 7) (by decide) q9.1)).trans t0
    refine lv_aload_n hx hb dX9_step_22 rfl (lv_at hl 0 rfl) ?_
    refine zz_getr hx hb hts hi9 hown hK hP (g0.1) rfl 8 (by decide) (hts (.fieldLink RX9 31 "NoonLawModel" "with" "[I") (List.mem_cons_of_mem _ bm_100)) rfl rfl dX9_step_23 ?_
    refine lv_aload_n hx hb dX9_step_26 rfl (lv_at hl 0 rfl) ?_
    refine zz_geti hx hb hts hi9 hown hK hP (g0.1) rfl 11 (by decide) (hts (.fieldLink RX9 120 "NoonLawModel" "laid" "I") (List.mem_cons_of_mem _ bm_511)) rfl rfl t0 dX9_step_27 ?_
    refine lv_iload_n hx hb dX9_step_30 rfl (lv_at hl 2 rfl) ?_
    refine zz_iast hx hb hK hP hS (g0.2.2.2.2.2.2.2.2.1) (by omega) (by omega) dX9_step_31 (fun j3 σ3 H locs q3 r3 w3 hP1 hS1 => ?_)
    replace hP := hP1
    replace hS := hS1
    clear hP1 hS1
    replace hC := hC.u w3 (by first | (dsimp only; omega) | omega | (dsimp only; done))
    replace t0 : σ3 h0 11 = σ h0 11 := (zz_w (b := h0) (j := 11) w3 (fun q9 => zz_na (a := h0) (i := 0) (j := 8) (by decide) q9.1)).trans t0
    refine lv_aload_n hx hb dX9_step_32 rfl (lv_at hl 0 rfl) ?_
    refine lv_dup hx hb dX9_step_33 rfl ?_
    refine zz_geti hx hb hts hi9 hown hK hP (g0.1) rfl 11 (by decide) (hts (.fieldLink RX9 120 "NoonLawModel" "laid" "I") (List.mem_cons_of_mem _ bm_511)) rfl rfl t0 dX9_step_34 ?_
    refine lv_iconst (v := 1) hx hb dX9_step_37 (by decide) ?_
    refine lv_iadd hx hb dX9_step_38 ?_
    refine lv_topi (fun n4 e4 => ?_)
    have f4 : n4.toInt = (σ h0 11).toInt + (1 : Int32).toInt := zz_addT e4 (by omega) (by omega)
    refine zz_puti (v := n4) (ty := .int) hx hb hts hi9 tyX9 tyX9_ok nmX9 hown hK hP hS (g0.1) rfl 11 (by decide) (hts (.fieldLink RX9 120 "NoonLawModel" "laid" "I") (List.mem_cons_of_mem _ bm_511)) rfl rfl (by decide +kernel) rfl rfl rfl dX9_step_39 (fun σ5 H locs w5 hP1 hS1 => ?_)
    replace hP := hP1
    replace hS := hS1
    clear hP1 hS1
    replace hC := hC.u w5 (dS29_1 h0)
    replace t0 : σ5 h0 11 = n4 := zz_w1 w5
    exact zz_vret hx hb hr hlocks hK hP hS dX9_step_42 (by exact ⟨hC, Or.inr ⟨by omega, by rw [t0]; omega, by rw [show (σ h0 11).toInt.toNat = j2 from by omega, w5, zz_un (by omega), w3, zz_un (by omega), w2, zz_us], by rw [show (σ h0 11).toInt.toNat = j3 from by omega, w5, zz_un (by omega), w3, zz_us], fun k hk => by rw [w5, zz_un (by omega), w3, zz_un (by omega), w2, zz_un (by omega)], fun k hk => by rw [w5, zz_un (by omega), w3, zz_un (by omega), w2, zz_un (by omega)], fun k hk => by rw [w5, zz_un (by omega), w3, zz_un (by omega), w2, zz_un (by omega)], fun k => by rw [w5, zz_un (by omega), w3, zz_un (by omega), w2, zz_un (by omega)]⟩⟩)
theorem gX9_number_X9_look : GoodIn wzX9_number (wsV RX9 126 RX9 yX9_look wzX9_look) := wz_co bm_522 (wz_co bm_523 (wz_co bm_524 (wz_co bm_5 (wz_in bm_525))))
theorem gX9_number_X9_in : GoodIn wzX9_number (va_wsS RX9 47 yX9_in wzX9_in) := wz_co bm_143 (wz_co bm_144 (wz_co bm_5 (wz_in bm_145)))
theorem gX9_number_X9_step : GoodIn wzX9_number (wsV RX9 134 RX9 yX9_step wzX9_step) := wz_co bm_526 (wz_co bm_527 (wz_co bm_528 (wz_co bm_5 (wz_in bm_529))))
theorem dS29_2 (x0 : Nat) : ((x0) = x0 ∧ 11 ≤ (14) ∧ (14) ≤ 14) ∨ (x0) = x0 + 7 ∨ (x0) = x0 + 8 := by omega
theorem dS29_3 (x0 : Nat) : ∀ a k : Nat, ((a = (x0) ∧ k = 11) ∨ a = (x0) + 7 ∨ a = (x0) + 8) → ((a = x0 ∧ 11 ≤ k ∧ k ≤ 14) ∨ a = x0 + 7 ∨ a = x0 + 8) := by intro a k h; omega
theorem dS29_4 (x0 : Nat) : ¬ (((x0) = (x0) ∧ (12) = 11) ∨ (x0) = (x0) + 7 ∨ (x0) = (x0) + 8) := by omega
theorem dS29_5 (x0 : Nat) : ((x0) = x0 ∧ 11 ≤ (12) ∧ (12) ≤ 14) ∨ (x0) = x0 + 7 ∨ (x0) = x0 + 8 := by omega
set_option maxHeartbeats 4000000 in
set_option maxRecDepth 100000 in
theorem c_X9_number (l : Launch) (E : zz_E) (σ : zz_S) (h0 : Nat) (g0 : zz_M E h0) (hPG : zz_PG σ h0) (T : Int → Int) (hT : zz_hM σ h0 T) : Met l yX9_number wzX9_number ({ frames := 1, cells := 0, slots := 0, locals := 22 }) (va_Pc [.ref h0] (zz_B E σ)) (va_Qv (fun σ1 => zz_ch (fun a k => (a = h0 ∧ 11 ≤ k ∧ k ≤ 14) ∨ a = h0 + 7 ∨ a = h0 + 8) σ σ1 ∧ (zz_PP σ σ1 h0 ∧ zz_q9 σ σ1 h0 (zz_nr T (σ h0 12).toInt))) (zz_B E) (zz_A E)) 0 0 (zz_A E) := by
  refine zz_met (cc := cX9_number) (maxL := 3) (ret := none) (by decide) rfl (Nat.le_of_ble_eq_true rfl) ?_
  intro p e s m args below meth c ls hx hb hr hts hown hlocks hml hK hP hS hl
  have hl : lv_has ls 3 [(0, .ref h0)] := hl
  have hown : s.vm.findClass RX9 = some m.cls := hown
  have hi9 : ∀ w ∈ wsX90, w ∈ wzX9_number := fun w h => List.mem_cons_of_mem _ (hbw9 w h)
  have k_0 : (0 : Int32).toInt = 0 := by decide +kernel
  have k_1 : (1 : Int32).toInt = 1 := by decide +kernel
  have k_4 : (4 : Int32).toInt = 4 := by decide +kernel
  have k_10 : (10 : Int32).toInt = 10 := by decide +kernel
  have k_48 : (48 : Int32).toInt = 48 := by decide +kernel
  have k_57 : (57 : Int32).toInt = 57 := by decide +kernel
  replace t0 : σ h0 12 = σ h0 12 := rfl
  have hC : zz_ch (fun a k => (a = h0 ∧ 11 ≤ k ∧ k ≤ 14) ∨ a = h0 + 7 ∨ a = h0 + 8) σ σ := zz_ch.rf σ
  have hgn := hPG.nums
  refine lv_iconst (v := 0) hx hb dX9_number_0 (by decide) ?_
  refine lv_istore_n (lv' := [(1, .int 0), (0, .ref h0)]) hx hb dX9_number_1 rfl hl (by decide) rfl (fun ls hl => ?_)
  refine lv_iconst (v := 0) hx hb dX9_number_2 (by decide) ?_
  refine lv_istore_n (lv' := [(2, .int 0), (1, .int 0), (0, .ref h0)]) hx hb dX9_number_3 rfl hl (by decide) rfl (fun ls hl => ?_)
  have J4 : ∀ (n : Nat) (vv : Int32) (nn : Int32) (hv : Int32) (σa : zz_S) (H : Heap) (locs : List Loc) (ls : Array Slot), ((4 - nn.toInt).toNat) < n → (zz_ch (fun a k => (a = h0 ∧ 11 ≤ k ∧ k ≤ 14) ∨ a = h0 + 7 ∨ a = h0 + 8) σ σa) → (0 ≤ nn.toInt ∧ nn.toInt ≤ 4) → (hv.toInt = (σ h0 12).toInt + nn.toInt ∧ hv.toInt ≤ (σ (h0 + 1) 5).toInt) → (∀ a k : Nat, ¬ (a = h0 ∧ k = 12) → σa a k = σ a k) → (0 ≤ vv.toInt ∧ (nn.toInt ≤ 0 → vv.toInt ≤ 0) ∧ (nn.toInt ≤ 1 → vv.toInt ≤ 9) ∧ (nn.toInt ≤ 2 → vv.toInt ≤ 99) ∧ (nn.toInt ≤ 3 → vv.toInt ≤ 999) ∧ vv.toInt ≤ 9999) → (zz_n9 T (4 - nn.toInt).toNat σa h0 (σ h0 12).toInt vv.toInt) → (1 ≤ nn.toInt → 48 ≤ T (σ h0 12).toInt ∧ T (σ h0 12).toInt ≤ 57) → (σa h0 12 = hv) → zz_P E σa H → va_S (zz_A E) s.heap H locs → lv_has ls 3 [(2, .int nn), (1, .int vv), (0, .ref h0)] → W p l e (headSpec wzX9_number ({ frames := 1, cells := 0, slots := 0, locals := 22 })).room s m args below meth c H locs 0 0 (MQ below (va_Qv (fun σ1 => zz_ch (fun a k => (a = h0 ∧ 11 ≤ k ∧ k ≤ 14) ∨ a = h0 + 7 ∨ a = h0 + 8) σ σ1 ∧ (zz_PP σ σ1 h0 ∧ zz_q9 σ σ1 h0 (zz_nr T (σ h0 12).toInt))) (zz_B E) (zz_A E)) args s 0 0 (zz_A E)) (F0 m 4 ls []) := by
    intro n
    induction n with
    | zero => intro vv nn hv σa H locs ls hm; exact absurd hm (Nat.not_lt_zero _)
    | succ n ih4 =>
      intro vv nn hv σa H locs ls hm hC f4_0 f4_1 f4_2 f4_3 f4_4 f4_5 t0 hP hS hl
      have hr5 := congrArg Int32.toInt (f4_2 (h0 + 1) 5 (by omega))
      have h12 := congrArg Int32.toInt t0
      have h11 := congrArg Int32.toInt (f4_2 h0 11 (by omega))
      refine lv_iload_n hx hb dX9_number_4 rfl (lv_at hl 0 rfl) ?_
      refine lv_iconst (v := 4) hx hb dX9_number_5 (by decide) ?_
      refine lv_icmp_ge (tgt := 52) hx hb dX9_number_6 (by decide) (fun c1 => ?_) (fun c1 => ?_)
      · have c1 := zz_leT c1
        refine lv_aload_n hx hb dX9_number_52 rfl (lv_at hl 2 rfl) ?_
        refine lv_iload_n hx hb dX9_number_53 rfl (lv_at hl 0 rfl) ?_
        refine lv_if_ne (tgt := 61) hx hb dX9_number_54 (by decide) (fun c2 => ?_) (fun c2 => ?_)
        · have c2 := zz_neT c2
          refine lv_iconst (v := 0) hx hb dX9_number_61 (by decide) ?_
          refine zz_puti (v := 0) (ty := .boolean) hx hb hts hi9 tyX9 tyX9_ok nmX9 hown hK hP hS (g0.1) rfl 14 (by decide) (hts (.fieldLink RX9 130 "NoonLawModel" "bad" "Z") (List.mem_cons_of_mem _ bm_514)) rfl rfl (by decide +kernel) (zz_nz (by omega)) (zz_fz (by omega)) rfl dX9_number_62 (fun σ3 H locs w3 hP1 hS1 => ?_)
          replace hP := hP1
          replace hS := hS1
          clear hP1 hS1
          replace hC := hC.u w3 (dS29_2 h0)
          replace t0 : σ3 h0 12 = hv := (zz_w (b := h0) (j := 12) w3 (fun q9 => absurd q9.2 (by decide))).trans t0
          refine lv_aload_n hx hb dX9_number_65 rfl (lv_at hl 2 rfl) ?_
          refine lv_iconst (v := 1) hx hb dX9_number_66 (by decide) ?_
          refine lv_iload_n hx hb dX9_number_67 rfl (lv_at hl 1 rfl) ?_
          refine zz_callVv (As := [.int 1, .int vv]) (rest := []) ⟨hx, hb, hml, hown, hts⟩ hK hP hS (c_X9_step l E σ3 h0 1 vv g0 (by rw [w3, zz_un (by omega)]; omega)) (cwV 2 hts gX9_number_X9_step rfl rfl rfl (by decide +kernel) ⟨Nat.le_of_ble_eq_true rfl, Nat.le_of_ble_eq_true rfl⟩) (g0.1) rfl rfl hl.1 rfl (Nat.le_of_ble_eq_true rfl) dX9_number_68 ⟨Nat.zero_le _, Nat.zero_le _⟩ (fun σ4 H locs q4 hP1 hS1 => ?_)
          replace hP := hP1
          replace hS := hS1
          clear hP1 hS1
          try dsimp only at q4
          obtain ⟨w4, f4⟩ := q4
          replace hC := hC.tr (w4.mono (dS29_3 h0))
          try simp only [t0] at f4
          replace t0 : σ4 h0 12 = hv := (w4 h0 12 (dS29_4 h0)).trans t0
          exact zz_vret hx hb hr hlocks hK hP hS dX9_number_71 (by exact ⟨hC, zz_PP.num nn.toInt hPG f4_2 (by omega) (by omega) (by omega) w3 (by omega) f4 k_1, zz_q9.num (m := nn.toInt) f4_4 (Or.inl (by omega)) (fun z => by omega) f4_5 (by omega) (by omega) f4_2 w3 (by omega) (by omega) f4 k_1 rfl⟩)
        · have c2 := zz_eqT c2
          refine lv_iconst (v := 1) hx hb dX9_number_57 (by decide) ?_
          refine lv_goto (tgt := 62) hx hb dX9_number_58 (by decide) ?_
          refine zz_puti (v := 1) (ty := .boolean) hx hb hts hi9 tyX9 tyX9_ok nmX9 hown hK hP hS (g0.1) rfl 14 (by decide) (hts (.fieldLink RX9 130 "NoonLawModel" "bad" "Z") (List.mem_cons_of_mem _ bm_514)) rfl rfl (by decide +kernel) (zz_nz (by omega)) (zz_fz (by omega)) rfl dX9_number_62 (fun σ5 H locs w5 hP1 hS1 => ?_)
          replace hP := hP1
          replace hS := hS1
          clear hP1 hS1
          replace hC := hC.u w5 (dS29_2 h0)
          replace t0 : σ5 h0 12 = hv := (zz_w (b := h0) (j := 12) w5 (fun q9 => absurd q9.2 (by decide))).trans t0
          refine lv_aload_n hx hb dX9_number_65 rfl (lv_at hl 2 rfl) ?_
          refine lv_iconst (v := 1) hx hb dX9_number_66 (by decide) ?_
          refine lv_iload_n hx hb dX9_number_67 rfl (lv_at hl 1 rfl) ?_
          refine zz_callVv (As := [.int 1, .int vv]) (rest := []) ⟨hx, hb, hml, hown, hts⟩ hK hP hS (c_X9_step l E σ5 h0 1 vv g0 (by rw [w5, zz_un (by omega)]; omega)) (cwV 2 hts gX9_number_X9_step rfl rfl rfl (by decide +kernel) ⟨Nat.le_of_ble_eq_true rfl, Nat.le_of_ble_eq_true rfl⟩) (g0.1) rfl rfl hl.1 rfl (Nat.le_of_ble_eq_true rfl) dX9_number_68 ⟨Nat.zero_le _, Nat.zero_le _⟩ (fun σ6 H locs q6 hP1 hS1 => ?_)
          replace hP := hP1
          replace hS := hS1
          clear hP1 hS1
          try dsimp only at q6
          obtain ⟨w6, f6⟩ := q6
          replace hC := hC.tr (w6.mono (dS29_3 h0))
          try simp only [t0] at f6
          replace t0 : σ6 h0 12 = hv := (w6 h0 12 (dS29_4 h0)).trans t0
          exact zz_vret hx hb hr hlocks hK hP hS dX9_number_71 (by exact ⟨hC, zz_PP.num nn.toInt hPG f4_2 (by omega) (by omega) (by omega) w5 (by omega) f6 k_1, zz_q9.num (m := nn.toInt) f4_4 (Or.inl (by omega)) (fun z => by omega) f4_5 (by omega) (by omega) f4_2 w5 (by omega) (by omega) f6 k_1 rfl⟩)
      · have c1 := zz_nleT c1
        refine lv_aload_n hx hb dX9_number_9 rfl (lv_at hl 2 rfl) ?_
        refine zz_callVp (As := []) (rest := []) ⟨hx, hb, hml, hown, hts⟩ hK hP hS (c_X9_look l E σa h0 g0 (by omega)) (cwV 0 hts gX9_number_X9_look rfl rfl rfl (by decide +kernel) ⟨Nat.le_of_ble_eq_true rfl, Nat.le_of_ble_eq_true rfl⟩) (g0.1) rfl rfl hl.1 rfl (Nat.le_of_ble_eq_true rfl) dX9_number_10 ⟨Nat.zero_le _, Nat.zero_le _⟩ (fun r7 H locs f7 hP1 hS1 => ?_)
        replace hP := hP1
        replace hS := hS1
        clear hP1 hS1
        try simp only [t0] at f7
        have hk1 := zz_look_T f7.1 (hT.keep (fun k => f4_2 _ _ (by omega))) (by omega)
        refine lv_bipush (v := 48) hx hb dX9_number_13 (by decide) ?_
        refine lv_bipush (v := 57) hx hb dX9_number_15 (by decide) ?_
        refine zz_callSp (As := [.int r7, .int 48, .int 57]) (rest := []) ⟨hx, hb, hml, hown, hts⟩ hK hP hS (c_X9_in l E σa r7 48 57) (va_cwS 3 hts gX9_number_X9_in rfl rfl rfl (by decide +kernel) ⟨Nat.le_of_ble_eq_true rfl, Nat.le_of_ble_eq_true rfl⟩) rfl hl.1 rfl (Nat.le_of_ble_eq_true rfl) dX9_number_17 ⟨Nat.zero_le _, Nat.zero_le _⟩ (fun r8 H locs f8 hP1 hS1 => ?_)
        replace hP := hP1
        replace hS := hS1
        clear hP1 hS1
        try simp only [t0] at f8
        refine lv_if_eq (tgt := 52) hx hb dX9_number_20 (by decide) (fun c9 => ?_) (fun c9 => ?_)
        · have c9 := zz_eqT c9
          refine lv_aload_n hx hb dX9_number_52 rfl (lv_at hl 2 rfl) ?_
          refine lv_iload_n hx hb dX9_number_53 rfl (lv_at hl 0 rfl) ?_
          refine lv_if_ne (tgt := 61) hx hb dX9_number_54 (by decide) (fun c10 => ?_) (fun c10 => ?_)
          · have c10 := zz_neT c10
            refine lv_iconst (v := 0) hx hb dX9_number_61 (by decide) ?_
            refine zz_puti (v := 0) (ty := .boolean) hx hb hts hi9 tyX9 tyX9_ok nmX9 hown hK hP hS (g0.1) rfl 14 (by decide) (hts (.fieldLink RX9 130 "NoonLawModel" "bad" "Z") (List.mem_cons_of_mem _ bm_514)) rfl rfl (by decide +kernel) (zz_nz (by omega)) (zz_fz (by omega)) rfl dX9_number_62 (fun σ11 H locs w11 hP1 hS1 => ?_)
            replace hP := hP1
            replace hS := hS1
            clear hP1 hS1
            replace hC := hC.u w11 (dS29_2 h0)
            replace t0 : σ11 h0 12 = hv := (zz_w (b := h0) (j := 12) w11 (fun q9 => absurd q9.2 (by decide))).trans t0
            refine lv_aload_n hx hb dX9_number_65 rfl (lv_at hl 2 rfl) ?_
            refine lv_iconst (v := 1) hx hb dX9_number_66 (by decide) ?_
            refine lv_iload_n hx hb dX9_number_67 rfl (lv_at hl 1 rfl) ?_
            refine zz_callVv (As := [.int 1, .int vv]) (rest := []) ⟨hx, hb, hml, hown, hts⟩ hK hP hS (c_X9_step l E σ11 h0 1 vv g0 (by rw [w11, zz_un (by omega)]; omega)) (cwV 2 hts gX9_number_X9_step rfl rfl rfl (by decide +kernel) ⟨Nat.le_of_ble_eq_true rfl, Nat.le_of_ble_eq_true rfl⟩) (g0.1) rfl rfl hl.1 rfl (Nat.le_of_ble_eq_true rfl) dX9_number_68 ⟨Nat.zero_le _, Nat.zero_le _⟩ (fun σ12 H locs q12 hP1 hS1 => ?_)
            replace hP := hP1
            replace hS := hS1
            clear hP1 hS1
            try dsimp only at q12
            obtain ⟨w12, f12⟩ := q12
            replace hC := hC.tr (w12.mono (dS29_3 h0))
            try simp only [t0] at f12
            replace t0 : σ12 h0 12 = hv := (w12 h0 12 (dS29_4 h0)).trans t0
            exact zz_vret hx hb hr hlocks hK hP hS dX9_number_71 (by exact ⟨hC, zz_PP.num nn.toInt hPG f4_2 (by omega) (by omega) (by omega) w11 (by omega) f12 k_1, zz_q9.num (m := nn.toInt) f4_4 (Or.inr (by omega)) (fun z => by omega) f4_5 (by omega) (by omega) f4_2 w11 (by omega) (by omega) f12 k_1 rfl⟩)
          · have c10 := zz_eqT c10
            refine lv_iconst (v := 1) hx hb dX9_number_57 (by decide) ?_
            refine lv_goto (tgt := 62) hx hb dX9_number_58 (by decide) ?_
            refine zz_puti (v := 1) (ty := .boolean) hx hb hts hi9 tyX9 tyX9_ok nmX9 hown hK hP hS (g0.1) rfl 14 (by decide) (hts (.fieldLink RX9 130 "NoonLawModel" "bad" "Z") (List.mem_cons_of_mem _ bm_514)) rfl rfl (by decide +kernel) (zz_nz (by omega)) (zz_fz (by omega)) rfl dX9_number_62 (fun σ13 H locs w13 hP1 hS1 => ?_)
            replace hP := hP1
            replace hS := hS1
            clear hP1 hS1
            replace hC := hC.u w13 (dS29_2 h0)
            replace t0 : σ13 h0 12 = hv := (zz_w (b := h0) (j := 12) w13 (fun q9 => absurd q9.2 (by decide))).trans t0
            refine lv_aload_n hx hb dX9_number_65 rfl (lv_at hl 2 rfl) ?_
            refine lv_iconst (v := 1) hx hb dX9_number_66 (by decide) ?_
            refine lv_iload_n hx hb dX9_number_67 rfl (lv_at hl 1 rfl) ?_
            refine zz_callVv (As := [.int 1, .int vv]) (rest := []) ⟨hx, hb, hml, hown, hts⟩ hK hP hS (c_X9_step l E σ13 h0 1 vv g0 (by rw [w13, zz_un (by omega)]; omega)) (cwV 2 hts gX9_number_X9_step rfl rfl rfl (by decide +kernel) ⟨Nat.le_of_ble_eq_true rfl, Nat.le_of_ble_eq_true rfl⟩) (g0.1) rfl rfl hl.1 rfl (Nat.le_of_ble_eq_true rfl) dX9_number_68 ⟨Nat.zero_le _, Nat.zero_le _⟩ (fun σ14 H locs q14 hP1 hS1 => ?_)
            replace hP := hP1
            replace hS := hS1
            clear hP1 hS1
            try dsimp only at q14
            obtain ⟨w14, f14⟩ := q14
            replace hC := hC.tr (w14.mono (dS29_3 h0))
            try simp only [t0] at f14
            replace t0 : σ14 h0 12 = hv := (w14 h0 12 (dS29_4 h0)).trans t0
            exact zz_vret hx hb hr hlocks hK hP hS dX9_number_71 (by exact ⟨hC, zz_PP.num nn.toInt hPG f4_2 (by omega) (by omega) (by omega) w13 (by omega) f14 k_1, zz_q9.num (m := nn.toInt) f4_4 (Or.inr (by omega)) (fun z => by omega) f4_5 (by omega) (by omega) f4_2 w13 (by omega) (by omega) f14 k_1 rfl⟩)
        · have c9 := zz_neT c9
          refine lv_bipush (v := 10) hx hb dX9_number_23 (by decide) ?_
          refine lv_iload_n hx hb dX9_number_25 rfl (lv_at hl 1 rfl) ?_
          refine lv_imul hx hb dX9_number_26 ?_
          refine lv_topi (fun n15 e15 => ?_)
          have f15 : n15.toInt = 10 * (vv).toInt := zz_mulL 10 e15 (by decide) (by omega) (by omega)
          refine lv_aload_n hx hb dX9_number_27 rfl (lv_at hl 2 rfl) ?_
          refine zz_callVp (As := []) (rest := [.int n15]) ⟨hx, hb, hml, hown, hts⟩ hK hP hS (c_X9_look l E σa h0 g0 (by omega)) (cwV 0 hts gX9_number_X9_look rfl rfl rfl (by decide +kernel) ⟨Nat.le_of_ble_eq_true rfl, Nat.le_of_ble_eq_true rfl⟩) (g0.1) rfl rfl hl.1 rfl (Nat.le_of_ble_eq_true rfl) dX9_number_28 ⟨Nat.zero_le _, Nat.zero_le _⟩ (fun r16 H locs f16 hP1 hS1 => ?_)
          replace hP := hP1
          replace hS := hS1
          clear hP1 hS1
          try simp only [t0] at f16
          have hk2 := zz_look_T f16.1 (hT.keep (fun k => f4_2 _ _ (by omega))) (by omega)
          refine lv_iadd hx hb dX9_number_31 ?_
          refine lv_topi (fun n17 e17 => ?_)
          have f17 : n17.toInt = (n15).toInt + (r16).toInt := zz_addT e17 (by omega) (by omega)
          refine lv_bipush (v := 48) hx hb dX9_number_32 (by decide) ?_
          refine lv_isub hx hb dX9_number_34 ?_
          refine lv_topi (fun n18 e18 => ?_)
          have f18 : n18.toInt = (n17).toInt - (48 : Int32).toInt := zz_subT e18 (by omega) (by omega)
          refine lv_istore_n (lv' := [(1, .int n18), (2, .int nn), (0, .ref h0)]) hx hb dX9_number_35 rfl hl (by decide) rfl (fun ls hl => ?_)
          refine lv_aload_n hx hb dX9_number_36 rfl (lv_at hl 2 rfl) ?_
          refine lv_dup hx hb dX9_number_37 rfl ?_
          refine zz_geti hx hb hts hi9 hown hK hP (g0.1) rfl 12 (by decide) (hts (.fieldLink RX9 116 "NoonLawModel" "here" "I") (List.mem_cons_of_mem _ bm_512)) rfl rfl t0 dX9_number_38 ?_
          refine lv_iconst (v := 1) hx hb dX9_number_41 (by decide) ?_
          refine lv_iadd hx hb dX9_number_42 ?_
          refine lv_topi (fun n19 e19 => ?_)
          have f19 : n19.toInt = (hv).toInt + (1 : Int32).toInt := zz_addT e19 (by omega) (by omega)
          refine zz_puti (v := n19) (ty := .int) hx hb hts hi9 tyX9 tyX9_ok nmX9 hown hK hP hS (g0.1) rfl 12 (by decide) (hts (.fieldLink RX9 116 "NoonLawModel" "here" "I") (List.mem_cons_of_mem _ bm_512)) rfl rfl (by decide +kernel) rfl rfl rfl dX9_number_43 (fun σ20 H locs w20 hP1 hS1 => ?_)
          replace hP := hP1
          replace hS := hS1
          clear hP1 hS1
          replace hC := hC.u w20 (dS29_5 h0)
          replace t0 : σ20 h0 12 = n19 := zz_w1 w20
          obtain ⟨n21, e21⟩ : ∃ y : Int32, y = nn + 1 := ⟨_, rfl⟩
          have f21 : n21.toInt = (nn).toInt + (1) := by have h9 := zz_addT e21 (by omega) (by omega); omega
          refine lv_iinc (v := n21) (lv' := [(2, .int n21), (1, .int n18), (0, .ref h0)]) hx hb dX9_number_46 hl (k := 1) rfl (by rw [e21]; rfl) (by decide) rfl (fun ls hl => ?_)
          refine lv_goto (tgt := 4) hx hb dX9_number_49 (by decide) ?_
          exact ih4 n18 n21 n19 σ20 _ _ _ (by omega) hC (by omega) (by omega) (by intro a k hk; rw [w20, zz_un hk]; exact f4_2 a k hk) (by omega) (by exact zz_n9.go f4_4 (by omega) (by omega) (by rw [zz_uT w20]; omega) (by omega)) (by exact zz_n9.dig (q := (σa h0 12).toInt) f4_5 (by omega) ⟨by omega, by omega⟩ (by omega)) t0 hP hS (lv_sub hl [0, 1, 2] rfl)
  exact J4 _ 0 0 (σ h0 12) σ _ _ _ (Nat.lt_succ_self _) hC (by omega) (by omega) (by intro a k _; rfl) (by omega) (by exact zz_n9.rf (by omega) (by omega)) (by intro q; exact absurd q (by omega)) t0 hP hS (lv_sub hl [0, 1, 2] rfl)
theorem gX9_opens_X9_one : GoodIn wzX9_opens (wsV RX9 141 RX9 yX9_one wzX9_one) := wz_co bm_551 (wz_co bm_552 (wz_co bm_553 (wz_co bm_5 (wz_in bm_538))))
theorem gX9_opens_X9_step : GoodIn wzX9_opens (wsV RX9 134 RX9 yX9_step wzX9_step) := wz_co bm_526 (wz_co bm_527 (wz_co bm_528 (wz_co bm_5 (wz_in bm_529))))
theorem gX9_opens_X9_any : GoodIn wzX9_opens (wsV RX9 144 RX9 yX9_any wzX9_any) := wz_co bm_515 (wz_co bm_516 (wz_co bm_517 (wz_co bm_5 (wz_in bm_518))))
theorem gX9_opens_X9_look : GoodIn wzX9_opens (wsV RX9 126 RX9 yX9_look wzX9_look) := wz_co bm_522 (wz_co bm_523 (wz_co bm_524 (wz_co bm_5 (wz_in bm_525))))
theorem dS29_6 (x0 : Nat) : ((x0) = x0 ∧ 11 ≤ (13) ∧ (13) ≤ 14) ∨ (x0) = x0 + 7 ∨ (x0) = x0 + 8 := by omega
theorem dS29_7 (x0 : Nat) : ∀ a k : Nat, ((a = (x0) ∧ 11 ≤ k ∧ k ≤ 14) ∨ a = (x0) + 7 ∨ a = (x0) + 8) → ((a = x0 ∧ 11 ≤ k ∧ k ≤ 14) ∨ a = x0 + 7 ∨ a = x0 + 8) := by intro a k h; omega
theorem dS29_8 (x0 : Nat) : ¬ (((x0) = (x0) ∧ (13) = 11) ∨ (x0) = (x0) + 7 ∨ (x0) = (x0) + 8) := by omega
set_option maxHeartbeats 4000000 in
set_option maxRecDepth 100000 in
theorem g_X9_opens (l : Launch) (E : zz_E) (rk : Nat) (T : Int → Int) (us : Int) (v : Int) (h05 : 0 ≤ v ∧ v ≤ 5) (H1 : v < 5 → ∃ nc : Nat, nc < rk ∧ k_X9_one l E nc T us (v + 1)) (HA : v < 5 → ∃ nc : Nat, nc < rk ∧ k_X9_any l E nc T us (v + 1)) : k_X9_opens l E rk T us v := by
  intro σ h0 sg g0 hPG hT hus hu1 ho hlt hsg hTs
  refine zz_met (cc := cX9_opens) (maxL := 2) (ret := none) (by decide) rfl (Nat.le_of_ble_eq_true rfl) ?_
  intro p e s m args below meth c ls hx hb hr hts hown hlocks hml hK hP hS hl
  have hl : lv_has ls 2 [(0, .ref h0), (1, .int sg)] := hl
  have hown : s.vm.findClass RX9 = some m.cls := hown
  have hi9 : ∀ w ∈ wsX90, w ∈ wzX9_opens := fun w h => List.mem_cons_of_mem _ (hbw9 w h)
  have k_0 : (0 : Int32).toInt = 0 := by decide +kernel
  have k_1 : (1 : Int32).toInt = 1 := by decide +kernel
  have k_3 : (3 : Int32).toInt = 3 := by decide +kernel
  have k_5 : (5 : Int32).toInt = 5 := by decide +kernel
  have k_33 : (33 : Int32).toInt = 33 := by decide +kernel
  have k_41 : (41 : Int32).toInt = 41 := by decide +kernel
  replace t0 : σ h0 12 = σ h0 12 := rfl
  replace t1 : σ h0 13 = σ h0 13 := rfl
  have hC : zz_ch (fun a k => (a = h0 ∧ 11 ≤ k ∧ k ≤ 14) ∨ a = h0 + 7 ∨ a = h0 + 8) σ σ := zz_ch.rf σ
  have hgn := hPG.nums
  refine lv_aload_n hx hb dX9_opens_0 rfl (lv_at hl 0 rfl) ?_
  refine zz_geti hx hb hts hi9 hown hK hP (g0.1) rfl 13 (by decide) (hts (.fieldLink RX9 138 "NoonLawModel" "opened" "I") (List.mem_cons_of_mem _ bm_513)) rfl rfl t1 dX9_opens_1 ?_
  refine lv_iconst (v := 5) hx hb dX9_opens_4 (by decide) ?_
  refine lv_icmp_ne (tgt := 14) hx hb dX9_opens_5 (by decide) (fun c1 => ?_) (fun c1 => ?_)
  · have c1 := zz_neT c1
    refine lv_aload_n hx hb dX9_opens_14 rfl (lv_at hl 0 rfl) ?_
    refine lv_dup hx hb dX9_opens_15 rfl ?_
    refine zz_geti hx hb hts hi9 hown hK hP (g0.1) rfl 13 (by decide) (hts (.fieldLink RX9 138 "NoonLawModel" "opened" "I") (List.mem_cons_of_mem _ bm_513)) rfl rfl t1 dX9_opens_16 ?_
    refine lv_iconst (v := 1) hx hb dX9_opens_19 (by decide) ?_
    refine lv_iadd hx hb dX9_opens_20 ?_
    refine lv_topi (fun n2 e2 => ?_)
    have f2 : n2.toInt = (σ h0 13).toInt + (1 : Int32).toInt := zz_addT e2 (by omega) (by omega)
    refine zz_puti (v := n2) (ty := .int) hx hb hts hi9 tyX9 tyX9_ok nmX9 hown hK hP hS (g0.1) rfl 13 (by decide) (hts (.fieldLink RX9 138 "NoonLawModel" "opened" "I") (List.mem_cons_of_mem _ bm_513)) rfl rfl (by decide +kernel) rfl rfl rfl dX9_opens_21 (fun σ3 H locs w3 hP1 hS1 => ?_)
    replace hP := hP1
    replace hS := hS1
    clear hP1 hS1
    replace hC := hC.u w3 (dS29_6 h0)
    replace t0 : σ3 h0 12 = σ h0 12 := (zz_w (b := h0) (j := 12) w3 (fun q9 => absurd q9.2 (by decide))).trans t0
    replace t1 : σ3 h0 13 = n2 := zz_w1 w3
    refine lv_aload_n hx hb dX9_opens_24 rfl (lv_at hl 0 rfl) ?_
    refine lv_dup hx hb dX9_opens_25 rfl ?_
    refine zz_geti hx hb hts hi9 hown hK hP (g0.1) rfl 12 (by decide) (hts (.fieldLink RX9 116 "NoonLawModel" "here" "I") (List.mem_cons_of_mem _ bm_512)) rfl rfl t0 dX9_opens_26 ?_
    refine lv_iconst (v := 1) hx hb dX9_opens_29 (by decide) ?_
    refine lv_iadd hx hb dX9_opens_30 ?_
    refine lv_topi (fun n4 e4 => ?_)
    have f4 : n4.toInt = (σ h0 12).toInt + (1 : Int32).toInt := zz_addT e4 (by omega) (by omega)
    refine zz_puti (v := n4) (ty := .int) hx hb hts hi9 tyX9 tyX9_ok nmX9 hown hK hP hS (g0.1) rfl 12 (by decide) (hts (.fieldLink RX9 116 "NoonLawModel" "here" "I") (List.mem_cons_of_mem _ bm_512)) rfl rfl (by decide +kernel) rfl rfl rfl dX9_opens_31 (fun σ5 H locs w5 hP1 hS1 => ?_)
    replace hP := hP1
    replace hS := hS1
    clear hP1 hS1
    replace hC := hC.u w5 (dS29_5 h0)
    replace t0 : σ5 h0 12 = n4 := zz_w1 w5
    replace t1 : σ5 h0 13 = n2 := (zz_w (b := h0) (j := 13) w5 (fun q9 => absurd q9.2 (by decide))).trans t1
    refine lv_iload_n hx hb dX9_opens_34 rfl (lv_at hl 1 rfl) ?_
    refine lv_bipush (v := 33) hx hb dX9_opens_35 (by decide) ?_
    refine lv_icmp_ne (tgt := 53) hx hb dX9_opens_37 (by decide) (fun c6 => ?_) (fun c6 => ?_)
    · have c6 := zz_neT c6
      obtain ⟨hG2, hq7, hq11, hq12, hq13, hq5⟩ := hPG.opn hlt w3 w5 (by omega)
      have hy12 := congrArg Int32.toInt hq12
      have hy13 := congrArg Int32.toInt hq13
      have hy5 := congrArg Int32.toInt hq5
      refine lv_aload_n hx hb dX9_opens_53 rfl (lv_at hl 0 rfl) ?_
      obtain ⟨nc7, hc7, C7⟩ := HA (by first | trivial | omega)
      refine zz_callVv (As := []) (rest := []) ⟨hx, hb, hml, hown, hts⟩ hK hP hS (C7 σ5 h0 g0 (by exact hG2) (by exact (hT.keep (fun k => hC _ _ (by first | (dsimp only; omega) | omega)))) (by rw [hC _ _ (by first | (dsimp only; omega) | omega)]; exact hus) (by exact hu1) (by omega)) (cwV 0 hts gX9_opens_X9_any rfl rfl rfl (by decide +kernel) ⟨by show 10 + nc7 + 1 ≤ 10 + rk; omega, by show 8 + (1 + 11) + (300 + 60 * nc7) ≤ 300 + 60 * rk; omega⟩) (g0.1) rfl rfl hl.1 rfl (Nat.le_of_ble_eq_true rfl) dX9_opens_54 ⟨Nat.zero_le _, Nat.zero_le _⟩ (fun σ7 H locs q7 hP1 hS1 => ?_)
      replace hP := hP1
      replace hS := hS1
      clear hP1 hS1
      try dsimp only at q7
      obtain ⟨w7, f7⟩ := q7
      replace hC := hC.tr (w7.mono (dS29_7 h0))
      replace t0 : σ7 h0 12 = σ7 h0 12 := rfl
      replace t1 : σ7 h0 13 = σ7 h0 13 := rfl
      have hn3 := f7.1.nums
      refine lv_aload_n hx hb dX9_opens_57 rfl (lv_at hl 0 rfl) ?_
      refine lv_aload_n hx hb dX9_opens_58 rfl (lv_at hl 0 rfl) ?_
      refine zz_geti hx hb hts hi9 hown hK hP (g0.1) rfl 14 (by decide) (hts (.fieldLink RX9 130 "NoonLawModel" "bad" "Z") (List.mem_cons_of_mem _ bm_514)) rfl rfl rfl dX9_opens_59 ?_
      refine lv_if_ne (tgt := 74) hx hb dX9_opens_62 (by decide) (fun c8 => ?_) (fun c8 => ?_)
      · have c8 := zz_neT c8
        refine lv_iconst (v := 1) hx hb dX9_opens_74 (by decide) ?_
        refine lv_goto (tgt := 79) hx hb dX9_opens_75 (by decide) ?_
        refine zz_puti (v := 1) (ty := .boolean) hx hb hts hi9 tyX9 tyX9_ok nmX9 hown hK hP hS (g0.1) rfl 14 (by decide) (hts (.fieldLink RX9 130 "NoonLawModel" "bad" "Z") (List.mem_cons_of_mem _ bm_514)) rfl rfl (by decide +kernel) (zz_nz (by omega)) (zz_fz (by omega)) rfl dX9_opens_79 (fun σ9 H locs w9 hP1 hS1 => ?_)
        replace hP := hP1
        replace hS := hS1
        clear hP1 hS1
        replace hC := hC.u w9 (dS29_2 h0)
        replace t0 : σ9 h0 12 = σ7 h0 12 := (zz_w (b := h0) (j := 12) w9 (fun q9 => absurd q9.2 (by decide))).trans t0
        replace t1 : σ9 h0 13 = σ7 h0 13 := (zz_w (b := h0) (j := 13) w9 (fun q9 => absurd q9.2 (by decide))).trans t1
        have hb14 := zz_uT w9
        refine lv_aload_n hx hb dX9_opens_82 rfl (lv_at hl 0 rfl) ?_
        refine lv_dup hx hb dX9_opens_83 rfl ?_
        refine zz_geti hx hb hts hi9 hown hK hP (g0.1) rfl 12 (by decide) (hts (.fieldLink RX9 116 "NoonLawModel" "here" "I") (List.mem_cons_of_mem _ bm_512)) rfl rfl t0 dX9_opens_84 ?_
        refine lv_aload_n hx hb dX9_opens_87 rfl (lv_at hl 0 rfl) ?_
        refine zz_geti hx hb hts hi9 hown hK hP (g0.1) rfl 14 (by decide) (hts (.fieldLink RX9 130 "NoonLawModel" "bad" "Z") (List.mem_cons_of_mem _ bm_514)) rfl rfl rfl dX9_opens_88 ?_
        refine lv_if_eq (tgt := 98) hx hb dX9_opens_91 (by decide) (fun c10 => ?_) (fun c10 => ?_)
        · have c10 := zz_eqT c10
          refine lv_iconst (v := 1) hx hb dX9_opens_98 (by decide) ?_
          refine lv_iadd hx hb dX9_opens_99 ?_
          refine lv_topi (fun n11 e11 => ?_)
          have f11 : n11.toInt = (σ7 h0 12).toInt + (1 : Int32).toInt := zz_addT e11 (by omega) (by omega)
          refine zz_puti (v := n11) (ty := .int) hx hb hts hi9 tyX9 tyX9_ok nmX9 hown hK hP hS (g0.1) rfl 12 (by decide) (hts (.fieldLink RX9 116 "NoonLawModel" "here" "I") (List.mem_cons_of_mem _ bm_512)) rfl rfl (by decide +kernel) rfl rfl rfl dX9_opens_100 (fun σ12 H locs w12 hP1 hS1 => ?_)
          replace hP := hP1
          replace hS := hS1
          clear hP1 hS1
          replace hC := hC.u w12 (dS29_5 h0)
          replace t0 : σ12 h0 12 = n11 := zz_w1 w12
          replace t1 : σ12 h0 13 = σ7 h0 13 := (zz_w (b := h0) (j := 13) w12 (fun q9 => absurd q9.2 (by decide))).trans t1
          refine lv_aload_n hx hb dX9_opens_103 rfl (lv_at hl 0 rfl) ?_
          refine lv_dup hx hb dX9_opens_104 rfl ?_
          refine zz_geti hx hb hts hi9 hown hK hP (g0.1) rfl 13 (by decide) (hts (.fieldLink RX9 138 "NoonLawModel" "opened" "I") (List.mem_cons_of_mem _ bm_513)) rfl rfl t1 dX9_opens_105 ?_
          refine lv_iconst (v := 1) hx hb dX9_opens_108 (by decide) ?_
          refine lv_isub hx hb dX9_opens_109 ?_
          refine lv_topi (fun n13 e13 => ?_)
          have f13 : n13.toInt = (σ7 h0 13).toInt - (1 : Int32).toInt := zz_subT e13 (by omega) (by omega)
          refine zz_puti (v := n13) (ty := .int) hx hb hts hi9 tyX9 tyX9_ok nmX9 hown hK hP hS (g0.1) rfl 13 (by decide) (hts (.fieldLink RX9 138 "NoonLawModel" "opened" "I") (List.mem_cons_of_mem _ bm_513)) rfl rfl (by decide +kernel) rfl rfl rfl dX9_opens_110 (fun σ14 H locs w14 hP1 hS1 => ?_)
          replace hP := hP1
          replace hS := hS1
          clear hP1 hS1
          replace hC := hC.u w14 (dS29_6 h0)
          replace t0 : σ14 h0 12 = n11 := (zz_w (b := h0) (j := 12) w14 (fun q9 => absurd q9.2 (by decide))).trans t0
          replace t1 : σ14 h0 13 = n13 := zz_w1 w14
          exact zz_vret hx hb hr hlocks hK hP hS dX9_opens_113 (by exact ⟨hC, zz_PP.par hPG hlt w3 w5 (by omega) (by omega) f7.1 w9 w12 w14 (by omega) (by omega), zz_q9.par (m := (5 - (v + 1)).toNat) (by omega) (by omega) w3 w5 (by omega) f7.2 w9 w12 w14 (Or.inr ⟨by omega, by omega, Or.inl (by omega)⟩)⟩)
        · have c10 := zz_neT c10
          refine lv_iconst (v := 0) hx hb dX9_opens_94 (by decide) ?_
          refine lv_goto (tgt := 99) hx hb dX9_opens_95 (by decide) ?_
          refine lv_iadd hx hb dX9_opens_99 ?_
          refine lv_topi (fun n15 e15 => ?_)
          have f15 : n15.toInt = (σ7 h0 12).toInt + (0 : Int32).toInt := zz_addT e15 (by omega) (by omega)
          refine zz_puti (v := n15) (ty := .int) hx hb hts hi9 tyX9 tyX9_ok nmX9 hown hK hP hS (g0.1) rfl 12 (by decide) (hts (.fieldLink RX9 116 "NoonLawModel" "here" "I") (List.mem_cons_of_mem _ bm_512)) rfl rfl (by decide +kernel) rfl rfl rfl dX9_opens_100 (fun σ16 H locs w16 hP1 hS1 => ?_)
          replace hP := hP1
          replace hS := hS1
          clear hP1 hS1
          replace hC := hC.u w16 (dS29_5 h0)
          replace t0 : σ16 h0 12 = n15 := zz_w1 w16
          replace t1 : σ16 h0 13 = σ7 h0 13 := (zz_w (b := h0) (j := 13) w16 (fun q9 => absurd q9.2 (by decide))).trans t1
          refine lv_aload_n hx hb dX9_opens_103 rfl (lv_at hl 0 rfl) ?_
          refine lv_dup hx hb dX9_opens_104 rfl ?_
          refine zz_geti hx hb hts hi9 hown hK hP (g0.1) rfl 13 (by decide) (hts (.fieldLink RX9 138 "NoonLawModel" "opened" "I") (List.mem_cons_of_mem _ bm_513)) rfl rfl t1 dX9_opens_105 ?_
          refine lv_iconst (v := 1) hx hb dX9_opens_108 (by decide) ?_
          refine lv_isub hx hb dX9_opens_109 ?_
          refine lv_topi (fun n17 e17 => ?_)
          have f17 : n17.toInt = (σ7 h0 13).toInt - (1 : Int32).toInt := zz_subT e17 (by omega) (by omega)
          refine zz_puti (v := n17) (ty := .int) hx hb hts hi9 tyX9 tyX9_ok nmX9 hown hK hP hS (g0.1) rfl 13 (by decide) (hts (.fieldLink RX9 138 "NoonLawModel" "opened" "I") (List.mem_cons_of_mem _ bm_513)) rfl rfl (by decide +kernel) rfl rfl rfl dX9_opens_110 (fun σ18 H locs w18 hP1 hS1 => ?_)
          replace hP := hP1
          replace hS := hS1
          clear hP1 hS1
          replace hC := hC.u w18 (dS29_6 h0)
          replace t0 : σ18 h0 12 = n15 := (zz_w (b := h0) (j := 12) w18 (fun q9 => absurd q9.2 (by decide))).trans t0
          replace t1 : σ18 h0 13 = n17 := zz_w1 w18
          exact zz_vret hx hb hr hlocks hK hP hS dX9_opens_113 (by exact ⟨hC, zz_PP.par hPG hlt w3 w5 (by omega) (by omega) f7.1 w9 w16 w18 (by omega) (by omega), zz_q9.par (m := (5 - (v + 1)).toNat) (by omega) (by omega) w3 w5 (by omega) f7.2 w9 w16 w18 (Or.inr ⟨by omega, by omega, Or.inl (by omega)⟩)⟩)
      · have c8 := zz_eqT c8
        refine lv_aload_n hx hb dX9_opens_65 rfl (lv_at hl 0 rfl) ?_
        refine zz_callVp (As := []) (rest := [.ref h0]) ⟨hx, hb, hml, hown, hts⟩ hK hP hS (c_X9_look l E σ7 h0 g0 (by omega)) (cwV 0 hts gX9_opens_X9_look rfl rfl rfl (by decide +kernel) ⟨by show 0 + 1 ≤ 10 + rk; omega, by show 8 + (1 + 11) + 0 ≤ 300 + 60 * rk; omega⟩) (g0.1) rfl rfl hl.1 rfl (Nat.le_of_ble_eq_true rfl) dX9_opens_66 ⟨Nat.zero_le _, Nat.zero_le _⟩ (fun r19 H locs f19 hP1 hS1 => ?_)
        replace hP := hP1
        replace hS := hS1
        clear hP1 hS1
        have hk6 := zz_look_T f19.1 (hT.keep (fun k => hC _ _ (by first | (dsimp only; omega) | omega))) (by omega)
        refine lv_bipush (v := 41) hx hb dX9_opens_69 (by decide) ?_
        refine lv_icmp_eq (tgt := 78) hx hb dX9_opens_71 (by decide) (fun c20 => ?_) (fun c20 => ?_)
        · have c20 := zz_eqT c20
          skip
          refine lv_iconst (v := 0) hx hb dX9_opens_78 (by decide) ?_
          refine zz_puti (v := 0) (ty := .boolean) hx hb hts hi9 tyX9 tyX9_ok nmX9 hown hK hP hS (g0.1) rfl 14 (by decide) (hts (.fieldLink RX9 130 "NoonLawModel" "bad" "Z") (List.mem_cons_of_mem _ bm_514)) rfl rfl (by decide +kernel) (zz_nz (by omega)) (zz_fz (by omega)) rfl dX9_opens_79 (fun σ21 H locs w21 hP1 hS1 => ?_)
          replace hP := hP1
          replace hS := hS1
          clear hP1 hS1
          replace hC := hC.u w21 (dS29_2 h0)
          replace t0 : σ21 h0 12 = σ7 h0 12 := (zz_w (b := h0) (j := 12) w21 (fun q9 => absurd q9.2 (by decide))).trans t0
          replace t1 : σ21 h0 13 = σ7 h0 13 := (zz_w (b := h0) (j := 13) w21 (fun q9 => absurd q9.2 (by decide))).trans t1
          have hb14 := zz_uT w21
          refine lv_aload_n hx hb dX9_opens_82 rfl (lv_at hl 0 rfl) ?_
          refine lv_dup hx hb dX9_opens_83 rfl ?_
          refine zz_geti hx hb hts hi9 hown hK hP (g0.1) rfl 12 (by decide) (hts (.fieldLink RX9 116 "NoonLawModel" "here" "I") (List.mem_cons_of_mem _ bm_512)) rfl rfl t0 dX9_opens_84 ?_
          refine lv_aload_n hx hb dX9_opens_87 rfl (lv_at hl 0 rfl) ?_
          refine zz_geti hx hb hts hi9 hown hK hP (g0.1) rfl 14 (by decide) (hts (.fieldLink RX9 130 "NoonLawModel" "bad" "Z") (List.mem_cons_of_mem _ bm_514)) rfl rfl rfl dX9_opens_88 ?_
          refine lv_if_eq (tgt := 98) hx hb dX9_opens_91 (by decide) (fun c22 => ?_) (fun c22 => ?_)
          · have c22 := zz_eqT c22
            refine lv_iconst (v := 1) hx hb dX9_opens_98 (by decide) ?_
            refine lv_iadd hx hb dX9_opens_99 ?_
            refine lv_topi (fun n23 e23 => ?_)
            have f23 : n23.toInt = (σ7 h0 12).toInt + (1 : Int32).toInt := zz_addT e23 (by omega) (by omega)
            refine zz_puti (v := n23) (ty := .int) hx hb hts hi9 tyX9 tyX9_ok nmX9 hown hK hP hS (g0.1) rfl 12 (by decide) (hts (.fieldLink RX9 116 "NoonLawModel" "here" "I") (List.mem_cons_of_mem _ bm_512)) rfl rfl (by decide +kernel) rfl rfl rfl dX9_opens_100 (fun σ24 H locs w24 hP1 hS1 => ?_)
            replace hP := hP1
            replace hS := hS1
            clear hP1 hS1
            replace hC := hC.u w24 (dS29_5 h0)
            replace t0 : σ24 h0 12 = n23 := zz_w1 w24
            replace t1 : σ24 h0 13 = σ7 h0 13 := (zz_w (b := h0) (j := 13) w24 (fun q9 => absurd q9.2 (by decide))).trans t1
            refine lv_aload_n hx hb dX9_opens_103 rfl (lv_at hl 0 rfl) ?_
            refine lv_dup hx hb dX9_opens_104 rfl ?_
            refine zz_geti hx hb hts hi9 hown hK hP (g0.1) rfl 13 (by decide) (hts (.fieldLink RX9 138 "NoonLawModel" "opened" "I") (List.mem_cons_of_mem _ bm_513)) rfl rfl t1 dX9_opens_105 ?_
            refine lv_iconst (v := 1) hx hb dX9_opens_108 (by decide) ?_
            refine lv_isub hx hb dX9_opens_109 ?_
            refine lv_topi (fun n25 e25 => ?_)
            have f25 : n25.toInt = (σ7 h0 13).toInt - (1 : Int32).toInt := zz_subT e25 (by omega) (by omega)
            refine zz_puti (v := n25) (ty := .int) hx hb hts hi9 tyX9 tyX9_ok nmX9 hown hK hP hS (g0.1) rfl 13 (by decide) (hts (.fieldLink RX9 138 "NoonLawModel" "opened" "I") (List.mem_cons_of_mem _ bm_513)) rfl rfl (by decide +kernel) rfl rfl rfl dX9_opens_110 (fun σ26 H locs w26 hP1 hS1 => ?_)
            replace hP := hP1
            replace hS := hS1
            clear hP1 hS1
            replace hC := hC.u w26 (dS29_6 h0)
            replace t0 : σ26 h0 12 = n23 := (zz_w (b := h0) (j := 12) w26 (fun q9 => absurd q9.2 (by decide))).trans t0
            replace t1 : σ26 h0 13 = n25 := zz_w1 w26
            exact zz_vret hx hb hr hlocks hK hP hS dX9_opens_113 (by exact ⟨hC, zz_PP.par hPG hlt w3 w5 (by omega) (by omega) f7.1 w21 w24 w26 (by omega) (by omega), zz_q9.par (m := (5 - (v + 1)).toNat) (by omega) (by omega) w3 w5 (by omega) f7.2 w21 w24 w26 (Or.inl ⟨by omega, by omega, by omega, by omega⟩)⟩)
          · have c22 := zz_neT c22
            refine lv_iconst (v := 0) hx hb dX9_opens_94 (by decide) ?_
            refine lv_goto (tgt := 99) hx hb dX9_opens_95 (by decide) ?_
            refine lv_iadd hx hb dX9_opens_99 ?_
            refine lv_topi (fun n27 e27 => ?_)
            have f27 : n27.toInt = (σ7 h0 12).toInt + (0 : Int32).toInt := zz_addT e27 (by omega) (by omega)
            refine zz_puti (v := n27) (ty := .int) hx hb hts hi9 tyX9 tyX9_ok nmX9 hown hK hP hS (g0.1) rfl 12 (by decide) (hts (.fieldLink RX9 116 "NoonLawModel" "here" "I") (List.mem_cons_of_mem _ bm_512)) rfl rfl (by decide +kernel) rfl rfl rfl dX9_opens_100 (fun σ28 H locs w28 hP1 hS1 => ?_)
            replace hP := hP1
            replace hS := hS1
            clear hP1 hS1
            replace hC := hC.u w28 (dS29_5 h0)
            replace t0 : σ28 h0 12 = n27 := zz_w1 w28
            replace t1 : σ28 h0 13 = σ7 h0 13 := (zz_w (b := h0) (j := 13) w28 (fun q9 => absurd q9.2 (by decide))).trans t1
            refine lv_aload_n hx hb dX9_opens_103 rfl (lv_at hl 0 rfl) ?_
            refine lv_dup hx hb dX9_opens_104 rfl ?_
            refine zz_geti hx hb hts hi9 hown hK hP (g0.1) rfl 13 (by decide) (hts (.fieldLink RX9 138 "NoonLawModel" "opened" "I") (List.mem_cons_of_mem _ bm_513)) rfl rfl t1 dX9_opens_105 ?_
            refine lv_iconst (v := 1) hx hb dX9_opens_108 (by decide) ?_
            refine lv_isub hx hb dX9_opens_109 ?_
            refine lv_topi (fun n29 e29 => ?_)
            have f29 : n29.toInt = (σ7 h0 13).toInt - (1 : Int32).toInt := zz_subT e29 (by omega) (by omega)
            refine zz_puti (v := n29) (ty := .int) hx hb hts hi9 tyX9 tyX9_ok nmX9 hown hK hP hS (g0.1) rfl 13 (by decide) (hts (.fieldLink RX9 138 "NoonLawModel" "opened" "I") (List.mem_cons_of_mem _ bm_513)) rfl rfl (by decide +kernel) rfl rfl rfl dX9_opens_110 (fun σ30 H locs w30 hP1 hS1 => ?_)
            replace hP := hP1
            replace hS := hS1
            clear hP1 hS1
            replace hC := hC.u w30 (dS29_6 h0)
            replace t0 : σ30 h0 12 = n27 := (zz_w (b := h0) (j := 12) w30 (fun q9 => absurd q9.2 (by decide))).trans t0
            replace t1 : σ30 h0 13 = n29 := zz_w1 w30
            exact zz_vret hx hb hr hlocks hK hP hS dX9_opens_113 (by exact ⟨hC, zz_PP.par hPG hlt w3 w5 (by omega) (by omega) f7.1 w21 w28 w30 (by omega) (by omega), zz_q9.par (m := (5 - (v + 1)).toNat) (by omega) (by omega) w3 w5 (by omega) f7.2 w21 w28 w30 (Or.inl ⟨by omega, by omega, by omega, by omega⟩)⟩)
        · have c20 := zz_neT c20
          refine lv_iconst (v := 1) hx hb dX9_opens_74 (by decide) ?_
          refine lv_goto (tgt := 79) hx hb dX9_opens_75 (by decide) ?_
          refine zz_puti (v := 1) (ty := .boolean) hx hb hts hi9 tyX9 tyX9_ok nmX9 hown hK hP hS (g0.1) rfl 14 (by decide) (hts (.fieldLink RX9 130 "NoonLawModel" "bad" "Z") (List.mem_cons_of_mem _ bm_514)) rfl rfl (by decide +kernel) (zz_nz (by omega)) (zz_fz (by omega)) rfl dX9_opens_79 (fun σ31 H locs w31 hP1 hS1 => ?_)
          replace hP := hP1
          replace hS := hS1
          clear hP1 hS1
          replace hC := hC.u w31 (dS29_2 h0)
          replace t0 : σ31 h0 12 = σ7 h0 12 := (zz_w (b := h0) (j := 12) w31 (fun q9 => absurd q9.2 (by decide))).trans t0
          replace t1 : σ31 h0 13 = σ7 h0 13 := (zz_w (b := h0) (j := 13) w31 (fun q9 => absurd q9.2 (by decide))).trans t1
          have hb14 := zz_uT w31
          refine lv_aload_n hx hb dX9_opens_82 rfl (lv_at hl 0 rfl) ?_
          refine lv_dup hx hb dX9_opens_83 rfl ?_
          refine zz_geti hx hb hts hi9 hown hK hP (g0.1) rfl 12 (by decide) (hts (.fieldLink RX9 116 "NoonLawModel" "here" "I") (List.mem_cons_of_mem _ bm_512)) rfl rfl t0 dX9_opens_84 ?_
          refine lv_aload_n hx hb dX9_opens_87 rfl (lv_at hl 0 rfl) ?_
          refine zz_geti hx hb hts hi9 hown hK hP (g0.1) rfl 14 (by decide) (hts (.fieldLink RX9 130 "NoonLawModel" "bad" "Z") (List.mem_cons_of_mem _ bm_514)) rfl rfl rfl dX9_opens_88 ?_
          refine lv_if_eq (tgt := 98) hx hb dX9_opens_91 (by decide) (fun c32 => ?_) (fun c32 => ?_)
          · have c32 := zz_eqT c32
            refine lv_iconst (v := 1) hx hb dX9_opens_98 (by decide) ?_
            refine lv_iadd hx hb dX9_opens_99 ?_
            refine lv_topi (fun n33 e33 => ?_)
            have f33 : n33.toInt = (σ7 h0 12).toInt + (1 : Int32).toInt := zz_addT e33 (by omega) (by omega)
            refine zz_puti (v := n33) (ty := .int) hx hb hts hi9 tyX9 tyX9_ok nmX9 hown hK hP hS (g0.1) rfl 12 (by decide) (hts (.fieldLink RX9 116 "NoonLawModel" "here" "I") (List.mem_cons_of_mem _ bm_512)) rfl rfl (by decide +kernel) rfl rfl rfl dX9_opens_100 (fun σ34 H locs w34 hP1 hS1 => ?_)
            replace hP := hP1
            replace hS := hS1
            clear hP1 hS1
            replace hC := hC.u w34 (dS29_5 h0)
            replace t0 : σ34 h0 12 = n33 := zz_w1 w34
            replace t1 : σ34 h0 13 = σ7 h0 13 := (zz_w (b := h0) (j := 13) w34 (fun q9 => absurd q9.2 (by decide))).trans t1
            refine lv_aload_n hx hb dX9_opens_103 rfl (lv_at hl 0 rfl) ?_
            refine lv_dup hx hb dX9_opens_104 rfl ?_
            refine zz_geti hx hb hts hi9 hown hK hP (g0.1) rfl 13 (by decide) (hts (.fieldLink RX9 138 "NoonLawModel" "opened" "I") (List.mem_cons_of_mem _ bm_513)) rfl rfl t1 dX9_opens_105 ?_
            refine lv_iconst (v := 1) hx hb dX9_opens_108 (by decide) ?_
            refine lv_isub hx hb dX9_opens_109 ?_
            refine lv_topi (fun n35 e35 => ?_)
            have f35 : n35.toInt = (σ7 h0 13).toInt - (1 : Int32).toInt := zz_subT e35 (by omega) (by omega)
            refine zz_puti (v := n35) (ty := .int) hx hb hts hi9 tyX9 tyX9_ok nmX9 hown hK hP hS (g0.1) rfl 13 (by decide) (hts (.fieldLink RX9 138 "NoonLawModel" "opened" "I") (List.mem_cons_of_mem _ bm_513)) rfl rfl (by decide +kernel) rfl rfl rfl dX9_opens_110 (fun σ36 H locs w36 hP1 hS1 => ?_)
            replace hP := hP1
            replace hS := hS1
            clear hP1 hS1
            replace hC := hC.u w36 (dS29_6 h0)
            replace t0 : σ36 h0 12 = n33 := (zz_w (b := h0) (j := 12) w36 (fun q9 => absurd q9.2 (by decide))).trans t0
            replace t1 : σ36 h0 13 = n35 := zz_w1 w36
            exact zz_vret hx hb hr hlocks hK hP hS dX9_opens_113 (by exact ⟨hC, zz_PP.par hPG hlt w3 w5 (by omega) (by omega) f7.1 w31 w34 w36 (by omega) (by omega), zz_q9.par (m := (5 - (v + 1)).toNat) (by omega) (by omega) w3 w5 (by omega) f7.2 w31 w34 w36 (Or.inr ⟨by omega, by omega, Or.inr (by omega)⟩)⟩)
          · have c32 := zz_neT c32
            refine lv_iconst (v := 0) hx hb dX9_opens_94 (by decide) ?_
            refine lv_goto (tgt := 99) hx hb dX9_opens_95 (by decide) ?_
            refine lv_iadd hx hb dX9_opens_99 ?_
            refine lv_topi (fun n37 e37 => ?_)
            have f37 : n37.toInt = (σ7 h0 12).toInt + (0 : Int32).toInt := zz_addT e37 (by omega) (by omega)
            refine zz_puti (v := n37) (ty := .int) hx hb hts hi9 tyX9 tyX9_ok nmX9 hown hK hP hS (g0.1) rfl 12 (by decide) (hts (.fieldLink RX9 116 "NoonLawModel" "here" "I") (List.mem_cons_of_mem _ bm_512)) rfl rfl (by decide +kernel) rfl rfl rfl dX9_opens_100 (fun σ38 H locs w38 hP1 hS1 => ?_)
            replace hP := hP1
            replace hS := hS1
            clear hP1 hS1
            replace hC := hC.u w38 (dS29_5 h0)
            replace t0 : σ38 h0 12 = n37 := zz_w1 w38
            replace t1 : σ38 h0 13 = σ7 h0 13 := (zz_w (b := h0) (j := 13) w38 (fun q9 => absurd q9.2 (by decide))).trans t1
            refine lv_aload_n hx hb dX9_opens_103 rfl (lv_at hl 0 rfl) ?_
            refine lv_dup hx hb dX9_opens_104 rfl ?_
            refine zz_geti hx hb hts hi9 hown hK hP (g0.1) rfl 13 (by decide) (hts (.fieldLink RX9 138 "NoonLawModel" "opened" "I") (List.mem_cons_of_mem _ bm_513)) rfl rfl t1 dX9_opens_105 ?_
            refine lv_iconst (v := 1) hx hb dX9_opens_108 (by decide) ?_
            refine lv_isub hx hb dX9_opens_109 ?_
            refine lv_topi (fun n39 e39 => ?_)
            have f39 : n39.toInt = (σ7 h0 13).toInt - (1 : Int32).toInt := zz_subT e39 (by omega) (by omega)
            refine zz_puti (v := n39) (ty := .int) hx hb hts hi9 tyX9 tyX9_ok nmX9 hown hK hP hS (g0.1) rfl 13 (by decide) (hts (.fieldLink RX9 138 "NoonLawModel" "opened" "I") (List.mem_cons_of_mem _ bm_513)) rfl rfl (by decide +kernel) rfl rfl rfl dX9_opens_110 (fun σ40 H locs w40 hP1 hS1 => ?_)
            replace hP := hP1
            replace hS := hS1
            clear hP1 hS1
            replace hC := hC.u w40 (dS29_6 h0)
            replace t0 : σ40 h0 12 = n37 := (zz_w (b := h0) (j := 12) w40 (fun q9 => absurd q9.2 (by decide))).trans t0
            replace t1 : σ40 h0 13 = n39 := zz_w1 w40
            exact zz_vret hx hb hr hlocks hK hP hS dX9_opens_113 (by exact ⟨hC, zz_PP.par hPG hlt w3 w5 (by omega) (by omega) f7.1 w31 w38 w40 (by omega) (by omega), zz_q9.par (m := (5 - (v + 1)).toNat) (by omega) (by omega) w3 w5 (by omega) f7.2 w31 w38 w40 (Or.inr ⟨by omega, by omega, Or.inr (by omega)⟩)⟩)
    · have c6 := zz_eqT c6
      obtain ⟨hG2, hq7, hq11, hq12, hq13, hq5⟩ := hPG.opn hlt w3 w5 (by omega)
      have hy12 := congrArg Int32.toInt hq12
      have hy13 := congrArg Int32.toInt hq13
      have hy5 := congrArg Int32.toInt hq5
      refine lv_aload_n hx hb dX9_opens_40 rfl (lv_at hl 0 rfl) ?_
      obtain ⟨nc41, hc41, C41⟩ := H1 (by first | trivial | omega)
      refine zz_callVv (As := []) (rest := []) ⟨hx, hb, hml, hown, hts⟩ hK hP hS (C41 σ5 h0 g0 (by exact hG2) (by exact (hT.keep (fun k => hC _ _ (by first | (dsimp only; omega) | omega)))) (by rw [hC _ _ (by first | (dsimp only; omega) | omega)]; exact hus) (by exact hu1) (by omega)) (cwV 0 hts gX9_opens_X9_one rfl rfl rfl (by decide +kernel) ⟨by show 10 + nc41 + 1 ≤ 10 + rk; omega, by show 8 + (3 + 11) + (300 + 60 * nc41) ≤ 300 + 60 * rk; omega⟩) (g0.1) rfl rfl hl.1 rfl (Nat.le_of_ble_eq_true rfl) dX9_opens_41 ⟨Nat.zero_le _, Nat.zero_le _⟩ (fun σ41 H locs q41 hP1 hS1 => ?_)
      replace hP := hP1
      replace hS := hS1
      clear hP1 hS1
      try dsimp only at q41
      obtain ⟨w41, f41⟩ := q41
      replace hC := hC.tr (w41.mono (dS29_7 h0))
      replace t0 : σ41 h0 12 = σ41 h0 12 := rfl
      replace t1 : σ41 h0 13 = σ41 h0 13 := rfl
      have hn3 := f41.1.nums
      refine lv_aload_n hx hb dX9_opens_44 rfl (lv_at hl 0 rfl) ?_
      refine lv_iconst (v := 3) hx hb dX9_opens_45 (by decide) ?_
      refine lv_iconst (v := 0) hx hb dX9_opens_46 (by decide) ?_
      refine zz_callVv (As := [.int 3, .int 0]) (rest := []) ⟨hx, hb, hml, hown, hts⟩ hK hP hS (c_X9_step l E σ41 h0 3 0 g0 (by omega)) (cwV 2 hts gX9_opens_X9_step rfl rfl rfl (by decide +kernel) ⟨by show 0 + 1 ≤ 10 + rk; omega, by show 8 + (3 + 11) + 0 ≤ 300 + 60 * rk; omega⟩) (g0.1) rfl rfl hl.1 rfl (Nat.le_of_ble_eq_true rfl) dX9_opens_47 ⟨Nat.zero_le _, Nat.zero_le _⟩ (fun σ42 H locs q42 hP1 hS1 => ?_)
      replace hP := hP1
      replace hS := hS1
      clear hP1 hS1
      try dsimp only at q42
      obtain ⟨w42, f42⟩ := q42
      replace hC := hC.tr (w42.mono (dS29_3 h0))
      replace t0 : σ42 h0 12 = σ41 h0 12 := (w42 h0 12 (dS29_4 h0)).trans t0
      replace t1 : σ42 h0 13 = σ41 h0 13 := (w42 h0 13 (dS29_8 h0)).trans t1
      refine lv_goto (tgt := 103) hx hb dX9_opens_50 (by decide) ?_
      refine lv_aload_n hx hb dX9_opens_103 rfl (lv_at hl 0 rfl) ?_
      refine lv_dup hx hb dX9_opens_104 rfl ?_
      refine zz_geti hx hb hts hi9 hown hK hP (g0.1) rfl 13 (by decide) (hts (.fieldLink RX9 138 "NoonLawModel" "opened" "I") (List.mem_cons_of_mem _ bm_513)) rfl rfl t1 dX9_opens_105 ?_
      refine lv_iconst (v := 1) hx hb dX9_opens_108 (by decide) ?_
      refine lv_isub hx hb dX9_opens_109 ?_
      refine lv_topi (fun n43 e43 => ?_)
      have f43 : n43.toInt = (σ41 h0 13).toInt - (1 : Int32).toInt := zz_subT e43 (by omega) (by omega)
      refine zz_puti (v := n43) (ty := .int) hx hb hts hi9 tyX9 tyX9_ok nmX9 hown hK hP hS (g0.1) rfl 13 (by decide) (hts (.fieldLink RX9 138 "NoonLawModel" "opened" "I") (List.mem_cons_of_mem _ bm_513)) rfl rfl (by decide +kernel) rfl rfl rfl dX9_opens_110 (fun σ44 H locs w44 hP1 hS1 => ?_)
      replace hP := hP1
      replace hS := hS1
      clear hP1 hS1
      replace hC := hC.u w44 (dS29_6 h0)
      replace t0 : σ44 h0 12 = σ41 h0 12 := (zz_w (b := h0) (j := 12) w44 (fun q9 => absurd q9.2 (by decide))).trans t0
      replace t1 : σ44 h0 13 = n43 := zz_w1 w44
      exact zz_vret hx hb hr hlocks hK hP hS dX9_opens_113 (by exact ⟨hC, zz_PP.deny hPG hlt w3 w5 (by omega) (by omega) f41.1 f42 k_3 w44 (by omega), zz_q9.deny (m := (5 - (v + 1)).toNat) (by omega) (by omega) w3 w5 (by omega) f41.2 (by omega) f42 k_3 k_0 w44⟩)
  · have c1 := zz_eqT c1
    refine lv_aload_n hx hb dX9_opens_8 rfl (lv_at hl 0 rfl) ?_
    refine lv_iconst (v := 1) hx hb dX9_opens_9 (by decide) ?_
    refine zz_puti (v := 1) (ty := .boolean) hx hb hts hi9 tyX9 tyX9_ok nmX9 hown hK hP hS (g0.1) rfl 14 (by decide) (hts (.fieldLink RX9 130 "NoonLawModel" "bad" "Z") (List.mem_cons_of_mem _ bm_514)) rfl rfl (by decide +kernel) (zz_nz (by omega)) (zz_fz (by omega)) rfl dX9_opens_10 (fun σ45 H locs w45 hP1 hS1 => ?_)
    replace hP := hP1
    replace hS := hS1
    clear hP1 hS1
    replace hC := hC.u w45 (dS29_2 h0)
    replace t0 : σ45 h0 12 = σ h0 12 := (zz_w (b := h0) (j := 12) w45 (fun q9 => absurd q9.2 (by decide))).trans t0
    replace t1 : σ45 h0 13 = σ h0 13 := (zz_w (b := h0) (j := 13) w45 (fun q9 => absurd q9.2 (by decide))).trans t1
    exact zz_vret hx hb hr hlocks hK hP hS dX9_opens_13 (by exact ⟨hC, zz_PP.full hPG w45 k_1, zz_q9.full (by omega) (by omega) w45 k_1⟩)
theorem gX9_one_X9_look : GoodIn wzX9_one (wsV RX9 126 RX9 yX9_look wzX9_look) := wz_co bm_522 (wz_co bm_523 (wz_co bm_524 (wz_co bm_5 (wz_in bm_525))))
theorem gX9_one_X9_nameOf : GoodIn wzX9_one (wsV RX9 147 RX9 yX9_nameOf wzX9_nameOf) := wz_co bm_539 (wz_co bm_540 (wz_co bm_541 (wz_co bm_5 (wz_in bm_542))))
theorem gX9_one_X9_step : GoodIn wzX9_one (wsV RX9 134 RX9 yX9_step wzX9_step) := wz_co bm_526 (wz_co bm_527 (wz_co bm_528 (wz_co bm_5 (wz_in bm_529))))
theorem gX9_one_X9_opens : GoodIn wzX9_one (wsV RX9 150 RX9 yX9_opens wzX9_opens) := wz_co bm_543 (wz_co bm_544 (wz_co bm_545 (wz_co bm_5 (wz_in bm_550))))
theorem gX9_one_X9_number : GoodIn wzX9_one (wsV RX9 154 RX9 yX9_number wzX9_number) := wz_co bm_546 (wz_co bm_547 (wz_co bm_548 (wz_co bm_5 (wz_in bm_549))))
set_option maxHeartbeats 4000000 in
set_option maxRecDepth 100000 in
theorem g_X9_one (l : Launch) (E : zz_E) (rk : Nat) (T : Int → Int) (us : Int) (v : Int) (h05 : 0 ≤ v ∧ v ≤ 5) (HO : True → ∃ nc : Nat, nc < rk ∧ k_X9_opens l E nc T us v) : k_X9_one l E rk T us v := by
  intro σ h0 g0 hPG hT hus hu1 ho
  refine zz_met (cc := cX9_one) (maxL := 3) (ret := none) (by decide) rfl (Nat.le_of_ble_eq_true rfl) ?_
  intro p e s m args below meth c ls hx hb hr hts hown hlocks hml hK hP hS hl
  have hl : lv_has ls 3 [(0, .ref h0)] := hl
  have hown : s.vm.findClass RX9 = some m.cls := hown
  have hi9 : ∀ w ∈ wsX90, w ∈ wzX9_one := fun w h => List.mem_cons_of_mem _ (hbw9 w h)
  have k_0 : (0 : Int32).toInt = 0 := by decide +kernel
  have k_1 : (1 : Int32).toInt = 1 := by decide +kernel
  have k_2 : (2 : Int32).toInt = 2 := by decide +kernel
  have k_33 : (33 : Int32).toInt = 33 := by decide +kernel
  have k_40 : (40 : Int32).toInt = 40 := by decide +kernel
  have hC : zz_ch (fun a k => (a = h0 ∧ 11 ≤ k ∧ k ≤ 14) ∨ a = h0 + 7 ∨ a = h0 + 8) σ σ := zz_ch.rf σ
  have hgn := hPG.nums
  refine lv_aload_n hx hb dX9_one_0 rfl (lv_at hl 0 rfl) ?_
  refine zz_callVp (As := []) (rest := []) ⟨hx, hb, hml, hown, hts⟩ hK hP hS (c_X9_look l E σ h0 g0 (by omega)) (cwV 0 hts gX9_one_X9_look rfl rfl rfl (by decide +kernel) ⟨by show 0 + 1 ≤ 10 + rk; omega, by show 8 + (1 + 11) + 0 ≤ 300 + 60 * rk; omega⟩) (g0.1) rfl rfl hl.1 rfl (Nat.le_of_ble_eq_true rfl) dX9_one_1 ⟨Nat.zero_le _, Nat.zero_le _⟩ (fun r1 H locs f1 hP1 hS1 => ?_)
  replace hP := hP1
  replace hS := hS1
  clear hP1 hS1
  have hk1 := zz_look_T f1.1 hT (by omega)
  refine lv_istore_n (lv' := [(1, .int r1), (0, .ref h0)]) hx hb dX9_one_4 rfl hl (by decide) rfl (fun ls hl => ?_)
  refine lv_aload_n hx hb dX9_one_5 rfl (lv_at hl 1 rfl) ?_
  refine lv_iload_n hx hb dX9_one_6 rfl (lv_at hl 0 rfl) ?_
  refine zz_callVp (As := [.int r1]) (rest := []) ⟨hx, hb, hml, hown, hts⟩ hK hP hS (c_X9_nameOf l E σ h0 r1 g0 us (by exact hus) (by exact hu1)) (cwV 1 hts gX9_one_X9_nameOf rfl rfl rfl (by decide +kernel) ⟨by show 0 + 1 ≤ 10 + rk; omega, by show 8 + (2 + 11) + 0 ≤ 300 + 60 * rk; omega⟩) (g0.1) rfl rfl hl.1 rfl (Nat.le_of_ble_eq_true rfl) dX9_one_7 ⟨Nat.zero_le _, Nat.zero_le _⟩ (fun r2 H locs f2 hP1 hS1 => ?_)
  replace hP := hP1
  replace hS := hS1
  clear hP1 hS1
  skip
  refine lv_istore_n (lv' := [(2, .int r2), (1, .int r1), (0, .ref h0)]) hx hb dX9_one_10 rfl hl (by decide) rfl (fun ls hl => ?_)
  refine lv_iload_n hx hb dX9_one_11 rfl (lv_at hl 0 rfl) ?_
  refine lv_if_lt (tgt := 34) hx hb dX9_one_12 (by decide) (fun c3 => ?_) (fun c3 => ?_)
  · have c3 := zz_ltT c3
    refine lv_iload_n hx hb dX9_one_34 rfl (lv_at hl 1 rfl) ?_
    refine lv_bipush (v := 33) hx hb dX9_one_35 (by decide) ?_
    refine lv_icmp_eq (tgt := 46) hx hb dX9_one_37 (by decide) (fun c4 => ?_) (fun c4 => ?_)
    · have c4 := zz_eqT c4
      refine lv_aload_n hx hb dX9_one_46 rfl (lv_at hl 2 rfl) ?_
      refine lv_iload_n hx hb dX9_one_47 rfl (lv_at hl 1 rfl) ?_
      obtain ⟨nc5, hc5, C5⟩ := HO (by first | trivial | omega)
      refine zz_callVv (As := [.int r1]) (rest := []) ⟨hx, hb, hml, hown, hts⟩ hK hP hS (C5 σ h0 r1 g0 (by exact hPG) (by exact hT) (by exact hus) (by exact hu1) (by exact ho) (by omega) (by omega) (by exact hk1.symm)) (cwV 1 hts gX9_one_X9_opens rfl rfl rfl (by decide +kernel) ⟨by show 10 + nc5 + 1 ≤ 10 + rk; omega, by show 8 + (2 + 11) + (300 + 60 * nc5) ≤ 300 + 60 * rk; omega⟩) (g0.1) rfl rfl hl.1 rfl (Nat.le_of_ble_eq_true rfl) dX9_one_48 ⟨Nat.zero_le _, Nat.zero_le _⟩ (fun σ5 H locs q5 hP1 hS1 => ?_)
      replace hP := hP1
      replace hS := hS1
      clear hP1 hS1
      try dsimp only at q5
      obtain ⟨w5, f5⟩ := q5
      replace hC := hC.tr (w5.mono (dS29_7 h0))
      refine lv_goto (tgt := 58) hx hb dX9_one_51 (by decide) ?_
      exact zz_vret hx hb hr hlocks hK hP hS dX9_one_58 (by exact ⟨hC, f5.1, f5.2⟩)
    · have c4 := zz_neT c4
      refine lv_iload_n hx hb dX9_one_40 rfl (lv_at hl 1 rfl) ?_
      refine lv_bipush (v := 40) hx hb dX9_one_41 (by decide) ?_
      refine lv_icmp_ne (tgt := 54) hx hb dX9_one_43 (by decide) (fun c6 => ?_) (fun c6 => ?_)
      · have c6 := zz_neT c6
        refine lv_aload_n hx hb dX9_one_54 rfl (lv_at hl 2 rfl) ?_
        refine zz_callVv (As := []) (rest := []) ⟨hx, hb, hml, hown, hts⟩ hK hP hS (c_X9_number l E σ h0 g0 (by exact hPG) T (by exact hT)) (cwV 0 hts gX9_one_X9_number rfl rfl rfl (by decide +kernel) ⟨by show 1 + 1 ≤ 10 + rk; omega, by show 8 + (3 + 11) + 22 ≤ 300 + 60 * rk; omega⟩) (g0.1) rfl rfl hl.1 rfl (Nat.le_of_ble_eq_true rfl) dX9_one_55 ⟨Nat.zero_le _, Nat.zero_le _⟩ (fun σ7 H locs q7 hP1 hS1 => ?_)
        replace hP := hP1
        replace hS := hS1
        clear hP1 hS1
        try dsimp only at q7
        obtain ⟨w7, f7⟩ := q7
        replace hC := hC.tr (w7.mono (dS29_7 h0))
        exact zz_vret hx hb hr hlocks hK hP hS dX9_one_58 (by exact ⟨hC, f7.1, zz_q9.unum f7.2 f2.2.2 hk1 (by omega) (by omega) (by omega)⟩)
      · have c6 := zz_eqT c6
        refine lv_aload_n hx hb dX9_one_46 rfl (lv_at hl 2 rfl) ?_
        refine lv_iload_n hx hb dX9_one_47 rfl (lv_at hl 1 rfl) ?_
        obtain ⟨nc8, hc8, C8⟩ := HO (by first | trivial | omega)
        refine zz_callVv (As := [.int r1]) (rest := []) ⟨hx, hb, hml, hown, hts⟩ hK hP hS (C8 σ h0 r1 g0 (by exact hPG) (by exact hT) (by exact hus) (by exact hu1) (by exact ho) (by omega) (by omega) (by exact hk1.symm)) (cwV 1 hts gX9_one_X9_opens rfl rfl rfl (by decide +kernel) ⟨by show 10 + nc8 + 1 ≤ 10 + rk; omega, by show 8 + (2 + 11) + (300 + 60 * nc8) ≤ 300 + 60 * rk; omega⟩) (g0.1) rfl rfl hl.1 rfl (Nat.le_of_ble_eq_true rfl) dX9_one_48 ⟨Nat.zero_le _, Nat.zero_le _⟩ (fun σ8 H locs q8 hP1 hS1 => ?_)
        replace hP := hP1
        replace hS := hS1
        clear hP1 hS1
        try dsimp only at q8
        obtain ⟨w8, f8⟩ := q8
        replace hC := hC.tr (w8.mono (dS29_7 h0))
        refine lv_goto (tgt := 58) hx hb dX9_one_51 (by decide) ?_
        exact zz_vret hx hb hr hlocks hK hP hS dX9_one_58 (by exact ⟨hC, f8.1, f8.2⟩)
  · have c3 := zz_nltT c3
    refine lv_aload_n hx hb dX9_one_15 rfl (lv_at hl 2 rfl) ?_
    refine lv_dup hx hb dX9_one_16 rfl ?_
    refine zz_geti hx hb hts hi9 hown hK hP (g0.1) rfl 12 (by decide) (hts (.fieldLink RX9 116 "NoonLawModel" "here" "I") (List.mem_cons_of_mem _ bm_512)) rfl rfl rfl dX9_one_17 ?_
    refine lv_iconst (v := 1) hx hb dX9_one_20 (by decide) ?_
    refine lv_iadd hx hb dX9_one_21 ?_
    refine lv_topi (fun n9 e9 => ?_)
    have f9 : n9.toInt = (σ h0 12).toInt + (1 : Int32).toInt := zz_addT e9 (by omega) (by omega)
    refine zz_puti (v := n9) (ty := .int) hx hb hts hi9 tyX9 tyX9_ok nmX9 hown hK hP hS (g0.1) rfl 12 (by decide) (hts (.fieldLink RX9 116 "NoonLawModel" "here" "I") (List.mem_cons_of_mem _ bm_512)) rfl rfl (by decide +kernel) rfl rfl rfl dX9_one_22 (fun σ10 H locs w10 hP1 hS1 => ?_)
    replace hP := hP1
    replace hS := hS1
    clear hP1 hS1
    replace hC := hC.u w10 (dS29_5 h0)
    refine lv_aload_n hx hb dX9_one_25 rfl (lv_at hl 2 rfl) ?_
    refine lv_iconst (v := 2) hx hb dX9_one_26 (by decide) ?_
    refine lv_iload_n hx hb dX9_one_27 rfl (lv_at hl 0 rfl) ?_
    refine zz_callVv (As := [.int 2, .int r2]) (rest := []) ⟨hx, hb, hml, hown, hts⟩ hK hP hS (c_X9_step l E σ10 h0 2 r2 g0 (by rw [w10, zz_un (by omega)]; omega)) (cwV 2 hts gX9_one_X9_step rfl rfl rfl (by decide +kernel) ⟨by show 0 + 1 ≤ 10 + rk; omega, by show 8 + (3 + 11) + 0 ≤ 300 + 60 * rk; omega⟩) (g0.1) rfl rfl hl.1 rfl (Nat.le_of_ble_eq_true rfl) dX9_one_28 ⟨Nat.zero_le _, Nat.zero_le _⟩ (fun σ11 H locs q11 hP1 hS1 => ?_)
    replace hP := hP1
    replace hS := hS1
    clear hP1 hS1
    try dsimp only at q11
    obtain ⟨w11, f11⟩ := q11
    replace hC := hC.tr (w11.mono (dS29_3 h0))
    refine lv_goto (tgt := 58) hx hb dX9_one_31 (by decide) ?_
    exact zz_vret hx hb hr hlocks hK hP hS dX9_one_58 (by exact ⟨hC, zz_PP.name hPG (by omega) w10 (by omega) f11 k_2 (by omega), zz_q9.name f2.2.2 hk1 (by omega) w10 (by omega) f11 k_2 rfl (by omega) (by omega)⟩)
theorem gX9_times_X9_one : GoodIn wzX9_times (wsV RX9 141 RX9 yX9_one wzX9_one) := wz_co bm_551 (wz_co bm_552 (wz_co bm_553 (wz_co bm_5 (wz_in bm_538))))
theorem gX9_times_X9_look : GoodIn wzX9_times (wsV RX9 126 RX9 yX9_look wzX9_look) := wz_co bm_522 (wz_co bm_523 (wz_co bm_524 (wz_co bm_5 (wz_in bm_525))))
theorem gX9_times_X9_step : GoodIn wzX9_times (wsV RX9 134 RX9 yX9_step wzX9_step) := wz_co bm_526 (wz_co bm_527 (wz_co bm_528 (wz_co bm_5 (wz_in bm_529))))
set_option maxHeartbeats 4000000 in
set_option maxRecDepth 100000 in
theorem g_X9_times (l : Launch) (E : zz_E) (rk : Nat) (T : Int → Int) (us : Int) (v : Int) (h05 : 0 ≤ v ∧ v ≤ 5) (HN : True → ∃ nc : Nat, nc < rk ∧ k_X9_one l E nc T us v) : k_X9_times l E rk T us v := by
  intro σ h0 g0 hPG hT hus hu1 ho
  refine zz_met (cc := cX9_times) (maxL := 2) (ret := none) (by decide) rfl (Nat.le_of_ble_eq_true rfl) ?_
  intro p e s m args below meth c ls hx hb hr hts hown hlocks hml hK hP hS hl
  have hl : lv_has ls 2 [(0, .ref h0)] := hl
  have hown : s.vm.findClass RX9 = some m.cls := hown
  have hi9 : ∀ w ∈ wsX90, w ∈ wzX9_times := fun w h => List.mem_cons_of_mem _ (hbw9 w h)
  have k_0 : (0 : Int32).toInt = 0 := by decide +kernel
  have k_1 : (1 : Int32).toInt = 1 := by decide +kernel
  have k_37 : (37 : Int32).toInt = 37 := by decide +kernel
  have k_42 : (42 : Int32).toInt = 42 := by decide +kernel
  have k_47 : (47 : Int32).toInt = 47 := by decide +kernel
  have hC : zz_ch (fun a k => (a = h0 ∧ 11 ≤ k ∧ k ≤ 14) ∨ a = h0 + 7 ∨ a = h0 + 8) σ σ := zz_ch.rf σ
  have hgn := hPG.nums
  refine lv_aload_n hx hb dX9_times_0 rfl (lv_at hl 0 rfl) ?_
  obtain ⟨nc1, hc1, C1⟩ := HN (by first | trivial | omega)
  refine zz_callVv (As := []) (rest := []) ⟨hx, hb, hml, hown, hts⟩ hK hP hS (C1 σ h0 g0 (by exact hPG) (by exact hT) (by exact hus) (by exact hu1) (by exact ho)) (cwV 0 hts gX9_times_X9_one rfl rfl rfl (by decide +kernel) ⟨by show 10 + nc1 + 1 ≤ 10 + rk; omega, by show 8 + (3 + 11) + (300 + 60 * nc1) ≤ 300 + 60 * rk; omega⟩) (g0.1) rfl rfl hl.1 rfl (Nat.le_of_ble_eq_true rfl) dX9_times_1 ⟨Nat.zero_le _, Nat.zero_le _⟩ (fun σ1 H locs q1 hP1 hS1 => ?_)
  replace hP := hP1
  replace hS := hS1
  clear hP1 hS1
  try dsimp only at q1
  obtain ⟨w1, f1⟩ := q1
  replace hC := hC.tr (w1.mono (dS29_7 h0))
  have J4 : ∀ (n : Nat) (σa : zz_S) (H : Heap) (locs : List Loc) (ls : Array Slot), ((60 - (σa h0 12).toInt).toNat) < n → (zz_ch (fun a k => (a = h0 ∧ 11 ≤ k ∧ k ≤ 14) ∨ a = h0 + 7 ∨ a = h0 + 8) σ σa) → (zz_PP σ σa h0) → (zz_l9 T (fun q => zz_uq T us (5 - v).toNat q) 4 σ σa h0 (zz_lw T (fun q => zz_uq T us (5 - v).toNat q) 4 (σ h0 12).toInt)) → zz_P E σa H → va_S (zz_A E) s.heap H locs → lv_has ls 2 [(0, .ref h0)] → W p l e (headSpec wzX9_times (zz_rm rk)).room s m args below meth c H locs 0 0 (MQ below (va_Qv (fun σ1 => zz_ch (fun a k => (a = h0 ∧ 11 ≤ k ∧ k ≤ 14) ∨ a = h0 + 7 ∨ a = h0 + 8) σ σ1 ∧ (zz_PP σ σ1 h0 ∧ zz_q9 σ σ1 h0 (zz_lw T (fun q => zz_uq T us (5 - v).toNat q) 4 (σ h0 12).toInt))) (zz_B E) (zz_A E)) args s 0 0 (zz_A E)) (F0 m 4 ls []) := by
    intro n
    induction n with
    | zero => intro σa H locs ls hm; exact absurd hm (Nat.not_lt_zero _)
    | succ n ih4 =>
      intro σa H locs ls hm hC f4_0 f4_1 hP hS hl
      have hpn := f4_0.nums
      refine lv_aload_n hx hb dX9_times_4 rfl (lv_at hl 0 rfl) ?_
      refine zz_geti hx hb hts hi9 hown hK hP (g0.1) rfl 14 (by decide) (hts (.fieldLink RX9 130 "NoonLawModel" "bad" "Z") (List.mem_cons_of_mem _ bm_514)) rfl rfl rfl dX9_times_5 ?_
      refine lv_if_ne (tgt := 66) hx hb dX9_times_8 (by decide) (fun c2 => ?_) (fun c2 => ?_)
      · have c2 := zz_neT c2
        exact zz_vret hx hb hr hlocks hK hP hS dX9_times_66 (by exact ⟨hC, f4_0, f4_1.stop (Or.inl (by omega))⟩)
      · have c2 := zz_eqT c2
        refine lv_aload_n hx hb dX9_times_11 rfl (lv_at hl 0 rfl) ?_
        refine zz_callVp (As := []) (rest := []) ⟨hx, hb, hml, hown, hts⟩ hK hP hS (c_X9_look l E σa h0 g0 (by omega)) (cwV 0 hts gX9_times_X9_look rfl rfl rfl (by decide +kernel) ⟨by show 0 + 1 ≤ 10 + rk; omega, by show 8 + (1 + 11) + 0 ≤ 300 + 60 * rk; omega⟩) (g0.1) rfl rfl hl.1 rfl (Nat.le_of_ble_eq_true rfl) dX9_times_12 ⟨Nat.zero_le _, Nat.zero_le _⟩ (fun r3 H locs f3 hP1 hS1 => ?_)
        replace hP := hP1
        replace hS := hS1
        clear hP1 hS1
        have hk15 := zz_look_T f3.1 (hT.keep (fun k => hC _ _ (by first | (dsimp only; omega) | omega))) (by omega)
        refine lv_bipush (v := 42) hx hb dX9_times_15 (by decide) ?_
        refine lv_icmp_eq (tgt := 38) hx hb dX9_times_17 (by decide) (fun c4 => ?_) (fun c4 => ?_)
        · have c4 := zz_eqT c4
          refine lv_aload_n hx hb dX9_times_38 rfl (lv_at hl 0 rfl) ?_
          refine zz_callVp (As := []) (rest := []) ⟨hx, hb, hml, hown, hts⟩ hK hP hS (c_X9_look l E σa h0 g0 (by omega)) (cwV 0 hts gX9_times_X9_look rfl rfl rfl (by decide +kernel) ⟨by show 0 + 1 ≤ 10 + rk; omega, by show 8 + (1 + 11) + 0 ≤ 300 + 60 * rk; omega⟩) (g0.1) rfl rfl hl.1 rfl (Nat.le_of_ble_eq_true rfl) dX9_times_39 ⟨Nat.zero_le _, Nat.zero_le _⟩ (fun r5 H locs f5 hP1 hS1 => ?_)
          replace hP := hP1
          replace hS := hS1
          clear hP1 hS1
          have hk9 := zz_look_T f5.1 (hT.keep (fun k => hC _ _ (by first | (dsimp only; omega) | omega))) (by omega)
          refine lv_istore_n (lv' := [(1, .int r5), (0, .ref h0)]) hx hb dX9_times_42 rfl hl (by decide) rfl (fun ls hl => ?_)
          refine lv_aload_n hx hb dX9_times_43 rfl (lv_at hl 1 rfl) ?_
          refine lv_dup hx hb dX9_times_44 rfl ?_
          refine zz_geti hx hb hts hi9 hown hK hP (g0.1) rfl 12 (by decide) (hts (.fieldLink RX9 116 "NoonLawModel" "here" "I") (List.mem_cons_of_mem _ bm_512)) rfl rfl rfl dX9_times_45 ?_
          refine lv_iconst (v := 1) hx hb dX9_times_48 (by decide) ?_
          refine lv_iadd hx hb dX9_times_49 ?_
          refine lv_topi (fun n6 e6 => ?_)
          have f6 : n6.toInt = (σa h0 12).toInt + (1 : Int32).toInt := zz_addT e6 (by omega) (by omega)
          refine zz_puti (v := n6) (ty := .int) hx hb hts hi9 tyX9 tyX9_ok nmX9 hown hK hP hS (g0.1) rfl 12 (by decide) (hts (.fieldLink RX9 116 "NoonLawModel" "here" "I") (List.mem_cons_of_mem _ bm_512)) rfl rfl (by decide +kernel) rfl rfl rfl dX9_times_50 (fun σ7 H locs w7 hP1 hS1 => ?_)
          replace hP := hP1
          replace hS := hS1
          clear hP1 hS1
          replace hC := hC.u w7 (dS29_5 h0)
          refine lv_aload_n hx hb dX9_times_53 rfl (lv_at hl 1 rfl) ?_
          obtain ⟨nc8, hc8, C8⟩ := HN (by first | trivial | omega)
          refine zz_callVv (As := []) (rest := []) ⟨hx, hb, hml, hown, hts⟩ hK hP hS (C8 σ7 h0 g0 (by exact hPG.sign f4_0 (by omega) (by omega) w7 (by omega)) (by exact (hT.keep (fun k => hC _ _ (by first | (dsimp only; omega) | omega)))) (by rw [hC _ _ (by first | (dsimp only; omega) | omega)]; exact hus) (by exact hu1) (by rw [w7, zz_un (by omega)]; omega)) (cwV 0 hts gX9_times_X9_one rfl rfl rfl (by decide +kernel) ⟨by show 10 + nc8 + 1 ≤ 10 + rk; omega, by show 8 + (3 + 11) + (300 + 60 * nc8) ≤ 300 + 60 * rk; omega⟩) (g0.1) rfl rfl hl.1 rfl (Nat.le_of_ble_eq_true rfl) dX9_times_54 ⟨Nat.zero_le _, Nat.zero_le _⟩ (fun σ8 H locs q8 hP1 hS1 => ?_)
          replace hP := hP1
          replace hS := hS1
          clear hP1 hS1
          try dsimp only at q8
          obtain ⟨w8, f8⟩ := q8
          replace hC := hC.tr (w8.mono (dS29_7 h0))
          refine lv_aload_n hx hb dX9_times_57 rfl (lv_at hl 1 rfl) ?_
          refine lv_iload_n hx hb dX9_times_58 rfl (lv_at hl 0 rfl) ?_
          refine lv_iconst (v := 0) hx hb dX9_times_59 (by decide) ?_
          refine zz_callVv (As := [.int r5, .int 0]) (rest := []) ⟨hx, hb, hml, hown, hts⟩ hK hP hS (c_X9_step l E σ8 h0 r5 0 g0 (by have h9 := f8.1.nums; omega)) (cwV 2 hts gX9_times_X9_step rfl rfl rfl (by decide +kernel) ⟨by show 0 + 1 ≤ 10 + rk; omega, by show 8 + (3 + 11) + 0 ≤ 300 + 60 * rk; omega⟩) (g0.1) rfl rfl hl.1 rfl (Nat.le_of_ble_eq_true rfl) dX9_times_60 ⟨Nat.zero_le _, Nat.zero_le _⟩ (fun σ9 H locs q9 hP1 hS1 => ?_)
          replace hP := hP1
          replace hS := hS1
          clear hP1 hS1
          try dsimp only at q9
          obtain ⟨w9, f9⟩ := q9
          replace hC := hC.tr (w9.mono (dS29_3 h0))
          refine lv_goto (tgt := 4) hx hb dX9_times_63 (by decide) ?_
          exact ih4 σ9 _ _ _ (by have h9 := f8.1.nums; have h8 := zz_uT w7; have h7 := congrArg Int32.toInt f9.same.1; omega) hC (by exact zz_PP.bin hPG f4_0 (by omega) w7 (by omega) f8.1 f9 (by omega)) (by have h9 := f8.1.nums; have h8 := zz_uT w7; exact f4_1.next (by omega) (zz_lvl_y4 (by omega)) (by omega) w7 (by omega) f8.2 (by rw [show (4 + 1 : Int) = 5 from by decide, zz_lw_5 (w := 5) rfl]) (by omega) (by omega) f9 (by omega) k_0) hP hS (lv_sub hl [1] rfl)
        · have c4 := zz_neT c4
          refine lv_aload_n hx hb dX9_times_20 rfl (lv_at hl 0 rfl) ?_
          refine zz_callVp (As := []) (rest := []) ⟨hx, hb, hml, hown, hts⟩ hK hP hS (c_X9_look l E σa h0 g0 (by omega)) (cwV 0 hts gX9_times_X9_look rfl rfl rfl (by decide +kernel) ⟨by show 0 + 1 ≤ 10 + rk; omega, by show 8 + (1 + 11) + 0 ≤ 300 + 60 * rk; omega⟩) (g0.1) rfl rfl hl.1 rfl (Nat.le_of_ble_eq_true rfl) dX9_times_21 ⟨Nat.zero_le _, Nat.zero_le _⟩ (fun r10 H locs f10 hP1 hS1 => ?_)
          replace hP := hP1
          replace hS := hS1
          clear hP1 hS1
          have hk24 := zz_look_T f10.1 (hT.keep (fun k => hC _ _ (by first | (dsimp only; omega) | omega))) (by omega)
          refine lv_bipush (v := 47) hx hb dX9_times_24 (by decide) ?_
          refine lv_icmp_eq (tgt := 38) hx hb dX9_times_26 (by decide) (fun c11 => ?_) (fun c11 => ?_)
          · have c11 := zz_eqT c11
            refine lv_aload_n hx hb dX9_times_38 rfl (lv_at hl 0 rfl) ?_
            refine zz_callVp (As := []) (rest := []) ⟨hx, hb, hml, hown, hts⟩ hK hP hS (c_X9_look l E σa h0 g0 (by omega)) (cwV 0 hts gX9_times_X9_look rfl rfl rfl (by decide +kernel) ⟨by show 0 + 1 ≤ 10 + rk; omega, by show 8 + (1 + 11) + 0 ≤ 300 + 60 * rk; omega⟩) (g0.1) rfl rfl hl.1 rfl (Nat.le_of_ble_eq_true rfl) dX9_times_39 ⟨Nat.zero_le _, Nat.zero_le _⟩ (fun r12 H locs f12 hP1 hS1 => ?_)
            replace hP := hP1
            replace hS := hS1
            clear hP1 hS1
            have hk9 := zz_look_T f12.1 (hT.keep (fun k => hC _ _ (by first | (dsimp only; omega) | omega))) (by omega)
            refine lv_istore_n (lv' := [(1, .int r12), (0, .ref h0)]) hx hb dX9_times_42 rfl hl (by decide) rfl (fun ls hl => ?_)
            refine lv_aload_n hx hb dX9_times_43 rfl (lv_at hl 1 rfl) ?_
            refine lv_dup hx hb dX9_times_44 rfl ?_
            refine zz_geti hx hb hts hi9 hown hK hP (g0.1) rfl 12 (by decide) (hts (.fieldLink RX9 116 "NoonLawModel" "here" "I") (List.mem_cons_of_mem _ bm_512)) rfl rfl rfl dX9_times_45 ?_
            refine lv_iconst (v := 1) hx hb dX9_times_48 (by decide) ?_
            refine lv_iadd hx hb dX9_times_49 ?_
            refine lv_topi (fun n13 e13 => ?_)
            have f13 : n13.toInt = (σa h0 12).toInt + (1 : Int32).toInt := zz_addT e13 (by omega) (by omega)
            refine zz_puti (v := n13) (ty := .int) hx hb hts hi9 tyX9 tyX9_ok nmX9 hown hK hP hS (g0.1) rfl 12 (by decide) (hts (.fieldLink RX9 116 "NoonLawModel" "here" "I") (List.mem_cons_of_mem _ bm_512)) rfl rfl (by decide +kernel) rfl rfl rfl dX9_times_50 (fun σ14 H locs w14 hP1 hS1 => ?_)
            replace hP := hP1
            replace hS := hS1
            clear hP1 hS1
            replace hC := hC.u w14 (dS29_5 h0)
            refine lv_aload_n hx hb dX9_times_53 rfl (lv_at hl 1 rfl) ?_
            obtain ⟨nc15, hc15, C15⟩ := HN (by first | trivial | omega)
            refine zz_callVv (As := []) (rest := []) ⟨hx, hb, hml, hown, hts⟩ hK hP hS (C15 σ14 h0 g0 (by exact hPG.sign f4_0 (by omega) (by omega) w14 (by omega)) (by exact (hT.keep (fun k => hC _ _ (by first | (dsimp only; omega) | omega)))) (by rw [hC _ _ (by first | (dsimp only; omega) | omega)]; exact hus) (by exact hu1) (by rw [w14, zz_un (by omega)]; omega)) (cwV 0 hts gX9_times_X9_one rfl rfl rfl (by decide +kernel) ⟨by show 10 + nc15 + 1 ≤ 10 + rk; omega, by show 8 + (3 + 11) + (300 + 60 * nc15) ≤ 300 + 60 * rk; omega⟩) (g0.1) rfl rfl hl.1 rfl (Nat.le_of_ble_eq_true rfl) dX9_times_54 ⟨Nat.zero_le _, Nat.zero_le _⟩ (fun σ15 H locs q15 hP1 hS1 => ?_)
            replace hP := hP1
            replace hS := hS1
            clear hP1 hS1
            try dsimp only at q15
            obtain ⟨w15, f15⟩ := q15
            replace hC := hC.tr (w15.mono (dS29_7 h0))
            refine lv_aload_n hx hb dX9_times_57 rfl (lv_at hl 1 rfl) ?_
            refine lv_iload_n hx hb dX9_times_58 rfl (lv_at hl 0 rfl) ?_
            refine lv_iconst (v := 0) hx hb dX9_times_59 (by decide) ?_
            refine zz_callVv (As := [.int r12, .int 0]) (rest := []) ⟨hx, hb, hml, hown, hts⟩ hK hP hS (c_X9_step l E σ15 h0 r12 0 g0 (by have h9 := f15.1.nums; omega)) (cwV 2 hts gX9_times_X9_step rfl rfl rfl (by decide +kernel) ⟨by show 0 + 1 ≤ 10 + rk; omega, by show 8 + (3 + 11) + 0 ≤ 300 + 60 * rk; omega⟩) (g0.1) rfl rfl hl.1 rfl (Nat.le_of_ble_eq_true rfl) dX9_times_60 ⟨Nat.zero_le _, Nat.zero_le _⟩ (fun σ16 H locs q16 hP1 hS1 => ?_)
            replace hP := hP1
            replace hS := hS1
            clear hP1 hS1
            try dsimp only at q16
            obtain ⟨w16, f16⟩ := q16
            replace hC := hC.tr (w16.mono (dS29_3 h0))
            refine lv_goto (tgt := 4) hx hb dX9_times_63 (by decide) ?_
            exact ih4 σ16 _ _ _ (by have h9 := f15.1.nums; have h8 := zz_uT w14; have h7 := congrArg Int32.toInt f16.same.1; omega) hC (by exact zz_PP.bin hPG f4_0 (by omega) w14 (by omega) f15.1 f16 (by omega)) (by have h9 := f15.1.nums; have h8 := zz_uT w14; exact f4_1.next (by omega) (zz_lvl_y4 (by omega)) (by omega) w14 (by omega) f15.2 (by rw [show (4 + 1 : Int) = 5 from by decide, zz_lw_5 (w := 5) rfl]) (by omega) (by omega) f16 (by omega) k_0) hP hS (lv_sub hl [1] rfl)
          · have c11 := zz_neT c11
            refine lv_aload_n hx hb dX9_times_29 rfl (lv_at hl 0 rfl) ?_
            refine zz_callVp (As := []) (rest := []) ⟨hx, hb, hml, hown, hts⟩ hK hP hS (c_X9_look l E σa h0 g0 (by omega)) (cwV 0 hts gX9_times_X9_look rfl rfl rfl (by decide +kernel) ⟨by show 0 + 1 ≤ 10 + rk; omega, by show 8 + (1 + 11) + 0 ≤ 300 + 60 * rk; omega⟩) (g0.1) rfl rfl hl.1 rfl (Nat.le_of_ble_eq_true rfl) dX9_times_30 ⟨Nat.zero_le _, Nat.zero_le _⟩ (fun r17 H locs f17 hP1 hS1 => ?_)
            replace hP := hP1
            replace hS := hS1
            clear hP1 hS1
            have hk33 := zz_look_T f17.1 (hT.keep (fun k => hC _ _ (by first | (dsimp only; omega) | omega))) (by omega)
            refine lv_bipush (v := 37) hx hb dX9_times_33 (by decide) ?_
            refine lv_icmp_ne (tgt := 66) hx hb dX9_times_35 (by decide) (fun c18 => ?_) (fun c18 => ?_)
            · have c18 := zz_neT c18
              exact zz_vret hx hb hr hlocks hK hP hS dX9_times_66 (by exact ⟨hC, f4_0, f4_1.stop (Or.inr (zz_lvl_n4 (by omega) (by omega) (by omega)))⟩)
            · have c18 := zz_eqT c18
              refine lv_aload_n hx hb dX9_times_38 rfl (lv_at hl 0 rfl) ?_
              refine zz_callVp (As := []) (rest := []) ⟨hx, hb, hml, hown, hts⟩ hK hP hS (c_X9_look l E σa h0 g0 (by omega)) (cwV 0 hts gX9_times_X9_look rfl rfl rfl (by decide +kernel) ⟨by show 0 + 1 ≤ 10 + rk; omega, by show 8 + (1 + 11) + 0 ≤ 300 + 60 * rk; omega⟩) (g0.1) rfl rfl hl.1 rfl (Nat.le_of_ble_eq_true rfl) dX9_times_39 ⟨Nat.zero_le _, Nat.zero_le _⟩ (fun r19 H locs f19 hP1 hS1 => ?_)
              replace hP := hP1
              replace hS := hS1
              clear hP1 hS1
              have hk9 := zz_look_T f19.1 (hT.keep (fun k => hC _ _ (by first | (dsimp only; omega) | omega))) (by omega)
              refine lv_istore_n (lv' := [(1, .int r19), (0, .ref h0)]) hx hb dX9_times_42 rfl hl (by decide) rfl (fun ls hl => ?_)
              refine lv_aload_n hx hb dX9_times_43 rfl (lv_at hl 1 rfl) ?_
              refine lv_dup hx hb dX9_times_44 rfl ?_
              refine zz_geti hx hb hts hi9 hown hK hP (g0.1) rfl 12 (by decide) (hts (.fieldLink RX9 116 "NoonLawModel" "here" "I") (List.mem_cons_of_mem _ bm_512)) rfl rfl rfl dX9_times_45 ?_
              refine lv_iconst (v := 1) hx hb dX9_times_48 (by decide) ?_
              refine lv_iadd hx hb dX9_times_49 ?_
              refine lv_topi (fun n20 e20 => ?_)
              have f20 : n20.toInt = (σa h0 12).toInt + (1 : Int32).toInt := zz_addT e20 (by omega) (by omega)
              refine zz_puti (v := n20) (ty := .int) hx hb hts hi9 tyX9 tyX9_ok nmX9 hown hK hP hS (g0.1) rfl 12 (by decide) (hts (.fieldLink RX9 116 "NoonLawModel" "here" "I") (List.mem_cons_of_mem _ bm_512)) rfl rfl (by decide +kernel) rfl rfl rfl dX9_times_50 (fun σ21 H locs w21 hP1 hS1 => ?_)
              replace hP := hP1
              replace hS := hS1
              clear hP1 hS1
              replace hC := hC.u w21 (dS29_5 h0)
              refine lv_aload_n hx hb dX9_times_53 rfl (lv_at hl 1 rfl) ?_
              obtain ⟨nc22, hc22, C22⟩ := HN (by first | trivial | omega)
              refine zz_callVv (As := []) (rest := []) ⟨hx, hb, hml, hown, hts⟩ hK hP hS (C22 σ21 h0 g0 (by exact hPG.sign f4_0 (by omega) (by omega) w21 (by omega)) (by exact (hT.keep (fun k => hC _ _ (by first | (dsimp only; omega) | omega)))) (by rw [hC _ _ (by first | (dsimp only; omega) | omega)]; exact hus) (by exact hu1) (by rw [w21, zz_un (by omega)]; omega)) (cwV 0 hts gX9_times_X9_one rfl rfl rfl (by decide +kernel) ⟨by show 10 + nc22 + 1 ≤ 10 + rk; omega, by show 8 + (3 + 11) + (300 + 60 * nc22) ≤ 300 + 60 * rk; omega⟩) (g0.1) rfl rfl hl.1 rfl (Nat.le_of_ble_eq_true rfl) dX9_times_54 ⟨Nat.zero_le _, Nat.zero_le _⟩ (fun σ22 H locs q22 hP1 hS1 => ?_)
              replace hP := hP1
              replace hS := hS1
              clear hP1 hS1
              try dsimp only at q22
              obtain ⟨w22, f22⟩ := q22
              replace hC := hC.tr (w22.mono (dS29_7 h0))
              refine lv_aload_n hx hb dX9_times_57 rfl (lv_at hl 1 rfl) ?_
              refine lv_iload_n hx hb dX9_times_58 rfl (lv_at hl 0 rfl) ?_
              refine lv_iconst (v := 0) hx hb dX9_times_59 (by decide) ?_
              refine zz_callVv (As := [.int r19, .int 0]) (rest := []) ⟨hx, hb, hml, hown, hts⟩ hK hP hS (c_X9_step l E σ22 h0 r19 0 g0 (by have h9 := f22.1.nums; omega)) (cwV 2 hts gX9_times_X9_step rfl rfl rfl (by decide +kernel) ⟨by show 0 + 1 ≤ 10 + rk; omega, by show 8 + (3 + 11) + 0 ≤ 300 + 60 * rk; omega⟩) (g0.1) rfl rfl hl.1 rfl (Nat.le_of_ble_eq_true rfl) dX9_times_60 ⟨Nat.zero_le _, Nat.zero_le _⟩ (fun σ23 H locs q23 hP1 hS1 => ?_)
              replace hP := hP1
              replace hS := hS1
              clear hP1 hS1
              try dsimp only at q23
              obtain ⟨w23, f23⟩ := q23
              replace hC := hC.tr (w23.mono (dS29_3 h0))
              refine lv_goto (tgt := 4) hx hb dX9_times_63 (by decide) ?_
              exact ih4 σ23 _ _ _ (by have h9 := f22.1.nums; have h8 := zz_uT w21; have h7 := congrArg Int32.toInt f23.same.1; omega) hC (by exact zz_PP.bin hPG f4_0 (by omega) w21 (by omega) f22.1 f23 (by omega)) (by have h9 := f22.1.nums; have h8 := zz_uT w21; exact f4_1.next (by omega) (zz_lvl_y4 (by omega)) (by omega) w21 (by omega) f22.2 (by rw [show (4 + 1 : Int) = 5 from by decide, zz_lw_5 (w := 5) rfl]) (by omega) (by omega) f23 (by omega) k_0) hP hS (lv_sub hl [1] rfl)
  exact J4 _ σ1 _ _ _ (Nat.lt_succ_self _) hC (by exact f1.1) (by have h9 := f1.1.nums; exact f1.2.l9 (w := 4) (by rw [show (4 + 1 : Int) = 5 from by decide, zz_lw_5 (w := 5) rfl]) (by decide) (by omega)) hP hS (lv_sub hl [0] rfl)
theorem gX9_sum_X9_times : GoodIn wzX9_sum (wsV RX9 157 RX9 yX9_times wzX9_times) := wz_co bm_555 (wz_co bm_556 (wz_co bm_557 (wz_co bm_5 (wz_in bm_558))))
theorem gX9_sum_X9_look : GoodIn wzX9_sum (wsV RX9 126 RX9 yX9_look wzX9_look) := wz_co bm_522 (wz_co bm_523 (wz_co bm_524 (wz_co bm_5 (wz_in bm_525))))
theorem gX9_sum_X9_step : GoodIn wzX9_sum (wsV RX9 134 RX9 yX9_step wzX9_step) := wz_co bm_526 (wz_co bm_527 (wz_co bm_528 (wz_co bm_5 (wz_in bm_529))))
set_option maxHeartbeats 4000000 in
set_option maxRecDepth 100000 in
theorem g_X9_sum (l : Launch) (E : zz_E) (rk : Nat) (T : Int → Int) (us : Int) (v : Int) (h05 : 0 ≤ v ∧ v ≤ 5) (HN : True → ∃ nc : Nat, nc < rk ∧ k_X9_times l E nc T us v) : k_X9_sum l E rk T us v := by
  intro σ h0 g0 hPG hT hus hu1 ho
  refine zz_met (cc := cX9_sum) (maxL := 2) (ret := none) (by decide) rfl (Nat.le_of_ble_eq_true rfl) ?_
  intro p e s m args below meth c ls hx hb hr hts hown hlocks hml hK hP hS hl
  have hl : lv_has ls 2 [(0, .ref h0)] := hl
  have hown : s.vm.findClass RX9 = some m.cls := hown
  have hi9 : ∀ w ∈ wsX90, w ∈ wzX9_sum := fun w h => List.mem_cons_of_mem _ (hbw9 w h)
  have k_0 : (0 : Int32).toInt = 0 := by decide +kernel
  have k_1 : (1 : Int32).toInt = 1 := by decide +kernel
  have k_43 : (43 : Int32).toInt = 43 := by decide +kernel
  have k_45 : (45 : Int32).toInt = 45 := by decide +kernel
  have hC : zz_ch (fun a k => (a = h0 ∧ 11 ≤ k ∧ k ≤ 14) ∨ a = h0 + 7 ∨ a = h0 + 8) σ σ := zz_ch.rf σ
  have hgn := hPG.nums
  refine lv_aload_n hx hb dX9_sum_0 rfl (lv_at hl 0 rfl) ?_
  obtain ⟨nc1, hc1, C1⟩ := HN (by first | trivial | omega)
  refine zz_callVv (As := []) (rest := []) ⟨hx, hb, hml, hown, hts⟩ hK hP hS (C1 σ h0 g0 (by exact hPG) (by exact hT) (by exact hus) (by exact hu1) (by exact ho)) (cwV 0 hts gX9_sum_X9_times rfl rfl rfl (by decide +kernel) ⟨by show 10 + nc1 + 1 ≤ 10 + rk; omega, by show 8 + (2 + 11) + (300 + 60 * nc1) ≤ 300 + 60 * rk; omega⟩) (g0.1) rfl rfl hl.1 rfl (Nat.le_of_ble_eq_true rfl) dX9_sum_1 ⟨Nat.zero_le _, Nat.zero_le _⟩ (fun σ1 H locs q1 hP1 hS1 => ?_)
  replace hP := hP1
  replace hS := hS1
  clear hP1 hS1
  try dsimp only at q1
  obtain ⟨w1, f1⟩ := q1
  replace hC := hC.tr (w1.mono (dS29_7 h0))
  have J4 : ∀ (n : Nat) (σa : zz_S) (H : Heap) (locs : List Loc) (ls : Array Slot), ((60 - (σa h0 12).toInt).toNat) < n → (zz_ch (fun a k => (a = h0 ∧ 11 ≤ k ∧ k ≤ 14) ∨ a = h0 + 7 ∨ a = h0 + 8) σ σa) → (zz_PP σ σa h0) → (zz_l9 T (fun q => zz_uq T us (5 - v).toNat q) 3 σ σa h0 (zz_lw T (fun q => zz_uq T us (5 - v).toNat q) 3 (σ h0 12).toInt)) → zz_P E σa H → va_S (zz_A E) s.heap H locs → lv_has ls 2 [(0, .ref h0)] → W p l e (headSpec wzX9_sum (zz_rm rk)).room s m args below meth c H locs 0 0 (MQ below (va_Qv (fun σ1 => zz_ch (fun a k => (a = h0 ∧ 11 ≤ k ∧ k ≤ 14) ∨ a = h0 + 7 ∨ a = h0 + 8) σ σ1 ∧ (zz_PP σ σ1 h0 ∧ zz_q9 σ σ1 h0 (zz_lw T (fun q => zz_uq T us (5 - v).toNat q) 3 (σ h0 12).toInt))) (zz_B E) (zz_A E)) args s 0 0 (zz_A E)) (F0 m 4 ls []) := by
    intro n
    induction n with
    | zero => intro σa H locs ls hm; exact absurd hm (Nat.not_lt_zero _)
    | succ n ih4 =>
      intro σa H locs ls hm hC f4_0 f4_1 hP hS hl
      have hpn := f4_0.nums
      refine lv_aload_n hx hb dX9_sum_4 rfl (lv_at hl 0 rfl) ?_
      refine zz_geti hx hb hts hi9 hown hK hP (g0.1) rfl 14 (by decide) (hts (.fieldLink RX9 130 "NoonLawModel" "bad" "Z") (List.mem_cons_of_mem _ bm_514)) rfl rfl rfl dX9_sum_5 ?_
      refine lv_if_ne (tgt := 57) hx hb dX9_sum_8 (by decide) (fun c2 => ?_) (fun c2 => ?_)
      · have c2 := zz_neT c2
        exact zz_vret hx hb hr hlocks hK hP hS dX9_sum_57 (by exact ⟨hC, f4_0, f4_1.stop (Or.inl (by omega))⟩)
      · have c2 := zz_eqT c2
        refine lv_aload_n hx hb dX9_sum_11 rfl (lv_at hl 0 rfl) ?_
        refine zz_callVp (As := []) (rest := []) ⟨hx, hb, hml, hown, hts⟩ hK hP hS (c_X9_look l E σa h0 g0 (by omega)) (cwV 0 hts gX9_sum_X9_look rfl rfl rfl (by decide +kernel) ⟨by show 0 + 1 ≤ 10 + rk; omega, by show 8 + (1 + 11) + 0 ≤ 300 + 60 * rk; omega⟩) (g0.1) rfl rfl hl.1 rfl (Nat.le_of_ble_eq_true rfl) dX9_sum_12 ⟨Nat.zero_le _, Nat.zero_le _⟩ (fun r3 H locs f3 hP1 hS1 => ?_)
        replace hP := hP1
        replace hS := hS1
        clear hP1 hS1
        have hk15 := zz_look_T f3.1 (hT.keep (fun k => hC _ _ (by first | (dsimp only; omega) | omega))) (by omega)
        refine lv_bipush (v := 43) hx hb dX9_sum_15 (by decide) ?_
        refine lv_icmp_eq (tgt := 29) hx hb dX9_sum_17 (by decide) (fun c4 => ?_) (fun c4 => ?_)
        · have c4 := zz_eqT c4
          refine lv_aload_n hx hb dX9_sum_29 rfl (lv_at hl 0 rfl) ?_
          refine zz_callVp (As := []) (rest := []) ⟨hx, hb, hml, hown, hts⟩ hK hP hS (c_X9_look l E σa h0 g0 (by omega)) (cwV 0 hts gX9_sum_X9_look rfl rfl rfl (by decide +kernel) ⟨by show 0 + 1 ≤ 10 + rk; omega, by show 8 + (1 + 11) + 0 ≤ 300 + 60 * rk; omega⟩) (g0.1) rfl rfl hl.1 rfl (Nat.le_of_ble_eq_true rfl) dX9_sum_30 ⟨Nat.zero_le _, Nat.zero_le _⟩ (fun r5 H locs f5 hP1 hS1 => ?_)
          replace hP := hP1
          replace hS := hS1
          clear hP1 hS1
          have hk9 := zz_look_T f5.1 (hT.keep (fun k => hC _ _ (by first | (dsimp only; omega) | omega))) (by omega)
          refine lv_istore_n (lv' := [(1, .int r5), (0, .ref h0)]) hx hb dX9_sum_33 rfl hl (by decide) rfl (fun ls hl => ?_)
          refine lv_aload_n hx hb dX9_sum_34 rfl (lv_at hl 1 rfl) ?_
          refine lv_dup hx hb dX9_sum_35 rfl ?_
          refine zz_geti hx hb hts hi9 hown hK hP (g0.1) rfl 12 (by decide) (hts (.fieldLink RX9 116 "NoonLawModel" "here" "I") (List.mem_cons_of_mem _ bm_512)) rfl rfl rfl dX9_sum_36 ?_
          refine lv_iconst (v := 1) hx hb dX9_sum_39 (by decide) ?_
          refine lv_iadd hx hb dX9_sum_40 ?_
          refine lv_topi (fun n6 e6 => ?_)
          have f6 : n6.toInt = (σa h0 12).toInt + (1 : Int32).toInt := zz_addT e6 (by omega) (by omega)
          refine zz_puti (v := n6) (ty := .int) hx hb hts hi9 tyX9 tyX9_ok nmX9 hown hK hP hS (g0.1) rfl 12 (by decide) (hts (.fieldLink RX9 116 "NoonLawModel" "here" "I") (List.mem_cons_of_mem _ bm_512)) rfl rfl (by decide +kernel) rfl rfl rfl dX9_sum_41 (fun σ7 H locs w7 hP1 hS1 => ?_)
          replace hP := hP1
          replace hS := hS1
          clear hP1 hS1
          replace hC := hC.u w7 (dS29_5 h0)
          refine lv_aload_n hx hb dX9_sum_44 rfl (lv_at hl 1 rfl) ?_
          obtain ⟨nc8, hc8, C8⟩ := HN (by first | trivial | omega)
          refine zz_callVv (As := []) (rest := []) ⟨hx, hb, hml, hown, hts⟩ hK hP hS (C8 σ7 h0 g0 (by exact hPG.sign f4_0 (by omega) (by omega) w7 (by omega)) (by exact (hT.keep (fun k => hC _ _ (by first | (dsimp only; omega) | omega)))) (by rw [hC _ _ (by first | (dsimp only; omega) | omega)]; exact hus) (by exact hu1) (by rw [w7, zz_un (by omega)]; omega)) (cwV 0 hts gX9_sum_X9_times rfl rfl rfl (by decide +kernel) ⟨by show 10 + nc8 + 1 ≤ 10 + rk; omega, by show 8 + (2 + 11) + (300 + 60 * nc8) ≤ 300 + 60 * rk; omega⟩) (g0.1) rfl rfl hl.1 rfl (Nat.le_of_ble_eq_true rfl) dX9_sum_45 ⟨Nat.zero_le _, Nat.zero_le _⟩ (fun σ8 H locs q8 hP1 hS1 => ?_)
          replace hP := hP1
          replace hS := hS1
          clear hP1 hS1
          try dsimp only at q8
          obtain ⟨w8, f8⟩ := q8
          replace hC := hC.tr (w8.mono (dS29_7 h0))
          refine lv_aload_n hx hb dX9_sum_48 rfl (lv_at hl 1 rfl) ?_
          refine lv_iload_n hx hb dX9_sum_49 rfl (lv_at hl 0 rfl) ?_
          refine lv_iconst (v := 0) hx hb dX9_sum_50 (by decide) ?_
          refine zz_callVv (As := [.int r5, .int 0]) (rest := []) ⟨hx, hb, hml, hown, hts⟩ hK hP hS (c_X9_step l E σ8 h0 r5 0 g0 (by have h9 := f8.1.nums; omega)) (cwV 2 hts gX9_sum_X9_step rfl rfl rfl (by decide +kernel) ⟨by show 0 + 1 ≤ 10 + rk; omega, by show 8 + (3 + 11) + 0 ≤ 300 + 60 * rk; omega⟩) (g0.1) rfl rfl hl.1 rfl (Nat.le_of_ble_eq_true rfl) dX9_sum_51 ⟨Nat.zero_le _, Nat.zero_le _⟩ (fun σ9 H locs q9 hP1 hS1 => ?_)
          replace hP := hP1
          replace hS := hS1
          clear hP1 hS1
          try dsimp only at q9
          obtain ⟨w9, f9⟩ := q9
          replace hC := hC.tr (w9.mono (dS29_3 h0))
          refine lv_goto (tgt := 4) hx hb dX9_sum_54 (by decide) ?_
          exact ih4 σ9 _ _ _ (by have h9 := f8.1.nums; have h8 := zz_uT w7; have h7 := congrArg Int32.toInt f9.same.1; omega) hC (by exact zz_PP.bin hPG f4_0 (by omega) w7 (by omega) f8.1 f9 (by omega)) (by have h9 := f8.1.nums; have h8 := zz_uT w7; exact f4_1.next (by omega) (zz_lvl_y3 (by omega)) (by omega) w7 (by omega) f8.2 (by rw [show (3 + 1 : Int) = 4 from by decide]) (by omega) (by omega) f9 (by omega) k_0) hP hS (lv_sub hl [1] rfl)
        · have c4 := zz_neT c4
          refine lv_aload_n hx hb dX9_sum_20 rfl (lv_at hl 0 rfl) ?_
          refine zz_callVp (As := []) (rest := []) ⟨hx, hb, hml, hown, hts⟩ hK hP hS (c_X9_look l E σa h0 g0 (by omega)) (cwV 0 hts gX9_sum_X9_look rfl rfl rfl (by decide +kernel) ⟨by show 0 + 1 ≤ 10 + rk; omega, by show 8 + (1 + 11) + 0 ≤ 300 + 60 * rk; omega⟩) (g0.1) rfl rfl hl.1 rfl (Nat.le_of_ble_eq_true rfl) dX9_sum_21 ⟨Nat.zero_le _, Nat.zero_le _⟩ (fun r10 H locs f10 hP1 hS1 => ?_)
          replace hP := hP1
          replace hS := hS1
          clear hP1 hS1
          have hk24 := zz_look_T f10.1 (hT.keep (fun k => hC _ _ (by first | (dsimp only; omega) | omega))) (by omega)
          refine lv_bipush (v := 45) hx hb dX9_sum_24 (by decide) ?_
          refine lv_icmp_ne (tgt := 57) hx hb dX9_sum_26 (by decide) (fun c11 => ?_) (fun c11 => ?_)
          · have c11 := zz_neT c11
            exact zz_vret hx hb hr hlocks hK hP hS dX9_sum_57 (by exact ⟨hC, f4_0, f4_1.stop (Or.inr (zz_lvl_n3 (by omega) (by omega)))⟩)
          · have c11 := zz_eqT c11
            refine lv_aload_n hx hb dX9_sum_29 rfl (lv_at hl 0 rfl) ?_
            refine zz_callVp (As := []) (rest := []) ⟨hx, hb, hml, hown, hts⟩ hK hP hS (c_X9_look l E σa h0 g0 (by omega)) (cwV 0 hts gX9_sum_X9_look rfl rfl rfl (by decide +kernel) ⟨by show 0 + 1 ≤ 10 + rk; omega, by show 8 + (1 + 11) + 0 ≤ 300 + 60 * rk; omega⟩) (g0.1) rfl rfl hl.1 rfl (Nat.le_of_ble_eq_true rfl) dX9_sum_30 ⟨Nat.zero_le _, Nat.zero_le _⟩ (fun r12 H locs f12 hP1 hS1 => ?_)
            replace hP := hP1
            replace hS := hS1
            clear hP1 hS1
            have hk9 := zz_look_T f12.1 (hT.keep (fun k => hC _ _ (by first | (dsimp only; omega) | omega))) (by omega)
            refine lv_istore_n (lv' := [(1, .int r12), (0, .ref h0)]) hx hb dX9_sum_33 rfl hl (by decide) rfl (fun ls hl => ?_)
            refine lv_aload_n hx hb dX9_sum_34 rfl (lv_at hl 1 rfl) ?_
            refine lv_dup hx hb dX9_sum_35 rfl ?_
            refine zz_geti hx hb hts hi9 hown hK hP (g0.1) rfl 12 (by decide) (hts (.fieldLink RX9 116 "NoonLawModel" "here" "I") (List.mem_cons_of_mem _ bm_512)) rfl rfl rfl dX9_sum_36 ?_
            refine lv_iconst (v := 1) hx hb dX9_sum_39 (by decide) ?_
            refine lv_iadd hx hb dX9_sum_40 ?_
            refine lv_topi (fun n13 e13 => ?_)
            have f13 : n13.toInt = (σa h0 12).toInt + (1 : Int32).toInt := zz_addT e13 (by omega) (by omega)
            refine zz_puti (v := n13) (ty := .int) hx hb hts hi9 tyX9 tyX9_ok nmX9 hown hK hP hS (g0.1) rfl 12 (by decide) (hts (.fieldLink RX9 116 "NoonLawModel" "here" "I") (List.mem_cons_of_mem _ bm_512)) rfl rfl (by decide +kernel) rfl rfl rfl dX9_sum_41 (fun σ14 H locs w14 hP1 hS1 => ?_)
            replace hP := hP1
            replace hS := hS1
            clear hP1 hS1
            replace hC := hC.u w14 (dS29_5 h0)
            refine lv_aload_n hx hb dX9_sum_44 rfl (lv_at hl 1 rfl) ?_
            obtain ⟨nc15, hc15, C15⟩ := HN (by first | trivial | omega)
            refine zz_callVv (As := []) (rest := []) ⟨hx, hb, hml, hown, hts⟩ hK hP hS (C15 σ14 h0 g0 (by exact hPG.sign f4_0 (by omega) (by omega) w14 (by omega)) (by exact (hT.keep (fun k => hC _ _ (by first | (dsimp only; omega) | omega)))) (by rw [hC _ _ (by first | (dsimp only; omega) | omega)]; exact hus) (by exact hu1) (by rw [w14, zz_un (by omega)]; omega)) (cwV 0 hts gX9_sum_X9_times rfl rfl rfl (by decide +kernel) ⟨by show 10 + nc15 + 1 ≤ 10 + rk; omega, by show 8 + (2 + 11) + (300 + 60 * nc15) ≤ 300 + 60 * rk; omega⟩) (g0.1) rfl rfl hl.1 rfl (Nat.le_of_ble_eq_true rfl) dX9_sum_45 ⟨Nat.zero_le _, Nat.zero_le _⟩ (fun σ15 H locs q15 hP1 hS1 => ?_)
            replace hP := hP1
            replace hS := hS1
            clear hP1 hS1
            try dsimp only at q15
            obtain ⟨w15, f15⟩ := q15
            replace hC := hC.tr (w15.mono (dS29_7 h0))
            refine lv_aload_n hx hb dX9_sum_48 rfl (lv_at hl 1 rfl) ?_
            refine lv_iload_n hx hb dX9_sum_49 rfl (lv_at hl 0 rfl) ?_
            refine lv_iconst (v := 0) hx hb dX9_sum_50 (by decide) ?_
            refine zz_callVv (As := [.int r12, .int 0]) (rest := []) ⟨hx, hb, hml, hown, hts⟩ hK hP hS (c_X9_step l E σ15 h0 r12 0 g0 (by have h9 := f15.1.nums; omega)) (cwV 2 hts gX9_sum_X9_step rfl rfl rfl (by decide +kernel) ⟨by show 0 + 1 ≤ 10 + rk; omega, by show 8 + (3 + 11) + 0 ≤ 300 + 60 * rk; omega⟩) (g0.1) rfl rfl hl.1 rfl (Nat.le_of_ble_eq_true rfl) dX9_sum_51 ⟨Nat.zero_le _, Nat.zero_le _⟩ (fun σ16 H locs q16 hP1 hS1 => ?_)
            replace hP := hP1
            replace hS := hS1
            clear hP1 hS1
            try dsimp only at q16
            obtain ⟨w16, f16⟩ := q16
            replace hC := hC.tr (w16.mono (dS29_3 h0))
            refine lv_goto (tgt := 4) hx hb dX9_sum_54 (by decide) ?_
            exact ih4 σ16 _ _ _ (by have h9 := f15.1.nums; have h8 := zz_uT w14; have h7 := congrArg Int32.toInt f16.same.1; omega) hC (by exact zz_PP.bin hPG f4_0 (by omega) w14 (by omega) f15.1 f16 (by omega)) (by have h9 := f15.1.nums; have h8 := zz_uT w14; exact f4_1.next (by omega) (zz_lvl_y3 (by omega)) (by omega) w14 (by omega) f15.2 (by rw [show (3 + 1 : Int) = 4 from by decide]) (by omega) (by omega) f16 (by omega) k_0) hP hS (lv_sub hl [1] rfl)
  exact J4 _ σ1 _ _ _ (Nat.lt_succ_self _) hC (by exact f1.1) (by have h9 := f1.1.nums; exact f1.2.l9 (w := 3) (by rw [show (3 + 1 : Int) = 4 from by decide]) (by decide) (by omega)) hP hS (lv_sub hl [0] rfl)
theorem gX9_compares_X9_sum : GoodIn wzX9_compares (wsV RX9 160 RX9 yX9_sum wzX9_sum) := wz_co bm_535 (wz_co bm_536 (wz_co bm_537 (wz_co bm_5 (wz_in bm_554))))
theorem gX9_compares_X9_look : GoodIn wzX9_compares (wsV RX9 126 RX9 yX9_look wzX9_look) := wz_co bm_522 (wz_co bm_523 (wz_co bm_524 (wz_co bm_5 (wz_in bm_525))))
theorem gX9_compares_X9_step : GoodIn wzX9_compares (wsV RX9 134 RX9 yX9_step wzX9_step) := wz_co bm_526 (wz_co bm_527 (wz_co bm_528 (wz_co bm_5 (wz_in bm_529))))
set_option maxHeartbeats 4000000 in
set_option maxRecDepth 100000 in
theorem g_X9_compares (l : Launch) (E : zz_E) (rk : Nat) (T : Int → Int) (us : Int) (v : Int) (h05 : 0 ≤ v ∧ v ≤ 5) (HN : True → ∃ nc : Nat, nc < rk ∧ k_X9_sum l E nc T us v) : k_X9_compares l E rk T us v := by
  intro σ h0 g0 hPG hT hus hu1 ho
  refine zz_met (cc := cX9_compares) (maxL := 2) (ret := none) (by decide) rfl (Nat.le_of_ble_eq_true rfl) ?_
  intro p e s m args below meth c ls hx hb hr hts hown hlocks hml hK hP hS hl
  have hl : lv_has ls 2 [(0, .ref h0)] := hl
  have hown : s.vm.findClass RX9 = some m.cls := hown
  have hi9 : ∀ w ∈ wsX90, w ∈ wzX9_compares := fun w h => List.mem_cons_of_mem _ (hbw9 w h)
  have k_0 : (0 : Int32).toInt = 0 := by decide +kernel
  have k_1 : (1 : Int32).toInt = 1 := by decide +kernel
  have k_60 : (60 : Int32).toInt = 60 := by decide +kernel
  have k_61 : (61 : Int32).toInt = 61 := by decide +kernel
  have k_62 : (62 : Int32).toInt = 62 := by decide +kernel
  have hC : zz_ch (fun a k => (a = h0 ∧ 11 ≤ k ∧ k ≤ 14) ∨ a = h0 + 7 ∨ a = h0 + 8) σ σ := zz_ch.rf σ
  have hgn := hPG.nums
  refine lv_aload_n hx hb dX9_compares_0 rfl (lv_at hl 0 rfl) ?_
  obtain ⟨nc1, hc1, C1⟩ := HN (by first | trivial | omega)
  refine zz_callVv (As := []) (rest := []) ⟨hx, hb, hml, hown, hts⟩ hK hP hS (C1 σ h0 g0 (by exact hPG) (by exact hT) (by exact hus) (by exact hu1) (by exact ho)) (cwV 0 hts gX9_compares_X9_sum rfl rfl rfl (by decide +kernel) ⟨by show 10 + nc1 + 1 ≤ 10 + rk; omega, by show 8 + (2 + 11) + (300 + 60 * nc1) ≤ 300 + 60 * rk; omega⟩) (g0.1) rfl rfl hl.1 rfl (Nat.le_of_ble_eq_true rfl) dX9_compares_1 ⟨Nat.zero_le _, Nat.zero_le _⟩ (fun σ1 H locs q1 hP1 hS1 => ?_)
  replace hP := hP1
  replace hS := hS1
  clear hP1 hS1
  try dsimp only at q1
  obtain ⟨w1, f1⟩ := q1
  replace hC := hC.tr (w1.mono (dS29_7 h0))
  have hpn := f1.1.nums
  refine lv_aload_n hx hb dX9_compares_4 rfl (lv_at hl 0 rfl) ?_
  refine zz_callVp (As := []) (rest := []) ⟨hx, hb, hml, hown, hts⟩ hK hP hS (c_X9_look l E σ1 h0 g0 (by omega)) (cwV 0 hts gX9_compares_X9_look rfl rfl rfl (by decide +kernel) ⟨by show 0 + 1 ≤ 10 + rk; omega, by show 8 + (1 + 11) + 0 ≤ 300 + 60 * rk; omega⟩) (g0.1) rfl rfl hl.1 rfl (Nat.le_of_ble_eq_true rfl) dX9_compares_5 ⟨Nat.zero_le _, Nat.zero_le _⟩ (fun r2 H locs f2 hP1 hS1 => ?_)
  replace hP := hP1
  replace hS := hS1
  clear hP1 hS1
  have hk8 := zz_look_T f2.1 (hT.keep (fun k => hC _ _ (by first | (dsimp only; omega) | omega))) (by omega)
  refine lv_istore_n (lv' := [(1, .int r2), (0, .ref h0)]) hx hb dX9_compares_8 rfl hl (by decide) rfl (fun ls hl => ?_)
  refine lv_aload_n hx hb dX9_compares_9 rfl (lv_at hl 1 rfl) ?_
  refine zz_geti hx hb hts hi9 hown hK hP (g0.1) rfl 14 (by decide) (hts (.fieldLink RX9 130 "NoonLawModel" "bad" "Z") (List.mem_cons_of_mem _ bm_514)) rfl rfl rfl dX9_compares_10 ?_
  refine lv_if_ne (tgt := 54) hx hb dX9_compares_13 (by decide) (fun c3 => ?_) (fun c3 => ?_)
  · have c3 := zz_neT c3
    exact zz_vret hx hb hr hlocks hK hP hS dX9_compares_54 (by exact ⟨hC, f1.1, f1.2.cmp0 (Or.inl (by omega))⟩)
  · have c3 := zz_eqT c3
    skip
    refine lv_iload_n hx hb dX9_compares_16 rfl (lv_at hl 0 rfl) ?_
    refine lv_bipush (v := 60) hx hb dX9_compares_17 (by decide) ?_
    refine lv_icmp_eq (tgt := 34) hx hb dX9_compares_19 (by decide) (fun c4 => ?_) (fun c4 => ?_)
    · have c4 := zz_eqT c4
      refine lv_aload_n hx hb dX9_compares_34 rfl (lv_at hl 1 rfl) ?_
      refine lv_dup hx hb dX9_compares_35 rfl ?_
      refine zz_geti hx hb hts hi9 hown hK hP (g0.1) rfl 12 (by decide) (hts (.fieldLink RX9 116 "NoonLawModel" "here" "I") (List.mem_cons_of_mem _ bm_512)) rfl rfl rfl dX9_compares_36 ?_
      refine lv_iconst (v := 1) hx hb dX9_compares_39 (by decide) ?_
      refine lv_iadd hx hb dX9_compares_40 ?_
      refine lv_topi (fun n5 e5 => ?_)
      have f5 : n5.toInt = (σ1 h0 12).toInt + (1 : Int32).toInt := zz_addT e5 (by omega) (by omega)
      refine zz_puti (v := n5) (ty := .int) hx hb hts hi9 tyX9 tyX9_ok nmX9 hown hK hP hS (g0.1) rfl 12 (by decide) (hts (.fieldLink RX9 116 "NoonLawModel" "here" "I") (List.mem_cons_of_mem _ bm_512)) rfl rfl (by decide +kernel) rfl rfl rfl dX9_compares_41 (fun σ6 H locs w6 hP1 hS1 => ?_)
      replace hP := hP1
      replace hS := hS1
      clear hP1 hS1
      replace hC := hC.u w6 (dS29_5 h0)
      refine lv_aload_n hx hb dX9_compares_44 rfl (lv_at hl 1 rfl) ?_
      obtain ⟨nc7, hc7, C7⟩ := HN (by first | trivial | omega)
      refine zz_callVv (As := []) (rest := []) ⟨hx, hb, hml, hown, hts⟩ hK hP hS (C7 σ6 h0 g0 (by exact hPG.sign f1.1 (by omega) (by omega) w6 (by omega)) (by exact (hT.keep (fun k => hC _ _ (by first | (dsimp only; omega) | omega)))) (by rw [hC _ _ (by first | (dsimp only; omega) | omega)]; exact hus) (by exact hu1) (by rw [w6, zz_un (by omega)]; omega)) (cwV 0 hts gX9_compares_X9_sum rfl rfl rfl (by decide +kernel) ⟨by show 10 + nc7 + 1 ≤ 10 + rk; omega, by show 8 + (2 + 11) + (300 + 60 * nc7) ≤ 300 + 60 * rk; omega⟩) (g0.1) rfl rfl hl.1 rfl (Nat.le_of_ble_eq_true rfl) dX9_compares_45 ⟨Nat.zero_le _, Nat.zero_le _⟩ (fun σ7 H locs q7 hP1 hS1 => ?_)
      replace hP := hP1
      replace hS := hS1
      clear hP1 hS1
      try dsimp only at q7
      obtain ⟨w7, f7⟩ := q7
      replace hC := hC.tr (w7.mono (dS29_7 h0))
      refine lv_aload_n hx hb dX9_compares_48 rfl (lv_at hl 1 rfl) ?_
      refine lv_iload_n hx hb dX9_compares_49 rfl (lv_at hl 0 rfl) ?_
      refine lv_iconst (v := 0) hx hb dX9_compares_50 (by decide) ?_
      refine zz_callVv (As := [.int r2, .int 0]) (rest := []) ⟨hx, hb, hml, hown, hts⟩ hK hP hS (c_X9_step l E σ7 h0 r2 0 g0 (by have h9 := f7.1.nums; omega)) (cwV 2 hts gX9_compares_X9_step rfl rfl rfl (by decide +kernel) ⟨by show 0 + 1 ≤ 10 + rk; omega, by show 8 + (3 + 11) + 0 ≤ 300 + 60 * rk; omega⟩) (g0.1) rfl rfl hl.1 rfl (Nat.le_of_ble_eq_true rfl) dX9_compares_51 ⟨Nat.zero_le _, Nat.zero_le _⟩ (fun σ8 H locs q8 hP1 hS1 => ?_)
      replace hP := hP1
      replace hS := hS1
      clear hP1 hS1
      try dsimp only at q8
      obtain ⟨w8, f8⟩ := q8
      replace hC := hC.tr (w8.mono (dS29_3 h0))
      have h9 := f7.1.nums
      exact zz_vret hx hb hr hlocks hK hP hS dX9_compares_54 (by exact ⟨hC, zz_PP.bin hPG f1.1 (by omega) w6 (by omega) f7.1 f8 (by omega), f1.2.cmp1 (by omega) (zz_lvl_y2 (by omega)) w6 (by omega) f7.2 (by omega) f8 (by omega) k_0⟩)
    · have c4 := zz_neT c4
      refine lv_iload_n hx hb dX9_compares_22 rfl (lv_at hl 0 rfl) ?_
      refine lv_bipush (v := 61) hx hb dX9_compares_23 (by decide) ?_
      refine lv_icmp_eq (tgt := 34) hx hb dX9_compares_25 (by decide) (fun c9 => ?_) (fun c9 => ?_)
      · have c9 := zz_eqT c9
        refine lv_aload_n hx hb dX9_compares_34 rfl (lv_at hl 1 rfl) ?_
        refine lv_dup hx hb dX9_compares_35 rfl ?_
        refine zz_geti hx hb hts hi9 hown hK hP (g0.1) rfl 12 (by decide) (hts (.fieldLink RX9 116 "NoonLawModel" "here" "I") (List.mem_cons_of_mem _ bm_512)) rfl rfl rfl dX9_compares_36 ?_
        refine lv_iconst (v := 1) hx hb dX9_compares_39 (by decide) ?_
        refine lv_iadd hx hb dX9_compares_40 ?_
        refine lv_topi (fun n10 e10 => ?_)
        have f10 : n10.toInt = (σ1 h0 12).toInt + (1 : Int32).toInt := zz_addT e10 (by omega) (by omega)
        refine zz_puti (v := n10) (ty := .int) hx hb hts hi9 tyX9 tyX9_ok nmX9 hown hK hP hS (g0.1) rfl 12 (by decide) (hts (.fieldLink RX9 116 "NoonLawModel" "here" "I") (List.mem_cons_of_mem _ bm_512)) rfl rfl (by decide +kernel) rfl rfl rfl dX9_compares_41 (fun σ11 H locs w11 hP1 hS1 => ?_)
        replace hP := hP1
        replace hS := hS1
        clear hP1 hS1
        replace hC := hC.u w11 (dS29_5 h0)
        refine lv_aload_n hx hb dX9_compares_44 rfl (lv_at hl 1 rfl) ?_
        obtain ⟨nc12, hc12, C12⟩ := HN (by first | trivial | omega)
        refine zz_callVv (As := []) (rest := []) ⟨hx, hb, hml, hown, hts⟩ hK hP hS (C12 σ11 h0 g0 (by exact hPG.sign f1.1 (by omega) (by omega) w11 (by omega)) (by exact (hT.keep (fun k => hC _ _ (by first | (dsimp only; omega) | omega)))) (by rw [hC _ _ (by first | (dsimp only; omega) | omega)]; exact hus) (by exact hu1) (by rw [w11, zz_un (by omega)]; omega)) (cwV 0 hts gX9_compares_X9_sum rfl rfl rfl (by decide +kernel) ⟨by show 10 + nc12 + 1 ≤ 10 + rk; omega, by show 8 + (2 + 11) + (300 + 60 * nc12) ≤ 300 + 60 * rk; omega⟩) (g0.1) rfl rfl hl.1 rfl (Nat.le_of_ble_eq_true rfl) dX9_compares_45 ⟨Nat.zero_le _, Nat.zero_le _⟩ (fun σ12 H locs q12 hP1 hS1 => ?_)
        replace hP := hP1
        replace hS := hS1
        clear hP1 hS1
        try dsimp only at q12
        obtain ⟨w12, f12⟩ := q12
        replace hC := hC.tr (w12.mono (dS29_7 h0))
        refine lv_aload_n hx hb dX9_compares_48 rfl (lv_at hl 1 rfl) ?_
        refine lv_iload_n hx hb dX9_compares_49 rfl (lv_at hl 0 rfl) ?_
        refine lv_iconst (v := 0) hx hb dX9_compares_50 (by decide) ?_
        refine zz_callVv (As := [.int r2, .int 0]) (rest := []) ⟨hx, hb, hml, hown, hts⟩ hK hP hS (c_X9_step l E σ12 h0 r2 0 g0 (by have h9 := f12.1.nums; omega)) (cwV 2 hts gX9_compares_X9_step rfl rfl rfl (by decide +kernel) ⟨by show 0 + 1 ≤ 10 + rk; omega, by show 8 + (3 + 11) + 0 ≤ 300 + 60 * rk; omega⟩) (g0.1) rfl rfl hl.1 rfl (Nat.le_of_ble_eq_true rfl) dX9_compares_51 ⟨Nat.zero_le _, Nat.zero_le _⟩ (fun σ13 H locs q13 hP1 hS1 => ?_)
        replace hP := hP1
        replace hS := hS1
        clear hP1 hS1
        try dsimp only at q13
        obtain ⟨w13, f13⟩ := q13
        replace hC := hC.tr (w13.mono (dS29_3 h0))
        have h9 := f12.1.nums
        exact zz_vret hx hb hr hlocks hK hP hS dX9_compares_54 (by exact ⟨hC, zz_PP.bin hPG f1.1 (by omega) w11 (by omega) f12.1 f13 (by omega), f1.2.cmp1 (by omega) (zz_lvl_y2 (by omega)) w11 (by omega) f12.2 (by omega) f13 (by omega) k_0⟩)
      · have c9 := zz_neT c9
        refine lv_iload_n hx hb dX9_compares_28 rfl (lv_at hl 0 rfl) ?_
        refine lv_bipush (v := 62) hx hb dX9_compares_29 (by decide) ?_
        refine lv_icmp_ne (tgt := 54) hx hb dX9_compares_31 (by decide) (fun c14 => ?_) (fun c14 => ?_)
        · have c14 := zz_neT c14
          exact zz_vret hx hb hr hlocks hK hP hS dX9_compares_54 (by exact ⟨hC, f1.1, f1.2.cmp0 (Or.inr (zz_lvl_n2 (by omega) (by omega) (by omega)))⟩)
        · have c14 := zz_eqT c14
          refine lv_aload_n hx hb dX9_compares_34 rfl (lv_at hl 1 rfl) ?_
          refine lv_dup hx hb dX9_compares_35 rfl ?_
          refine zz_geti hx hb hts hi9 hown hK hP (g0.1) rfl 12 (by decide) (hts (.fieldLink RX9 116 "NoonLawModel" "here" "I") (List.mem_cons_of_mem _ bm_512)) rfl rfl rfl dX9_compares_36 ?_
          refine lv_iconst (v := 1) hx hb dX9_compares_39 (by decide) ?_
          refine lv_iadd hx hb dX9_compares_40 ?_
          refine lv_topi (fun n15 e15 => ?_)
          have f15 : n15.toInt = (σ1 h0 12).toInt + (1 : Int32).toInt := zz_addT e15 (by omega) (by omega)
          refine zz_puti (v := n15) (ty := .int) hx hb hts hi9 tyX9 tyX9_ok nmX9 hown hK hP hS (g0.1) rfl 12 (by decide) (hts (.fieldLink RX9 116 "NoonLawModel" "here" "I") (List.mem_cons_of_mem _ bm_512)) rfl rfl (by decide +kernel) rfl rfl rfl dX9_compares_41 (fun σ16 H locs w16 hP1 hS1 => ?_)
          replace hP := hP1
          replace hS := hS1
          clear hP1 hS1
          replace hC := hC.u w16 (dS29_5 h0)
          refine lv_aload_n hx hb dX9_compares_44 rfl (lv_at hl 1 rfl) ?_
          obtain ⟨nc17, hc17, C17⟩ := HN (by first | trivial | omega)
          refine zz_callVv (As := []) (rest := []) ⟨hx, hb, hml, hown, hts⟩ hK hP hS (C17 σ16 h0 g0 (by exact hPG.sign f1.1 (by omega) (by omega) w16 (by omega)) (by exact (hT.keep (fun k => hC _ _ (by first | (dsimp only; omega) | omega)))) (by rw [hC _ _ (by first | (dsimp only; omega) | omega)]; exact hus) (by exact hu1) (by rw [w16, zz_un (by omega)]; omega)) (cwV 0 hts gX9_compares_X9_sum rfl rfl rfl (by decide +kernel) ⟨by show 10 + nc17 + 1 ≤ 10 + rk; omega, by show 8 + (2 + 11) + (300 + 60 * nc17) ≤ 300 + 60 * rk; omega⟩) (g0.1) rfl rfl hl.1 rfl (Nat.le_of_ble_eq_true rfl) dX9_compares_45 ⟨Nat.zero_le _, Nat.zero_le _⟩ (fun σ17 H locs q17 hP1 hS1 => ?_)
          replace hP := hP1
          replace hS := hS1
          clear hP1 hS1
          try dsimp only at q17
          obtain ⟨w17, f17⟩ := q17
          replace hC := hC.tr (w17.mono (dS29_7 h0))
          refine lv_aload_n hx hb dX9_compares_48 rfl (lv_at hl 1 rfl) ?_
          refine lv_iload_n hx hb dX9_compares_49 rfl (lv_at hl 0 rfl) ?_
          refine lv_iconst (v := 0) hx hb dX9_compares_50 (by decide) ?_
          refine zz_callVv (As := [.int r2, .int 0]) (rest := []) ⟨hx, hb, hml, hown, hts⟩ hK hP hS (c_X9_step l E σ17 h0 r2 0 g0 (by have h9 := f17.1.nums; omega)) (cwV 2 hts gX9_compares_X9_step rfl rfl rfl (by decide +kernel) ⟨by show 0 + 1 ≤ 10 + rk; omega, by show 8 + (3 + 11) + 0 ≤ 300 + 60 * rk; omega⟩) (g0.1) rfl rfl hl.1 rfl (Nat.le_of_ble_eq_true rfl) dX9_compares_51 ⟨Nat.zero_le _, Nat.zero_le _⟩ (fun σ18 H locs q18 hP1 hS1 => ?_)
          replace hP := hP1
          replace hS := hS1
          clear hP1 hS1
          try dsimp only at q18
          obtain ⟨w18, f18⟩ := q18
          replace hC := hC.tr (w18.mono (dS29_3 h0))
          have h9 := f17.1.nums
          exact zz_vret hx hb hr hlocks hK hP hS dX9_compares_54 (by exact ⟨hC, zz_PP.bin hPG f1.1 (by omega) w16 (by omega) f17.1 f18 (by omega), f1.2.cmp1 (by omega) (zz_lvl_y2 (by omega)) w16 (by omega) f17.2 (by omega) f18 (by omega) k_0⟩)
theorem gX9_all_X9_compares : GoodIn wzX9_all (wsV RX9 163 RX9 yX9_compares wzX9_compares) := wz_co bm_531 (wz_co bm_532 (wz_co bm_533 (wz_co bm_5 (wz_in bm_534))))
theorem gX9_all_X9_look : GoodIn wzX9_all (wsV RX9 126 RX9 yX9_look wzX9_look) := wz_co bm_522 (wz_co bm_523 (wz_co bm_524 (wz_co bm_5 (wz_in bm_525))))
theorem gX9_all_X9_step : GoodIn wzX9_all (wsV RX9 134 RX9 yX9_step wzX9_step) := wz_co bm_526 (wz_co bm_527 (wz_co bm_528 (wz_co bm_5 (wz_in bm_529))))
set_option maxHeartbeats 4000000 in
set_option maxRecDepth 100000 in
theorem g_X9_all (l : Launch) (E : zz_E) (rk : Nat) (T : Int → Int) (us : Int) (v : Int) (h05 : 0 ≤ v ∧ v ≤ 5) (HN : True → ∃ nc : Nat, nc < rk ∧ k_X9_compares l E nc T us v) : k_X9_all l E rk T us v := by
  intro σ h0 g0 hPG hT hus hu1 ho
  refine zz_met (cc := cX9_all) (maxL := 1) (ret := none) (by decide) rfl (Nat.le_of_ble_eq_true rfl) ?_
  intro p e s m args below meth c ls hx hb hr hts hown hlocks hml hK hP hS hl
  have hl : lv_has ls 1 [(0, .ref h0)] := hl
  have hown : s.vm.findClass RX9 = some m.cls := hown
  have hi9 : ∀ w ∈ wsX90, w ∈ wzX9_all := fun w h => List.mem_cons_of_mem _ (hbw9 w h)
  have k_0 : (0 : Int32).toInt = 0 := by decide +kernel
  have k_1 : (1 : Int32).toInt = 1 := by decide +kernel
  have k_38 : (38 : Int32).toInt = 38 := by decide +kernel
  have hC : zz_ch (fun a k => (a = h0 ∧ 11 ≤ k ∧ k ≤ 14) ∨ a = h0 + 7 ∨ a = h0 + 8) σ σ := zz_ch.rf σ
  have hgn := hPG.nums
  refine lv_aload_n hx hb dX9_all_0 rfl (lv_at hl 0 rfl) ?_
  obtain ⟨nc1, hc1, C1⟩ := HN (by first | trivial | omega)
  refine zz_callVv (As := []) (rest := []) ⟨hx, hb, hml, hown, hts⟩ hK hP hS (C1 σ h0 g0 (by exact hPG) (by exact hT) (by exact hus) (by exact hu1) (by exact ho)) (cwV 0 hts gX9_all_X9_compares rfl rfl rfl (by decide +kernel) ⟨by show 10 + nc1 + 1 ≤ 10 + rk; omega, by show 8 + (2 + 11) + (300 + 60 * nc1) ≤ 300 + 60 * rk; omega⟩) (g0.1) rfl rfl hl.1 rfl (Nat.le_of_ble_eq_true rfl) dX9_all_1 ⟨Nat.zero_le _, Nat.zero_le _⟩ (fun σ1 H locs q1 hP1 hS1 => ?_)
  replace hP := hP1
  replace hS := hS1
  clear hP1 hS1
  try dsimp only at q1
  obtain ⟨w1, f1⟩ := q1
  replace hC := hC.tr (w1.mono (dS29_7 h0))
  have J4 : ∀ (n : Nat) (σa : zz_S) (H : Heap) (locs : List Loc) (ls : Array Slot), ((60 - (σa h0 12).toInt).toNat) < n → (zz_ch (fun a k => (a = h0 ∧ 11 ≤ k ∧ k ≤ 14) ∨ a = h0 + 7 ∨ a = h0 + 8) σ σa) → (zz_PP σ σa h0) → (zz_l9 T (fun q => zz_uq T us (5 - v).toNat q) 1 σ σa h0 (zz_lw T (fun q => zz_uq T us (5 - v).toNat q) 1 (σ h0 12).toInt)) → zz_P E σa H → va_S (zz_A E) s.heap H locs → lv_has ls 1 [(0, .ref h0)] → W p l e (headSpec wzX9_all (zz_rm rk)).room s m args below meth c H locs 0 0 (MQ below (va_Qv (fun σ1 => zz_ch (fun a k => (a = h0 ∧ 11 ≤ k ∧ k ≤ 14) ∨ a = h0 + 7 ∨ a = h0 + 8) σ σ1 ∧ (zz_PP σ σ1 h0 ∧ zz_q9 σ σ1 h0 (zz_lw T (fun q => zz_uq T us (5 - v).toNat q) 1 (σ h0 12).toInt))) (zz_B E) (zz_A E)) args s 0 0 (zz_A E)) (F0 m 4 ls []) := by
    intro n
    induction n with
    | zero => intro σa H locs ls hm; exact absurd hm (Nat.not_lt_zero _)
    | succ n ih4 =>
      intro σa H locs ls hm hC f4_0 f4_1 hP hS hl
      have hpn := f4_0.nums
      refine lv_aload_n hx hb dX9_all_4 rfl (lv_at hl 0 rfl) ?_
      refine zz_geti hx hb hts hi9 hown hK hP (g0.1) rfl 14 (by decide) (hts (.fieldLink RX9 130 "NoonLawModel" "bad" "Z") (List.mem_cons_of_mem _ bm_514)) rfl rfl rfl dX9_all_5 ?_
      refine lv_if_ne (tgt := 44) hx hb dX9_all_8 (by decide) (fun c2 => ?_) (fun c2 => ?_)
      · have c2 := zz_neT c2
        exact zz_vret hx hb hr hlocks hK hP hS dX9_all_44 (by exact ⟨hC, f4_0, f4_1.stop (Or.inl (by omega))⟩)
      · have c2 := zz_eqT c2
        refine lv_aload_n hx hb dX9_all_11 rfl (lv_at hl 0 rfl) ?_
        refine zz_callVp (As := []) (rest := []) ⟨hx, hb, hml, hown, hts⟩ hK hP hS (c_X9_look l E σa h0 g0 (by omega)) (cwV 0 hts gX9_all_X9_look rfl rfl rfl (by decide +kernel) ⟨by show 0 + 1 ≤ 10 + rk; omega, by show 8 + (1 + 11) + 0 ≤ 300 + 60 * rk; omega⟩) (g0.1) rfl rfl hl.1 rfl (Nat.le_of_ble_eq_true rfl) dX9_all_12 ⟨Nat.zero_le _, Nat.zero_le _⟩ (fun r3 H locs f3 hP1 hS1 => ?_)
        replace hP := hP1
        replace hS := hS1
        clear hP1 hS1
        have hk15 := zz_look_T f3.1 (hT.keep (fun k => hC _ _ (by first | (dsimp only; omega) | omega))) (by omega)
        refine lv_bipush (v := 38) hx hb dX9_all_15 (by decide) ?_
        refine lv_icmp_ne (tgt := 44) hx hb dX9_all_17 (by decide) (fun c4 => ?_) (fun c4 => ?_)
        · have c4 := zz_neT c4
          exact zz_vret hx hb hr hlocks hK hP hS dX9_all_44 (by exact ⟨hC, f4_0, f4_1.stop (Or.inr (zz_lvl_n1 (by omega)))⟩)
        · have c4 := zz_eqT c4
          refine lv_aload_n hx hb dX9_all_20 rfl (lv_at hl 0 rfl) ?_
          refine lv_dup hx hb dX9_all_21 rfl ?_
          refine zz_geti hx hb hts hi9 hown hK hP (g0.1) rfl 12 (by decide) (hts (.fieldLink RX9 116 "NoonLawModel" "here" "I") (List.mem_cons_of_mem _ bm_512)) rfl rfl rfl dX9_all_22 ?_
          refine lv_iconst (v := 1) hx hb dX9_all_25 (by decide) ?_
          refine lv_iadd hx hb dX9_all_26 ?_
          refine lv_topi (fun n5 e5 => ?_)
          have f5 : n5.toInt = (σa h0 12).toInt + (1 : Int32).toInt := zz_addT e5 (by omega) (by omega)
          refine zz_puti (v := n5) (ty := .int) hx hb hts hi9 tyX9 tyX9_ok nmX9 hown hK hP hS (g0.1) rfl 12 (by decide) (hts (.fieldLink RX9 116 "NoonLawModel" "here" "I") (List.mem_cons_of_mem _ bm_512)) rfl rfl (by decide +kernel) rfl rfl rfl dX9_all_27 (fun σ6 H locs w6 hP1 hS1 => ?_)
          replace hP := hP1
          replace hS := hS1
          clear hP1 hS1
          replace hC := hC.u w6 (dS29_5 h0)
          refine lv_aload_n hx hb dX9_all_30 rfl (lv_at hl 0 rfl) ?_
          obtain ⟨nc7, hc7, C7⟩ := HN (by first | trivial | omega)
          refine zz_callVv (As := []) (rest := []) ⟨hx, hb, hml, hown, hts⟩ hK hP hS (C7 σ6 h0 g0 (by exact hPG.sign f4_0 (by omega) (by omega) w6 (by omega)) (by exact (hT.keep (fun k => hC _ _ (by first | (dsimp only; omega) | omega)))) (by rw [hC _ _ (by first | (dsimp only; omega) | omega)]; exact hus) (by exact hu1) (by rw [w6, zz_un (by omega)]; omega)) (cwV 0 hts gX9_all_X9_compares rfl rfl rfl (by decide +kernel) ⟨by show 10 + nc7 + 1 ≤ 10 + rk; omega, by show 8 + (2 + 11) + (300 + 60 * nc7) ≤ 300 + 60 * rk; omega⟩) (g0.1) rfl rfl hl.1 rfl (Nat.le_of_ble_eq_true rfl) dX9_all_31 ⟨Nat.zero_le _, Nat.zero_le _⟩ (fun σ7 H locs q7 hP1 hS1 => ?_)
          replace hP := hP1
          replace hS := hS1
          clear hP1 hS1
          try dsimp only at q7
          obtain ⟨w7, f7⟩ := q7
          replace hC := hC.tr (w7.mono (dS29_7 h0))
          refine lv_aload_n hx hb dX9_all_34 rfl (lv_at hl 0 rfl) ?_
          refine lv_bipush (v := 38) hx hb dX9_all_35 (by decide) ?_
          refine lv_iconst (v := 0) hx hb dX9_all_37 (by decide) ?_
          refine zz_callVv (As := [.int 38, .int 0]) (rest := []) ⟨hx, hb, hml, hown, hts⟩ hK hP hS (c_X9_step l E σ7 h0 38 0 g0 (by have h9 := f7.1.nums; omega)) (cwV 2 hts gX9_all_X9_step rfl rfl rfl (by decide +kernel) ⟨by show 0 + 1 ≤ 10 + rk; omega, by show 8 + (3 + 11) + 0 ≤ 300 + 60 * rk; omega⟩) (g0.1) rfl rfl hl.1 rfl (Nat.le_of_ble_eq_true rfl) dX9_all_38 ⟨Nat.zero_le _, Nat.zero_le _⟩ (fun σ8 H locs q8 hP1 hS1 => ?_)
          replace hP := hP1
          replace hS := hS1
          clear hP1 hS1
          try dsimp only at q8
          obtain ⟨w8, f8⟩ := q8
          replace hC := hC.tr (w8.mono (dS29_3 h0))
          refine lv_goto (tgt := 4) hx hb dX9_all_41 (by decide) ?_
          exact ih4 σ8 _ _ _ (by have h9 := f7.1.nums; have h8 := zz_uT w6; have h7 := congrArg Int32.toInt f8.same.1; omega) hC (by exact zz_PP.bin hPG f4_0 (by omega) w6 (by omega) f7.1 f8 (by omega)) (by have h9 := f7.1.nums; have h8 := zz_uT w6; exact f4_1.next (by omega) (zz_lvl_y1 (by omega)) (by omega) w6 (by omega) f7.2 (by rw [show (1 + 1 : Int) = 2 from by decide]) (by omega) (by omega) f8 (by omega) k_0) hP hS (lv_sub hl [0] rfl)
  exact J4 _ σ1 _ _ _ (Nat.lt_succ_self _) hC (by exact f1.1) (by have h9 := f1.1.nums; exact f1.2.l9 (w := 1) (by rw [show (1 + 1 : Int) = 2 from by decide]) (by decide) (by omega)) hP hS (lv_sub hl [0] rfl)
theorem gX9_any_X9_all : GoodIn wzX9_any (wsV RX9 166 RX9 yX9_all wzX9_all) := wz_co bm_519 (wz_co bm_520 (wz_co bm_521 (wz_co bm_5 (wz_in bm_530))))
theorem gX9_any_X9_look : GoodIn wzX9_any (wsV RX9 126 RX9 yX9_look wzX9_look) := wz_co bm_522 (wz_co bm_523 (wz_co bm_524 (wz_co bm_5 (wz_in bm_525))))
theorem gX9_any_X9_step : GoodIn wzX9_any (wsV RX9 134 RX9 yX9_step wzX9_step) := wz_co bm_526 (wz_co bm_527 (wz_co bm_528 (wz_co bm_5 (wz_in bm_529))))
set_option maxHeartbeats 4000000 in
set_option maxRecDepth 100000 in
theorem g_X9_any (l : Launch) (E : zz_E) (rk : Nat) (T : Int → Int) (us : Int) (v : Int) (h05 : 0 ≤ v ∧ v ≤ 5) (HN : True → ∃ nc : Nat, nc < rk ∧ k_X9_all l E nc T us v) : k_X9_any l E rk T us v := by
  intro σ h0 g0 hPG hT hus hu1 ho
  refine zz_met (cc := cX9_any) (maxL := 1) (ret := none) (by decide) rfl (Nat.le_of_ble_eq_true rfl) ?_
  intro p e s m args below meth c ls hx hb hr hts hown hlocks hml hK hP hS hl
  have hl : lv_has ls 1 [(0, .ref h0)] := hl
  have hown : s.vm.findClass RX9 = some m.cls := hown
  have hi9 : ∀ w ∈ wsX90, w ∈ wzX9_any := fun w h => List.mem_cons_of_mem _ (hbw9 w h)
  have k_0 : (0 : Int32).toInt = 0 := by decide +kernel
  have k_1 : (1 : Int32).toInt = 1 := by decide +kernel
  have k_124 : (124 : Int32).toInt = 124 := by decide +kernel
  have hC : zz_ch (fun a k => (a = h0 ∧ 11 ≤ k ∧ k ≤ 14) ∨ a = h0 + 7 ∨ a = h0 + 8) σ σ := zz_ch.rf σ
  have hgn := hPG.nums
  refine lv_aload_n hx hb dX9_any_0 rfl (lv_at hl 0 rfl) ?_
  obtain ⟨nc1, hc1, C1⟩ := HN (by first | trivial | omega)
  refine zz_callVv (As := []) (rest := []) ⟨hx, hb, hml, hown, hts⟩ hK hP hS (C1 σ h0 g0 (by exact hPG) (by exact hT) (by exact hus) (by exact hu1) (by exact ho)) (cwV 0 hts gX9_any_X9_all rfl rfl rfl (by decide +kernel) ⟨by show 10 + nc1 + 1 ≤ 10 + rk; omega, by show 8 + (1 + 11) + (300 + 60 * nc1) ≤ 300 + 60 * rk; omega⟩) (g0.1) rfl rfl hl.1 rfl (Nat.le_of_ble_eq_true rfl) dX9_any_1 ⟨Nat.zero_le _, Nat.zero_le _⟩ (fun σ1 H locs q1 hP1 hS1 => ?_)
  replace hP := hP1
  replace hS := hS1
  clear hP1 hS1
  try dsimp only at q1
  obtain ⟨w1, f1⟩ := q1
  replace hC := hC.tr (w1.mono (dS29_7 h0))
  have J4 : ∀ (n : Nat) (σa : zz_S) (H : Heap) (locs : List Loc) (ls : Array Slot), ((60 - (σa h0 12).toInt).toNat) < n → (zz_ch (fun a k => (a = h0 ∧ 11 ≤ k ∧ k ≤ 14) ∨ a = h0 + 7 ∨ a = h0 + 8) σ σa) → (zz_PP σ σa h0) → (zz_l9 T (fun q => zz_uq T us (5 - v).toNat q) 0 σ σa h0 (zz_lw T (fun q => zz_uq T us (5 - v).toNat q) 0 (σ h0 12).toInt)) → zz_P E σa H → va_S (zz_A E) s.heap H locs → lv_has ls 1 [(0, .ref h0)] → W p l e (headSpec wzX9_any (zz_rm rk)).room s m args below meth c H locs 0 0 (MQ below (va_Qv (fun σ1 => zz_ch (fun a k => (a = h0 ∧ 11 ≤ k ∧ k ≤ 14) ∨ a = h0 + 7 ∨ a = h0 + 8) σ σ1 ∧ (zz_PP σ σ1 h0 ∧ zz_q9 σ σ1 h0 (zz_lw T (fun q => zz_uq T us (5 - v).toNat q) 0 (σ h0 12).toInt))) (zz_B E) (zz_A E)) args s 0 0 (zz_A E)) (F0 m 4 ls []) := by
    intro n
    induction n with
    | zero => intro σa H locs ls hm; exact absurd hm (Nat.not_lt_zero _)
    | succ n ih4 =>
      intro σa H locs ls hm hC f4_0 f4_1 hP hS hl
      have hpn := f4_0.nums
      refine lv_aload_n hx hb dX9_any_4 rfl (lv_at hl 0 rfl) ?_
      refine zz_geti hx hb hts hi9 hown hK hP (g0.1) rfl 14 (by decide) (hts (.fieldLink RX9 130 "NoonLawModel" "bad" "Z") (List.mem_cons_of_mem _ bm_514)) rfl rfl rfl dX9_any_5 ?_
      refine lv_if_ne (tgt := 44) hx hb dX9_any_8 (by decide) (fun c2 => ?_) (fun c2 => ?_)
      · have c2 := zz_neT c2
        exact zz_vret hx hb hr hlocks hK hP hS dX9_any_44 (by exact ⟨hC, f4_0, f4_1.stop (Or.inl (by omega))⟩)
      · have c2 := zz_eqT c2
        refine lv_aload_n hx hb dX9_any_11 rfl (lv_at hl 0 rfl) ?_
        refine zz_callVp (As := []) (rest := []) ⟨hx, hb, hml, hown, hts⟩ hK hP hS (c_X9_look l E σa h0 g0 (by omega)) (cwV 0 hts gX9_any_X9_look rfl rfl rfl (by decide +kernel) ⟨by show 0 + 1 ≤ 10 + rk; omega, by show 8 + (1 + 11) + 0 ≤ 300 + 60 * rk; omega⟩) (g0.1) rfl rfl hl.1 rfl (Nat.le_of_ble_eq_true rfl) dX9_any_12 ⟨Nat.zero_le _, Nat.zero_le _⟩ (fun r3 H locs f3 hP1 hS1 => ?_)
        replace hP := hP1
        replace hS := hS1
        clear hP1 hS1
        have hk15 := zz_look_T f3.1 (hT.keep (fun k => hC _ _ (by first | (dsimp only; omega) | omega))) (by omega)
        refine lv_bipush (v := 124) hx hb dX9_any_15 (by decide) ?_
        refine lv_icmp_ne (tgt := 44) hx hb dX9_any_17 (by decide) (fun c4 => ?_) (fun c4 => ?_)
        · have c4 := zz_neT c4
          exact zz_vret hx hb hr hlocks hK hP hS dX9_any_44 (by exact ⟨hC, f4_0, f4_1.stop (Or.inr (zz_lvl_n0 (by omega)))⟩)
        · have c4 := zz_eqT c4
          refine lv_aload_n hx hb dX9_any_20 rfl (lv_at hl 0 rfl) ?_
          refine lv_dup hx hb dX9_any_21 rfl ?_
          refine zz_geti hx hb hts hi9 hown hK hP (g0.1) rfl 12 (by decide) (hts (.fieldLink RX9 116 "NoonLawModel" "here" "I") (List.mem_cons_of_mem _ bm_512)) rfl rfl rfl dX9_any_22 ?_
          refine lv_iconst (v := 1) hx hb dX9_any_25 (by decide) ?_
          refine lv_iadd hx hb dX9_any_26 ?_
          refine lv_topi (fun n5 e5 => ?_)
          have f5 : n5.toInt = (σa h0 12).toInt + (1 : Int32).toInt := zz_addT e5 (by omega) (by omega)
          refine zz_puti (v := n5) (ty := .int) hx hb hts hi9 tyX9 tyX9_ok nmX9 hown hK hP hS (g0.1) rfl 12 (by decide) (hts (.fieldLink RX9 116 "NoonLawModel" "here" "I") (List.mem_cons_of_mem _ bm_512)) rfl rfl (by decide +kernel) rfl rfl rfl dX9_any_27 (fun σ6 H locs w6 hP1 hS1 => ?_)
          replace hP := hP1
          replace hS := hS1
          clear hP1 hS1
          replace hC := hC.u w6 (dS29_5 h0)
          refine lv_aload_n hx hb dX9_any_30 rfl (lv_at hl 0 rfl) ?_
          obtain ⟨nc7, hc7, C7⟩ := HN (by first | trivial | omega)
          refine zz_callVv (As := []) (rest := []) ⟨hx, hb, hml, hown, hts⟩ hK hP hS (C7 σ6 h0 g0 (by exact hPG.sign f4_0 (by omega) (by omega) w6 (by omega)) (by exact (hT.keep (fun k => hC _ _ (by first | (dsimp only; omega) | omega)))) (by rw [hC _ _ (by first | (dsimp only; omega) | omega)]; exact hus) (by exact hu1) (by rw [w6, zz_un (by omega)]; omega)) (cwV 0 hts gX9_any_X9_all rfl rfl rfl (by decide +kernel) ⟨by show 10 + nc7 + 1 ≤ 10 + rk; omega, by show 8 + (1 + 11) + (300 + 60 * nc7) ≤ 300 + 60 * rk; omega⟩) (g0.1) rfl rfl hl.1 rfl (Nat.le_of_ble_eq_true rfl) dX9_any_31 ⟨Nat.zero_le _, Nat.zero_le _⟩ (fun σ7 H locs q7 hP1 hS1 => ?_)
          replace hP := hP1
          replace hS := hS1
          clear hP1 hS1
          try dsimp only at q7
          obtain ⟨w7, f7⟩ := q7
          replace hC := hC.tr (w7.mono (dS29_7 h0))
          refine lv_aload_n hx hb dX9_any_34 rfl (lv_at hl 0 rfl) ?_
          refine lv_bipush (v := 124) hx hb dX9_any_35 (by decide) ?_
          refine lv_iconst (v := 0) hx hb dX9_any_37 (by decide) ?_
          refine zz_callVv (As := [.int 124, .int 0]) (rest := []) ⟨hx, hb, hml, hown, hts⟩ hK hP hS (c_X9_step l E σ7 h0 124 0 g0 (by have h9 := f7.1.nums; omega)) (cwV 2 hts gX9_any_X9_step rfl rfl rfl (by decide +kernel) ⟨by show 0 + 1 ≤ 10 + rk; omega, by show 8 + (3 + 11) + 0 ≤ 300 + 60 * rk; omega⟩) (g0.1) rfl rfl hl.1 rfl (Nat.le_of_ble_eq_true rfl) dX9_any_38 ⟨Nat.zero_le _, Nat.zero_le _⟩ (fun σ8 H locs q8 hP1 hS1 => ?_)
          replace hP := hP1
          replace hS := hS1
          clear hP1 hS1
          try dsimp only at q8
          obtain ⟨w8, f8⟩ := q8
          replace hC := hC.tr (w8.mono (dS29_3 h0))
          refine lv_goto (tgt := 4) hx hb dX9_any_41 (by decide) ?_
          exact ih4 σ8 _ _ _ (by have h9 := f7.1.nums; have h8 := zz_uT w6; have h7 := congrArg Int32.toInt f8.same.1; omega) hC (by exact zz_PP.bin hPG f4_0 (by omega) w6 (by omega) f7.1 f8 (by omega)) (by have h9 := f7.1.nums; have h8 := zz_uT w6; exact f4_1.next (by omega) (zz_lvl_y0 (by omega)) (by omega) w6 (by omega) f7.2 (by rw [show (0 + 1 : Int) = 1 from by decide]) (by omega) (by omega) f8 (by omega) k_0) hP hS (lv_sub hl [0] rfl)
  exact J4 _ σ1 _ _ _ (Nat.lt_succ_self _) hC (by exact f1.1) (by have h9 := f1.1.nums; exact f1.2.l9 (w := 0) (by rw [show (0 + 1 : Int) = 1 from by decide]) (by decide) (by omega)) hP hS (lv_sub hl [0] rfl)
/-- the reference's parser, from the deepest brackets outwards -/
theorem k_lv (l : Launch) (E : zz_E) (n : Nat) (T : Int → Int) (us v : Int) (h05 : 0 ≤ v ∧ v ≤ 5) (hO : k_X9_opens l E n T us v) : k_X9_one l E (n + 1) T us v ∧ k_X9_any l E (n + 6) T us v := by
  have h1 : k_X9_one l E (n + 1) T us v := g_X9_one l E _ _ _ _ h05 (fun _ => ⟨n, by omega, hO⟩)
  have h2 : k_X9_times l E (n + 2) T us v := g_X9_times l E _ _ _ _ h05 (fun _ => ⟨n + 1, by omega, h1⟩)
  have h3 : k_X9_sum l E (n + 3) T us v := g_X9_sum l E _ _ _ _ h05 (fun _ => ⟨n + 2, by omega, h2⟩)
  have h4 : k_X9_compares l E (n + 4) T us v := g_X9_compares l E _ _ _ _ h05 (fun _ => ⟨n + 3, by omega, h3⟩)
  have h5 : k_X9_all l E (n + 5) T us v := g_X9_all l E _ _ _ _ h05 (fun _ => ⟨n + 4, by omega, h4⟩)
  exact ⟨h1, g_X9_any l E _ _ _ _ h05 (fun _ => ⟨n + 5, by omega, h5⟩)⟩
theorem k_opens (l : Launch) (E : zz_E) (T : Int → Int) (us : Int) : ∀ d : Nat, d ≤ 5 → k_X9_opens l E (10 * d) T us (5 - (d : Int)) := by
  intro d
  induction d with
  | zero =>
    intro _
    exact g_X9_opens l E _ _ _ _ (by omega) (fun h => absurd h (by omega)) (fun h => absurd h (by omega))
  | succ d ih =>
    intro h
    obtain ⟨h1, h2⟩ := k_lv l E _ _ _ _ (by omega) (ih (by omega))
    have e : (5 - ((d + 1 : Nat) : Int)) + 1 = 5 - (d : Int) := by omega
    refine g_X9_opens l E _ _ _ _ (by omega) (fun _ => ⟨10 * d + 1, by omega, ?_⟩) (fun _ => ⟨10 * d + 6, by omega, ?_⟩)
    · rw [e]
      exact h1
    · rw [e]
      exact h2
theorem c_X9_any (l : Launch) (E : zz_E) (σ : zz_S) (h0 : Nat) (g0 : zz_M E h0) (hPG : zz_PG σ h0) (T : Int → Int) (us : Int) (hT : zz_hM σ h0 T) (hus : (σ h0 15).toInt = us) (hu1 : us = 0 ∨ us = 1) (ho : (σ h0 13).toInt = 0) : Met l yX9_any wzX9_any ({ frames := 66, cells := 0, slots := 0, locals := 3660 }) (va_Pc [.ref h0] (zz_B E σ)) (va_Qv (fun σ1 => zz_ch (fun a k => (a = h0 ∧ 11 ≤ k ∧ k ≤ 14) ∨ a = h0 + 7 ∨ a = h0 + 8) σ σ1 ∧ (zz_PP σ σ1 h0 ∧ zz_q9 σ σ1 h0 (zz_PQ T us (σ h0 12).toInt))) (zz_B E) (zz_A E)) 0 0 (zz_A E) := by
  rw [zz_PQ_eq]
  exact (k_lv l E _ _ _ _ (by omega) (k_opens l E T us 5 (Nat.le_refl 5))).2 σ h0 g0 hPG hT hus hu1 ho
