def k_X7_readsLevel (l : Launch) (E : zz_E) (rk : Nat) (T : Int → Int) (us : Int) (w v : Int) : Prop := ∀ (σ : zz_S) (h0 : Nat) (lv : Int32) (op : Int32) (g0 : zz_Rd E h0) (hl1 : 0 ≤ (σ h0 1).toInt ∧ (σ h0 1).toInt ≤ 60) (hs : 0 ≤ (σ h0 4).toInt ∧ (σ h0 4).toInt ≤ 60) (hp0 : 0 ≤ (σ h0 0).toInt ∧ (σ h0 0).toInt ≤ 60) (hT : zz_hX σ h0 T) (hus : (σ h0 5).toInt = us) (hu1 : us = 0 ∨ us = 1) (hv : lv.toInt = w) (ho : op.toInt = v), Met l yX7_readsLevel wzX7_readsLevel (zz_rm rk) (va_Pc [.ref h0, .int lv, .int op] (zz_B E σ)) (va_Qi (fun r σ1 => zz_ch (fun a k => (a = h0 ∧ (k = 0 ∨ k = 1)) ∨ a = h0 + 1) σ σ1 ∧ (((r.toInt = 0 ∨ r.toInt = 1) ∧ (0 ≤ (σ1 h0 1).toInt ∧ (σ1 h0 1).toInt ≤ 60) ∧ 0 ≤ (σ1 h0 0).toInt ∧ (σ1 h0 0).toInt ≤ 60) ∧ zz_q7 σ σ1 h0 r.toInt (zz_lw T (fun q => zz_uq T us (5 - v).toNat q) w (σ h0 0).toInt))) (zz_B E) (zz_A E)) 0 0 (zz_A E)
def k_X7_readsUnit (l : Launch) (E : zz_E) (rk : Nat) (T : Int → Int) (us : Int) (v : Int) : Prop := ∀ (σ : zz_S) (h0 : Nat) (op : Int32) (g0 : zz_Rd E h0) (hl1 : 0 ≤ (σ h0 1).toInt ∧ (σ h0 1).toInt ≤ 60) (hs : 0 ≤ (σ h0 4).toInt ∧ (σ h0 4).toInt ≤ 60) (hp0 : 0 ≤ (σ h0 0).toInt ∧ (σ h0 0).toInt ≤ 60) (hT : zz_hX σ h0 T) (hus : (σ h0 5).toInt = us) (hu1 : us = 0 ∨ us = 1) (ho : op.toInt = v), Met l yX7_readsUnit wzX7_readsUnit (zz_rm rk) (va_Pc [.ref h0, .int op] (zz_B E σ)) (va_Qi (fun r σ1 => zz_ch (fun a k => (a = h0 ∧ (k = 0 ∨ k = 1)) ∨ a = h0 + 1) σ σ1 ∧ (((r.toInt = 0 ∨ r.toInt = 1) ∧ (0 ≤ (σ1 h0 1).toInt ∧ (σ1 h0 1).toInt ≤ 60) ∧ 0 ≤ (σ1 h0 0).toInt ∧ (σ1 h0 0).toInt ≤ 60) ∧ zz_q7 σ σ1 h0 r.toInt (zz_uq T us (5 - v).toNat (σ h0 0).toInt))) (zz_B E) (zz_A E)) 0 0 (zz_A E)
def k_X7_readsNot (l : Launch) (E : zz_E) (rk : Nat) (T : Int → Int) (us : Int) (v : Int) : Prop := ∀ (σ : zz_S) (h0 : Nat) (op : Int32) (g0 : zz_Rd E h0) (hl1 : 0 ≤ (σ h0 1).toInt ∧ (σ h0 1).toInt ≤ 60) (hs : 0 ≤ (σ h0 4).toInt ∧ (σ h0 4).toInt ≤ 60) (hp0 : 0 ≤ (σ h0 0).toInt ∧ (σ h0 0).toInt ≤ 60) (hT : zz_hX σ h0 T) (hus : (σ h0 5).toInt = us) (hu1 : us = 0 ∨ us = 1) (ho : op.toInt = v), Met l yX7_readsNot wzX7_readsNot (zz_rm rk) (va_Pc [.ref h0, .int op] (zz_B E σ)) (va_Qi (fun r σ1 => zz_ch (fun a k => (a = h0 ∧ (k = 0 ∨ k = 1)) ∨ a = h0 + 1) σ σ1 ∧ (((r.toInt = 0 ∨ r.toInt = 1) ∧ (0 ≤ (σ1 h0 1).toInt ∧ (σ1 h0 1).toInt ≤ 60) ∧ 0 ≤ (σ1 h0 0).toInt ∧ (σ1 h0 0).toInt ≤ 60) ∧ zz_q7 σ σ1 h0 r.toInt (zz_nt (fun q => zz_uq T us (5 - v).toNat q) (σ h0 0).toInt))) (zz_B E) (zz_A E)) 0 0 (zz_A E)
def k_X7_readsRest (l : Launch) (E : zz_E) (rk : Nat) (T : Int → Int) (us : Int) (v : Int) : Prop := ∀ (σ : zz_S) (h0 : Nat) (op : Int32) (g0 : zz_Rd E h0) (hl1 : 0 ≤ (σ h0 1).toInt ∧ (σ h0 1).toInt ≤ 60) (hs : 0 ≤ (σ h0 4).toInt ∧ (σ h0 4).toInt ≤ 60) (hp0 : 0 ≤ (σ h0 0).toInt ∧ (σ h0 0).toInt ≤ 60) (hT : zz_hX σ h0 T) (hus : (σ h0 5).toInt = us) (hu1 : us = 0 ∨ us = 1) (ho : op.toInt = v), Met l yX7_readsRest wzX7_readsRest (zz_rm rk) (va_Pc [.ref h0, .int op] (zz_B E σ)) (va_Qi (fun r σ1 => zz_ch (fun a k => (a = h0 ∧ (k = 0 ∨ k = 1)) ∨ a = h0 + 1) σ σ1 ∧ (((r.toInt = 0 ∨ r.toInt = 1) ∧ (0 ≤ (σ1 h0 1).toInt ∧ (σ1 h0 1).toInt ≤ 60) ∧ 0 ≤ (σ1 h0 0).toInt ∧ (σ1 h0 0).toInt ≤ 60) ∧ zz_q7 σ σ1 h0 r.toInt (zz_rs T (fun q => zz_uq T us (5 - v).toNat q) (σ h0 0).toInt))) (zz_B E) (zz_A E)) 0 0 (zz_A E)
set_option maxHeartbeats 4000000 in
set_option maxRecDepth 100000 in
theorem c_X7_isDigit (l : Launch) (E : zz_E) (σ : zz_S) (v : Int32)  : Met l yX7_isDigit wzX7_isDigit ({ frames := 0, cells := 0, slots := 0, locals := 0 }) (va_Pc [.int v] (zz_B E σ)) (va_Qi (fun r σ1 => σ1 = σ ∧ ((r.toInt = 1 ∧ 48 ≤ v.toInt ∧ v.toInt ≤ 57) ∨ (r.toInt = 0 ∧ (v.toInt < 48 ∨ 57 < v.toInt)))) (zz_B E) (zz_A E)) 0 0 (zz_A E) := by
  refine zz_met (cc := cX7_isDigit) (maxL := 1) (ret := (some .boolean)) (by decide) rfl (Nat.le_of_ble_eq_true rfl) ?_
  intro p e s m args below meth c ls hx hb hr hts hown hlocks hml hK hP hS hl
  have hl : lv_has ls 1 [(0, .int v)] := hl
  have hown : s.vm.findClass RX7 = some m.cls := hown
  have k_0 : (0 : Int32).toInt = 0 := by decide +kernel
  have k_1 : (1 : Int32).toInt = 1 := by decide +kernel
  have k_48 : (48 : Int32).toInt = 48 := by decide +kernel
  have k_57 : (57 : Int32).toInt = 57 := by decide +kernel
  refine lv_iload_n hx hb dX7_isDigit_0 rfl (lv_at hl 0 rfl) ?_
  refine lv_bipush (v := 48) hx hb dX7_isDigit_1 (by decide) ?_
  refine lv_icmp_lt (tgt := 16) hx hb dX7_isDigit_3 (by decide) (fun c1 => ?_) (fun c1 => ?_)
  · have c1 := zz_ltT c1
    refine lv_iconst (v := 0) hx hb dX7_isDigit_16 (by decide) ?_
    exact zz_zret hx hb hr hlocks hK hP hS dX7_isDigit_17 (zz_01 (by omega)) (by refine ⟨rfl, ?_⟩; omega)
  · have c1 := zz_nltT c1
    refine lv_iload_n hx hb dX7_isDigit_6 rfl (lv_at hl 0 rfl) ?_
    refine lv_bipush (v := 57) hx hb dX7_isDigit_7 (by decide) ?_
    refine lv_icmp_gt (tgt := 16) hx hb dX7_isDigit_9 (by decide) (fun c2 => ?_) (fun c2 => ?_)
    · have c2 := zz_ltT c2
      refine lv_iconst (v := 0) hx hb dX7_isDigit_16 (by decide) ?_
      exact zz_zret hx hb hr hlocks hK hP hS dX7_isDigit_17 (zz_01 (by omega)) (by refine ⟨rfl, ?_⟩; omega)
    · have c2 := zz_nltT c2
      refine lv_iconst (v := 1) hx hb dX7_isDigit_12 (by decide) ?_
      refine lv_goto (tgt := 17) hx hb dX7_isDigit_13 (by decide) ?_
      exact zz_zret hx hb hr hlocks hK hP hS dX7_isDigit_17 (zz_01 (by omega)) (by refine ⟨rfl, ?_⟩; omega)
set_option maxHeartbeats 4000000 in
set_option maxRecDepth 100000 in
theorem c_X7_levelOf (l : Launch) (E : zz_E) (σ : zz_S) (v : Int32)  : Met l yX7_levelOf wzX7_levelOf ({ frames := 0, cells := 0, slots := 0, locals := 0 }) (va_Pc [.int v] (zz_B E σ)) (va_Qi (fun r σ1 => σ1 = σ ∧ (zz_lvp v.toInt r.toInt ∧ -1 ≤ r.toInt ∧ r.toInt ≤ 4)) (zz_B E) (zz_A E)) 0 0 (zz_A E) := by
  refine zz_met (cc := cX7_levelOf) (maxL := 1) (ret := (some .int)) (by decide) rfl (Nat.le_of_ble_eq_true rfl) ?_
  intro p e s m args below meth c ls hx hb hr hts hown hlocks hml hK hP hS hl
  have hl : lv_has ls 1 [(0, .int v)] := hl
  have hown : s.vm.findClass RX7 = some m.cls := hown
  have k_m1 : ((-1) : Int32).toInt = -1 := by decide +kernel
  have k_0 : (0 : Int32).toInt = 0 := by decide +kernel
  have k_1 : (1 : Int32).toInt = 1 := by decide +kernel
  have k_2 : (2 : Int32).toInt = 2 := by decide +kernel
  have k_3 : (3 : Int32).toInt = 3 := by decide +kernel
  have k_4 : (4 : Int32).toInt = 4 := by decide +kernel
  refine lv_iload_n hx hb dX7_levelOf_0 rfl (lv_at hl 0 rfl) ?_
  by_cases c1 : (v).toInt = 37
  · refine lv_lookup (off := 99) (tgt := 100) hx hb dX7_levelOf_1 (by decide) (by rw [c1]; decide) (by decide) ?_
    refine lv_iconst (v := 4) hx hb dX7_levelOf_100 (by decide) ?_
    exact zz_iret hx hb hr hlocks hK hP hS dX7_levelOf_101 (by exact ⟨rfl, zz_lvp.of (Or.inr (Or.inr (Or.inr (Or.inr (Or.inl ⟨by omega, by omega⟩))))), by omega⟩)
  by_cases c2 : (v).toInt = 38
  · refine lv_lookup (off := 93) (tgt := 94) hx hb dX7_levelOf_1 (by decide) (by rw [c2]; decide) (by decide) ?_
    refine lv_iconst (v := 1) hx hb dX7_levelOf_94 (by decide) ?_
    exact zz_iret hx hb hr hlocks hK hP hS dX7_levelOf_95 (by exact ⟨rfl, zz_lvp.of (Or.inr (Or.inl ⟨by omega, by omega⟩)), by omega⟩)
  by_cases c3 : (v).toInt = 42
  · refine lv_lookup (off := 99) (tgt := 100) hx hb dX7_levelOf_1 (by decide) (by rw [c3]; decide) (by decide) ?_
    refine lv_iconst (v := 4) hx hb dX7_levelOf_100 (by decide) ?_
    exact zz_iret hx hb hr hlocks hK hP hS dX7_levelOf_101 (by exact ⟨rfl, zz_lvp.of (Or.inr (Or.inr (Or.inr (Or.inr (Or.inl ⟨by omega, by omega⟩))))), by omega⟩)
  by_cases c4 : (v).toInt = 43
  · refine lv_lookup (off := 97) (tgt := 98) hx hb dX7_levelOf_1 (by decide) (by rw [c4]; decide) (by decide) ?_
    refine lv_iconst (v := 3) hx hb dX7_levelOf_98 (by decide) ?_
    exact zz_iret hx hb hr hlocks hK hP hS dX7_levelOf_99 (by exact ⟨rfl, zz_lvp.of (Or.inr (Or.inr (Or.inr (Or.inl ⟨by omega, by omega⟩)))), by omega⟩)
  by_cases c5 : (v).toInt = 45
  · refine lv_lookup (off := 97) (tgt := 98) hx hb dX7_levelOf_1 (by decide) (by rw [c5]; decide) (by decide) ?_
    refine lv_iconst (v := 3) hx hb dX7_levelOf_98 (by decide) ?_
    exact zz_iret hx hb hr hlocks hK hP hS dX7_levelOf_99 (by exact ⟨rfl, zz_lvp.of (Or.inr (Or.inr (Or.inr (Or.inl ⟨by omega, by omega⟩)))), by omega⟩)
  by_cases c6 : (v).toInt = 47
  · refine lv_lookup (off := 99) (tgt := 100) hx hb dX7_levelOf_1 (by decide) (by rw [c6]; decide) (by decide) ?_
    refine lv_iconst (v := 4) hx hb dX7_levelOf_100 (by decide) ?_
    exact zz_iret hx hb hr hlocks hK hP hS dX7_levelOf_101 (by exact ⟨rfl, zz_lvp.of (Or.inr (Or.inr (Or.inr (Or.inr (Or.inl ⟨by omega, by omega⟩))))), by omega⟩)
  by_cases c7 : (v).toInt = 60
  · refine lv_lookup (off := 95) (tgt := 96) hx hb dX7_levelOf_1 (by decide) (by rw [c7]; decide) (by decide) ?_
    refine lv_iconst (v := 2) hx hb dX7_levelOf_96 (by decide) ?_
    exact zz_iret hx hb hr hlocks hK hP hS dX7_levelOf_97 (by exact ⟨rfl, zz_lvp.of (Or.inr (Or.inr (Or.inl ⟨by omega, by omega⟩))), by omega⟩)
  by_cases c8 : (v).toInt = 61
  · refine lv_lookup (off := 95) (tgt := 96) hx hb dX7_levelOf_1 (by decide) (by rw [c8]; decide) (by decide) ?_
    refine lv_iconst (v := 2) hx hb dX7_levelOf_96 (by decide) ?_
    exact zz_iret hx hb hr hlocks hK hP hS dX7_levelOf_97 (by exact ⟨rfl, zz_lvp.of (Or.inr (Or.inr (Or.inl ⟨by omega, by omega⟩))), by omega⟩)
  by_cases c9 : (v).toInt = 62
  · refine lv_lookup (off := 95) (tgt := 96) hx hb dX7_levelOf_1 (by decide) (by rw [c9]; decide) (by decide) ?_
    refine lv_iconst (v := 2) hx hb dX7_levelOf_96 (by decide) ?_
    exact zz_iret hx hb hr hlocks hK hP hS dX7_levelOf_97 (by exact ⟨rfl, zz_lvp.of (Or.inr (Or.inr (Or.inl ⟨by omega, by omega⟩))), by omega⟩)
  by_cases c10 : (v).toInt = 124
  · refine lv_lookup (off := 91) (tgt := 92) hx hb dX7_levelOf_1 (by decide) (by rw [c10]; decide) (by decide) ?_
    refine lv_iconst (v := 0) hx hb dX7_levelOf_92 (by decide) ?_
    exact zz_iret hx hb hr hlocks hK hP hS dX7_levelOf_93 (by exact ⟨rfl, zz_lvp.of (Or.inl ⟨by omega, by omega⟩), by omega⟩)
  refine lv_lookup (off := 101) (tgt := 102) hx hb dX7_levelOf_1 (by decide) (by rw [Op.lookupswitch.offset_cons, if_neg (by omega)]; rw [Op.lookupswitch.offset_cons, if_neg (by omega)]; rw [Op.lookupswitch.offset_cons, if_neg (by omega)]; rw [Op.lookupswitch.offset_cons, if_neg (by omega)]; rw [Op.lookupswitch.offset_cons, if_neg (by omega)]; rw [Op.lookupswitch.offset_cons, if_neg (by omega)]; rw [Op.lookupswitch.offset_cons, if_neg (by omega)]; rw [Op.lookupswitch.offset_cons, if_neg (by omega)]; rw [Op.lookupswitch.offset_cons, if_neg (by omega)]; rw [Op.lookupswitch.offset_cons, if_neg (by omega)]; rfl) (by decide) ?_
  refine lv_iconst (v := (-1)) hx hb dX7_levelOf_102 (by decide) ?_
  exact zz_iret hx hb hr hlocks hK hP hS dX7_levelOf_103 (by exact ⟨rfl, zz_lvp.of (Or.inr (Or.inr (Or.inr (Or.inr (Or.inr (⟨by omega, by omega⟩)))))), by omega⟩)
set_option maxHeartbeats 4000000 in
set_option maxRecDepth 100000 in
theorem c_X7_here (l : Launch) (E : zz_E) (σ : zz_S) (h0 : Nat) (g0 : zz_Rd E h0) (hs : 0 ≤ (σ h0 4).toInt ∧ (σ h0 4).toInt ≤ 60) (T : Int → Int) (hT : zz_hX σ h0 T) : Met l yX7_here wzX7_here ({ frames := 0, cells := 0, slots := 0, locals := 0 }) (va_Pc [.ref h0] (zz_B E σ)) (va_Qi (fun r σ1 => σ1 = σ ∧ (r.toInt = T (σ h0 0).toInt ∧ (r.toInt < 0 ∨ (0 ≤ (σ h0 0).toInt ∧ (σ h0 0).toInt < (σ h0 4).toInt)))) (zz_B E) (zz_A E)) 0 0 (zz_A E) := by
  refine zz_met (cc := cX7_here) (maxL := 1) (ret := (some .int)) (by decide) rfl (Nat.le_of_ble_eq_true rfl) ?_
  intro p e s m args below meth c ls hx hb hr hts hown hlocks hml hK hP hS hl
  have hl : lv_has ls 1 [(0, .ref h0)] := hl
  have hown : s.vm.findClass RX7 = some m.cls := hown
  have hi7 : ∀ w ∈ wsX70, w ∈ wzX7_here := fun w h => List.mem_cons_of_mem _ (hbw7 w h)
  have k_m1 : ((-1) : Int32).toInt = -1 := by decide +kernel
  have k_0 : (0 : Int32).toInt = 0 := by decide +kernel
  have k_255 : (255 : Int32).toInt = 255 := by decide +kernel
  refine lv_aload_n hx hb dX7_here_0 rfl (lv_at hl 0 rfl) ?_
  refine zz_geti hx hb hts hi7 hown hK hP (g0.1) rfl 0 (by decide) (hts (.fieldLink RX7 41 "NoonLaw$TextReader" "place" "I") (List.mem_cons_of_mem _ bm_458)) rfl rfl rfl dX7_here_1 ?_
  refine lv_if_lt (tgt := 34) hx hb dX7_here_4 (by decide) (fun c1 => ?_) (fun c1 => ?_)
  · have c1 := zz_ltT c1
    refine lv_iconst (v := (-1)) hx hb dX7_here_34 (by decide) ?_
    exact zz_iret hx hb hr hlocks hK hP hS dX7_here_35 (by refine ⟨rfl, ?_, Or.inl (by omega)⟩; rw [hT, if_neg (by omega)]; exact k_m1)
  · have c1 := zz_nltT c1
    refine lv_aload_n hx hb dX7_here_7 rfl (lv_at hl 0 rfl) ?_
    refine zz_geti hx hb hts hi7 hown hK hP (g0.1) rfl 0 (by decide) (hts (.fieldLink RX7 41 "NoonLaw$TextReader" "place" "I") (List.mem_cons_of_mem _ bm_458)) rfl rfl rfl dX7_here_8 ?_
    refine lv_aload_n hx hb dX7_here_11 rfl (lv_at hl 0 rfl) ?_
    refine zz_geti hx hb hts hi7 hown hK hP (g0.1) rfl 4 (by decide) (hts (.fieldLink RX7 28 "NoonLaw$TextReader" "size" "I") (List.mem_cons_of_mem _ bm_452)) rfl rfl rfl dX7_here_12 ?_
    refine lv_icmp_ge (tgt := 34) hx hb dX7_here_15 (by decide) (fun c2 => ?_) (fun c2 => ?_)
    · have c2 := zz_leT c2
      refine lv_iconst (v := (-1)) hx hb dX7_here_34 (by decide) ?_
      exact zz_iret hx hb hr hlocks hK hP hS dX7_here_35 (by refine ⟨rfl, ?_, Or.inl (by omega)⟩; rw [hT, if_neg (by omega)]; exact k_m1)
    · have c2 := zz_nleT c2
      refine lv_aload_n hx hb dX7_here_18 rfl (lv_at hl 0 rfl) ?_
      refine zz_getr hx hb hts hi7 hown hK hP (g0.1) rfl 3 (by decide) (hts (.fieldLink RX7 15 "NoonLaw$TextReader" "tape" "[B") (List.mem_cons_of_mem _ bm_78)) rfl rfl dX7_here_19 ?_
      refine lv_aload_n hx hb dX7_here_22 rfl (lv_at hl 0 rfl) ?_
      refine zz_geti hx hb hts hi7 hown hK hP (g0.1) rfl 0 (by decide) (hts (.fieldLink RX7 41 "NoonLaw$TextReader" "place" "I") (List.mem_cons_of_mem _ bm_458)) rfl rfl rfl dX7_here_23 ?_
      refine zz_bald hx hb hK hP (g0.2.2) (by omega) (by omega) dX7_here_26 (fun j3 q3 r3 => ?_)
      skip
      refine lv_sipush (v := 255) hx hb dX7_here_27 (by decide) ?_
      refine lv_iand hx hb dX7_here_30 ?_
      refine lv_topi (fun n4 e4 => ?_)
      refine lv_goto (tgt := 35) hx hb dX7_here_31 (by decide) ?_
      exact zz_iret hx hb hr hlocks hK hP hS dX7_here_35 (by refine ⟨rfl, ?_, Or.inr ⟨by omega, by omega⟩⟩; rw [hT, if_pos ⟨by omega, by omega⟩, show (σ h0 0).toInt.toNat = j3 from by omega, e4])
theorem gX7_nameOf_X8_within_n86 : GoodIn wzX7_nameOf (wzX8_within) := wz_in bm_114
set_option maxHeartbeats 4000000 in
set_option maxRecDepth 100000 in
theorem c_X7_nameOf (l : Launch) (E : zz_E) (σ : zz_S) (h0 : Nat) (sg : Int32) (g0 : zz_Rd E h0) (us : Int) (hus : (σ h0 5).toInt = us) (hu1 : us = 0 ∨ us = 1) : Met l yX7_nameOf wzX7_nameOf ({ frames := 1, cells := 0, slots := 0, locals := 22 }) (va_Pc [.ref h0, .int sg] (zz_B E σ)) (va_Qi (fun r σ1 => σ1 = σ ∧ (zz_nmp us sg.toInt r.toInt ∧ -1 ≤ r.toInt ∧ r.toInt ≤ 2)) (zz_B E) (zz_A E)) 0 0 (zz_A E) := by
  refine zz_met (cc := cX7_nameOf) (maxL := 4) (ret := (some .int)) (by decide) rfl (Nat.le_of_ble_eq_true rfl) ?_
  intro p e s m args below meth c ls hx hb hr hts hown hlocks hml hK hP hS hl
  have hl : lv_has ls 4 [(0, .ref h0), (1, .int sg)] := hl
  have hown : s.vm.findClass RX7 = some m.cls := hown
  have hi7 : ∀ w ∈ wsX70, w ∈ wzX7_nameOf := fun w h => List.mem_cons_of_mem _ (hbw7 w h)
  have k_m1 : ((-1) : Int32).toInt = -1 := by decide +kernel
  have k_0 : (0 : Int32).toInt = 0 := by decide +kernel
  have k_1 : (1 : Int32).toInt = 1 := by decide +kernel
  have k_3 : (3 : Int32).toInt = 3 := by decide +kernel
  have k_6 : (6 : Int32).toInt = 6 := by decide +kernel
  refine lv_aload_n hx hb dX7_nameOf_0 rfl (lv_at hl 0 rfl) ?_
  refine zz_geti hx hb hts hi7 hown hK hP (g0.1) rfl 5 (by decide) (hts (.fieldLink RX7 38 "NoonLaw$TextReader" "use" "I") (List.mem_cons_of_mem _ bm_457)) rfl rfl rfl dX7_nameOf_1 ?_
  refine lv_iconst (v := 3) hx hb dX7_nameOf_4 (by decide) ?_
  refine lv_imul hx hb dX7_nameOf_5 ?_
  refine lv_topi (fun n1 e1 => ?_)
  have f1 : n1.toInt = (σ h0 5).toInt * 3 := zz_mulT 3 e1 (by decide) (by omega) (by omega)
  refine lv_istore_n (lv' := [(2, .int n1), (0, .ref h0), (1, .int sg)]) hx hb dX7_nameOf_6 rfl hl (by decide) rfl (fun ls hl => ?_)
  refine lv_iconst (v := 0) hx hb dX7_nameOf_7 (by decide) ?_
  refine lv_istore_n (lv' := [(3, .int 0), (2, .int n1), (0, .ref h0), (1, .int sg)]) hx hb dX7_nameOf_8 rfl hl (by decide) rfl (fun ls hl => ?_)
  have J9 : ∀ (n : Nat) (ii : Int32) (H : Heap) (locs : List Loc) (ls : Array Slot), ((3 - ii.toInt).toNat) < n → (0 ≤ ii.toInt ∧ ii.toInt ≤ 3) → (zz_nmI us sg.toInt ii.toInt) → zz_P E σ H → va_S (zz_A E) s.heap H locs → lv_has ls 4 [(3, .int ii), (2, .int n1), (0, .ref h0), (1, .int sg)] → W p l e (headSpec wzX7_nameOf ({ frames := 1, cells := 0, slots := 0, locals := 22 })).room s m args below meth c H locs 0 0 (MQ below (va_Qi (fun r σ1 => σ1 = σ ∧ (zz_nmp us sg.toInt r.toInt ∧ -1 ≤ r.toInt ∧ r.toInt ≤ 2)) (zz_B E) (zz_A E)) args s 0 0 (zz_A E)) (F0 m 9 ls []) := by
    intro n
    induction n with
    | zero => intro ii H locs ls hm; exact absurd hm (Nat.not_lt_zero _)
    | succ n ih9 =>
      intro ii H locs ls hm f9_0 f9_1 hP hS hl
      refine lv_iload_n hx hb dX7_nameOf_9 rfl (lv_at hl 0 rfl) ?_
      refine lv_iconst (v := 3) hx hb dX7_nameOf_10 (by decide) ?_
      refine lv_icmp_ge (tgt := 49) hx hb dX7_nameOf_11 (by decide) (fun c2 => ?_) (fun c2 => ?_)
      · have c2 := zz_leT c2
        refine lv_iconst (v := (-1)) hx hb dX7_nameOf_49 (by decide) ?_
        exact zz_iret hx hb hr hlocks hK hP hS dX7_nameOf_50 (by exact ⟨rfl, f9_1.none (by omega) k_m1, by omega, by omega⟩)
      · have c2 := zz_nleT c2
        refine lv_iload_n hx hb dX7_nameOf_14 rfl (lv_at hl 1 rfl) ?_
        refine lv_iload_n hx hb dX7_nameOf_15 rfl (lv_at hl 0 rfl) ?_
        refine lv_iadd hx hb dX7_nameOf_16 ?_
        refine lv_topi (fun n3 e3 => ?_)
        have f3 : n3.toInt = (n1).toInt + (ii).toInt := zz_addT e3 (by omega) (by omega)
        refine lv_iconst (v := 0) hx hb dX7_nameOf_17 (by decide) ?_
        refine va_getsN hx hb hK.2.1.2.2.1 hS hown (va_Nw.use rfl (hK.2.2.2.2.2.2.1)) (fun _ h9 => h9) dX7_nameOf_18 ?_
        refine va_tlen hx hb hK.2.1.2.2.2 hS (v := 6) (by decide) dX7_nameOf_21 ?_
        refine lv_iconst (v := 1) hx hb dX7_nameOf_22 (by decide) ?_
        refine lv_isub hx hb dX7_nameOf_23 ?_
        refine lv_topi (fun n4 e4 => ?_)
        have f4 : n4.toInt = (6 : Int32).toInt - (1 : Int32).toInt := zz_subT e4 (by omega) (by omega)
        refine zz_callNp (As := [.int n3, .int 0, .int n4]) (rest := []) ⟨hx, hb, hml, hown, hts⟩ hK hP hS (c_X8_within l E σ n3 0 n4) ⟨va_cnB 3 hts gX7_nameOf_X8_within_n86 rfl rfl rfl (hK.2.2.2.2.1) (hts (.initialized RX8) (List.mem_cons_of_mem _ bm_2)) (by decide +kernel) ⟨Nat.le_of_ble_eq_true rfl, Nat.le_of_ble_eq_true rfl⟩, hts (.static yX8_within) (by decide +kernel), trivial⟩ rfl hl.1 rfl (Nat.le_of_ble_eq_true rfl) dX7_nameOf_24 ⟨Nat.zero_le _, Nat.zero_le _⟩ (fun r5 H locs f5 hP1 hS1 => ?_)
        replace hP := hP1
        replace hS := hS1
        clear hP1 hS1
        refine lv_if_eq (tgt := 43) hx hb dX7_nameOf_27 (by decide) (fun c6 => ?_) (fun c6 => ?_)
        · have c6 := zz_eqT c6
          obtain ⟨n7, e7⟩ : ∃ y : Int32, y = ii + 1 := ⟨_, rfl⟩
          have f7 : n7.toInt = (ii).toInt + (1) := by have h9 := zz_addT e7 (by omega) (by omega); omega
          refine lv_iinc (v := n7) (lv' := [(3, .int n7), (2, .int n1), (0, .ref h0), (1, .int sg)]) hx hb dX7_nameOf_43 hl (k := 0) rfl (by rw [e7]; rfl) (by decide) rfl (fun ls hl => ?_)
          refine lv_goto (tgt := 9) hx hb dX7_nameOf_46 (by decide) ?_
          exact ih9 n7 _ _ _ (by omega) (by omega) (by exfalso; omega) hP hS (lv_sub hl [0, 1, 2, 3] rfl)
        · have c6 := zz_neT c6
          refine va_getsN hx hb hK.2.1.2.2.1 hS hown (va_Nw.use rfl (hK.2.2.2.2.2.2.1)) (fun _ h9 => h9) dX7_nameOf_30 ?_
          refine lv_iload_n hx hb dX7_nameOf_33 rfl (lv_at hl 1 rfl) ?_
          refine lv_iload_n hx hb dX7_nameOf_34 rfl (lv_at hl 0 rfl) ?_
          refine lv_iadd hx hb dX7_nameOf_35 ?_
          refine lv_topi (fun n8 e8 => ?_)
          have f8 : n8.toInt = (n1).toInt + (ii).toInt := zz_addT e8 (by omega) (by omega)
          refine va_tc (v := .int (zz_vN (n8 : Int32).toNatClampNeg)) hx hb hK.2.1.2.2.2 hS (vp_in_iff.mpr ⟨by omega, by omega⟩) rfl dX7_nameOf_36 ?_
          refine lv_topi (fun n9 e9 => ?_)
          have hnc := zz_vN_n (us := us) (i := ii.toInt) e9 hu1 (by omega) ⟨by omega, by omega⟩
          refine lv_iload_n hx hb dX7_nameOf_37 rfl (lv_at hl 3 rfl) ?_
          refine lv_icmp_ne (tgt := 43) hx hb dX7_nameOf_38 (by decide) (fun c10 => ?_) (fun c10 => ?_)
          · have c10 := zz_neT c10
            obtain ⟨n11, e11⟩ : ∃ y : Int32, y = ii + 1 := ⟨_, rfl⟩
            have f11 : n11.toInt = (ii).toInt + (1) := by have h9 := zz_addT e11 (by omega) (by omega); omega
            refine lv_iinc (v := n11) (lv' := [(3, .int n11), (2, .int n1), (0, .ref h0), (1, .int sg)]) hx hb dX7_nameOf_43 hl (k := 0) rfl (by rw [e11]; rfl) (by decide) rfl (fun ls hl => ?_)
            refine lv_goto (tgt := 9) hx hb dX7_nameOf_46 (by decide) ?_
            exact ih9 n11 _ _ _ (by omega) (by omega) (by exact f9_1.next hnc (by omega) (by omega)) hP hS (lv_sub hl [0, 1, 2, 3] rfl)
          · have c10 := zz_eqT c10
            refine lv_iload_n hx hb dX7_nameOf_41 rfl (lv_at hl 0 rfl) ?_
            exact zz_iret hx hb hr hlocks hK hP hS dX7_nameOf_42 (by exact ⟨rfl, f9_1.hit hnc (by omega) ⟨by omega, by omega⟩, by omega, by omega⟩)
  exact J9 _ 0 _ _ _ (Nat.lt_succ_self _) (by omega) (by exact zz_nmI.zero (by omega)) hP hS (lv_sub hl [0, 1, 2, 3] rfl)
theorem dS9_1 (x0 : Nat) : ((x0) = x0 ∧ (1) = 1) ∨ (x0) = x0 + 1 := by omega
set_option maxHeartbeats 4000000 in
set_option maxRecDepth 100000 in
theorem c_X7_emit (l : Launch) (E : zz_E) (σ : zz_S) (h0 : Nat) (cd : Int32) (g0 : zz_Rd E h0) (hl1 : 0 ≤ (σ h0 1).toInt ∧ (σ h0 1).toInt ≤ 60) : Met l yX7_emit wzX7_emit ({ frames := 0, cells := 0, slots := 0, locals := 0 }) (va_Pc [.ref h0, .int cd] (zz_B E σ)) (va_Qv (fun σ1 => zz_ch (fun a k => (a = h0 ∧ k = 1) ∨ a = h0 + 1) σ σ1 ∧ ((0 ≤ (σ1 h0 1).toInt ∧ (σ1 h0 1).toInt ≤ 60) ∧ (σ1 h0 0).toInt = (σ h0 0).toInt ∧ zz_tq σ σ1 (h0 + 1) h0 1 [cd.toInt])) (zz_B E) (zz_A E)) 0 0 (zz_A E) := by
  refine zz_met (cc := cX7_emit) (maxL := 2) (ret := none) (by decide) rfl (Nat.le_of_ble_eq_true rfl) ?_
  intro p e s m args below meth c ls hx hb hr hts hown hlocks hml hK hP hS hl
  have hl : lv_has ls 2 [(0, .ref h0), (1, .int cd)] := hl
  have hown : s.vm.findClass RX7 = some m.cls := hown
  have hi7 : ∀ w ∈ wsX70, w ∈ wzX7_emit := fun w h => List.mem_cons_of_mem _ (hbw7 w h)
  have k_1 : (1 : Int32).toInt = 1 := by decide +kernel
  have k_60 : (60 : Int32).toInt = 60 := by decide +kernel
  replace t0 : σ h0 1 = σ h0 1 := rfl
  have hC : zz_ch (fun a k => (a = h0 ∧ k = 1) ∨ a = h0 + 1) σ σ := zz_ch.rf σ
  refine lv_aload_n hx hb dX7_emit_0 rfl (lv_at hl 0 rfl) ?_
  refine zz_geti hx hb hts hi7 hown hK hP (g0.1) rfl 1 (by decide) (hts (.fieldLink RX7 44 "NoonLaw$TextReader" "length" "I") (List.mem_cons_of_mem _ bm_459)) rfl rfl t0 dX7_emit_1 ?_
  refine lv_bipush (v := 60) hx hb dX7_emit_4 (by decide) ?_
  refine lv_icmp_ge (tgt := 29) hx hb dX7_emit_6 (by decide) (fun c1 => ?_) (fun c1 => ?_)
  · have c1 := zz_leT c1
    exact zz_vret hx hb hr hlocks hK hP hS dX7_emit_29 (by exact ⟨hC, by rw [t0]; omega, rfl, zz_tq.full (by omega)⟩)
  · have c1 := zz_nleT c1
    refine lv_aload_n hx hb dX7_emit_9 rfl (lv_at hl 0 rfl) ?_
    refine zz_getr hx hb hts hi7 hown hK hP (g0.1) rfl 2 (by decide) (hts (.fieldLink RX7 9 "NoonLaw$TextReader" "codes" "[I") (List.mem_cons_of_mem _ bm_77)) rfl rfl dX7_emit_10 ?_
    refine lv_aload_n hx hb dX7_emit_13 rfl (lv_at hl 0 rfl) ?_
    refine zz_geti hx hb hts hi7 hown hK hP (g0.1) rfl 1 (by decide) (hts (.fieldLink RX7 44 "NoonLaw$TextReader" "length" "I") (List.mem_cons_of_mem _ bm_459)) rfl rfl t0 dX7_emit_14 ?_
    refine lv_iload_n hx hb dX7_emit_17 rfl (lv_at hl 1 rfl) ?_
    refine zz_iast hx hb hK hP hS (g0.2.1) (by omega) (by omega) dX7_emit_18 (fun j2 σ2 H locs q2 r2 w2 hP1 hS1 => ?_)
    replace hP := hP1
    replace hS := hS1
    clear hP1 hS1
    replace hC := hC.u w2 (by first | (dsimp only; omega) | omega | (dsimp only; done))
    replace t0 : σ2 h0 1 = σ h0 1 := (zz_w (b := h0) (j := 1) w2 (fun q9 => zz_na (a := h0) (i := 0) (j := 1) (by decide) q9.1)).trans t0
    refine lv_aload_n hx hb dX7_emit_19 rfl (lv_at hl 0 rfl) ?_
    refine lv_dup hx hb dX7_emit_20 rfl ?_
    refine zz_geti hx hb hts hi7 hown hK hP (g0.1) rfl 1 (by decide) (hts (.fieldLink RX7 44 "NoonLaw$TextReader" "length" "I") (List.mem_cons_of_mem _ bm_459)) rfl rfl t0 dX7_emit_21 ?_
    refine lv_iconst (v := 1) hx hb dX7_emit_24 (by decide) ?_
    refine lv_iadd hx hb dX7_emit_25 ?_
    refine lv_topi (fun n3 e3 => ?_)
    have f3 : n3.toInt = (σ h0 1).toInt + (1 : Int32).toInt := zz_addT e3 (by omega) (by omega)
    refine zz_puti (v := n3) (ty := .int) hx hb hts hi7 tyX7 tyX7_ok nmX7 hown hK hP hS (g0.1) rfl 1 (by decide) (hts (.fieldLink RX7 44 "NoonLaw$TextReader" "length" "I") (List.mem_cons_of_mem _ bm_459)) rfl rfl (by decide +kernel) rfl rfl rfl dX7_emit_26 (fun σ4 H locs w4 hP1 hS1 => ?_)
    replace hP := hP1
    replace hS := hS1
    clear hP1 hS1
    replace hC := hC.u w4 (dS9_1 h0)
    replace t0 : σ4 h0 1 = n3 := zz_w1 w4
    exact zz_vret hx hb hr hlocks hK hP hS dX7_emit_29 (by exact ⟨hC, by rw [t0]; omega, congrArg Int32.toInt (hC _ _ (by first | (dsimp only; omega) | omega)), zz_tq.begin w2 w4 (by omega) (by omega) (by omega) (by omega)⟩)
theorem gX7_readNumber_X7_here : GoodIn wzX7_readNumber (wsV RX7 55 RX7 yX7_here wzX7_here) := wz_co bm_467 (wz_co bm_468 (wz_co bm_469 (wz_co bm_26 (wz_in bm_470))))
theorem gX7_readNumber_X7_isDigit : GoodIn wzX7_readNumber (va_wsS RX7 67 yX7_isDigit wzX7_isDigit) := wz_co bm_481 (wz_co bm_482 (wz_co bm_26 (wz_in bm_483)))
theorem gX7_readNumber_X7_emit : GoodIn wzX7_readNumber (wsV RX7 63 RX7 yX7_emit wzX7_emit) := wz_co bm_474 (wz_co bm_475 (wz_co bm_476 (wz_co bm_26 (wz_in bm_477))))
theorem dS9_2 (x0 : Nat) : ∀ a k : Nat, ((a = (x0) ∧ k = 1) ∨ a = (x0) + 1) → ((a = x0 ∧ (k = 0 ∨ k = 1)) ∨ a = x0 + 1) := by intro a k h; omega
theorem dS9_3 (x0 : Nat) : ¬ (((x0) = (x0) ∧ (4) = 1) ∨ (x0) = (x0) + 1) := by omega
theorem dS9_4 (x0 : Nat) : ((x0) = x0 ∧ ((0) = 0 ∨ (0) = 1)) ∨ (x0) = x0 + 1 := by omega
set_option maxHeartbeats 4000000 in
set_option maxRecDepth 100000 in
theorem c_X7_readNumber (l : Launch) (E : zz_E) (σ : zz_S) (h0 : Nat) (g0 : zz_Rd E h0) (hl1 : 0 ≤ (σ h0 1).toInt ∧ (σ h0 1).toInt ≤ 60) (hs : 0 ≤ (σ h0 4).toInt ∧ (σ h0 4).toInt ≤ 60) (hp0 : 0 ≤ (σ h0 0).toInt ∧ (σ h0 0).toInt ≤ 60) (T : Int → Int) (hT : zz_hX σ h0 T) : Met l yX7_readNumber wzX7_readNumber ({ frames := 1, cells := 0, slots := 0, locals := 21 }) (va_Pc [.ref h0] (zz_B E σ)) (va_Qv (fun σ1 => zz_ch (fun a k => (a = h0 ∧ (k = 0 ∨ k = 1)) ∨ a = h0 + 1) σ σ1 ∧ (((0 ≤ (σ1 h0 1).toInt ∧ (σ1 h0 1).toInt ≤ 60) ∧ 0 ≤ (σ1 h0 0).toInt ∧ (σ1 h0 0).toInt ≤ 60) ∧ zz_q7 σ σ1 h0 1 (1, (zz_nmv T 4 (σ h0 0).toInt 0).1, [(1, (zz_nmv T 4 (σ h0 0).toInt 0).2)]))) (zz_B E) (zz_A E)) 0 0 (zz_A E) := by
  refine zz_met (cc := cX7_readNumber) (maxL := 3) (ret := none) (by decide) rfl (Nat.le_of_ble_eq_true rfl) ?_
  intro p e s m args below meth c ls hx hb hr hts hown hlocks hml hK hP hS hl
  have hl : lv_has ls 3 [(0, .ref h0)] := hl
  have hown : s.vm.findClass RX7 = some m.cls := hown
  have hi7 : ∀ w ∈ wsX70, w ∈ wzX7_readNumber := fun w h => List.mem_cons_of_mem _ (hbw7 w h)
  have k_0 : (0 : Int32).toInt = 0 := by decide +kernel
  have k_1 : (1 : Int32).toInt = 1 := by decide +kernel
  have k_4 : (4 : Int32).toInt = 4 := by decide +kernel
  have k_10 : (10 : Int32).toInt = 10 := by decide +kernel
  have k_48 : (48 : Int32).toInt = 48 := by decide +kernel
  replace t0 : σ h0 1 = σ h0 1 := rfl
  replace t1 : σ h0 4 = σ h0 4 := rfl
  have hC : zz_ch (fun a k => (a = h0 ∧ (k = 0 ∨ k = 1)) ∨ a = h0 + 1) σ σ := zz_ch.rf σ
  refine lv_iconst (v := 0) hx hb dX7_readNumber_0 (by decide) ?_
  refine lv_istore_n (lv' := [(1, .int 0), (0, .ref h0)]) hx hb dX7_readNumber_1 rfl hl (by decide) rfl (fun ls hl => ?_)
  refine lv_iconst (v := 0) hx hb dX7_readNumber_2 (by decide) ?_
  refine lv_istore_n (lv' := [(2, .int 0), (1, .int 0), (0, .ref h0)]) hx hb dX7_readNumber_3 rfl hl (by decide) rfl (fun ls hl => ?_)
  have J4 : ∀ (n : Nat) (nu : Int32) (ii : Int32) (σa : zz_S) (H : Heap) (locs : List Loc) (ls : Array Slot), ((4 - ii.toInt).toNat) < n → (zz_ch (fun a k => (a = h0 ∧ (k = 0 ∨ k = 1)) ∨ a = h0 + 1) σ σa) → (0 ≤ ii.toInt ∧ ii.toInt ≤ 4) → (0 ≤ nu.toInt ∧ (ii.toInt ≤ 0 → nu.toInt ≤ 0) ∧ (ii.toInt ≤ 1 → nu.toInt ≤ 9) ∧ (ii.toInt ≤ 2 → nu.toInt ≤ 99) ∧ (ii.toInt ≤ 3 → nu.toInt ≤ 999) ∧ nu.toInt ≤ 9999) → (zz_n7 T (4 - ii.toInt).toNat σa h0 (σ h0 0).toInt nu.toInt) → (∀ k : Nat, σa (h0 + 1) k = σ (h0 + 1) k) → (σa h0 1 = σ h0 1) → (0 ≤ (σa h0 0).toInt ∧ (σa h0 0).toInt ≤ 60) → (σa h0 1 = σ h0 1) → (σa h0 4 = σ h0 4) → zz_P E σa H → va_S (zz_A E) s.heap H locs → lv_has ls 3 [(2, .int ii), (1, .int nu), (0, .ref h0)] → W p l e (headSpec wzX7_readNumber ({ frames := 1, cells := 0, slots := 0, locals := 21 })).room s m args below meth c H locs 0 0 (MQ below (va_Qv (fun σ1 => zz_ch (fun a k => (a = h0 ∧ (k = 0 ∨ k = 1)) ∨ a = h0 + 1) σ σ1 ∧ (((0 ≤ (σ1 h0 1).toInt ∧ (σ1 h0 1).toInt ≤ 60) ∧ 0 ≤ (σ1 h0 0).toInt ∧ (σ1 h0 0).toInt ≤ 60) ∧ zz_q7 σ σ1 h0 1 (1, (zz_nmv T 4 (σ h0 0).toInt 0).1, [(1, (zz_nmv T 4 (σ h0 0).toInt 0).2)]))) (zz_B E) (zz_A E)) args s 0 0 (zz_A E)) (F0 m 4 ls []) := by
    intro n
    induction n with
    | zero => intro nu ii σa H locs ls hm; exact absurd hm (Nat.not_lt_zero _)
    | succ n ih4 =>
      intro nu ii σa H locs ls hm hC f4_0 f4_1 f4_2 f4_3 f4_4 f4_5 t0 t1 hP hS hl
      refine lv_iload_n hx hb dX7_readNumber_4 rfl (lv_at hl 0 rfl) ?_
      refine lv_iconst (v := 4) hx hb dX7_readNumber_5 (by decide) ?_
      refine lv_icmp_ge (tgt := 48) hx hb dX7_readNumber_6 (by decide) (fun c1 => ?_) (fun c1 => ?_)
      · have c1 := zz_leT c1
        refine lv_aload_n hx hb dX7_readNumber_48 rfl (lv_at hl 2 rfl) ?_
        refine lv_iload_n hx hb dX7_readNumber_49 rfl (lv_at hl 1 rfl) ?_
        refine zz_callVv (As := [.int nu]) (rest := []) ⟨hx, hb, hml, hown, hts⟩ hK hP hS (c_X7_emit l E σa h0 nu g0 (by first | omega | (rw [t0]; omega) | (rw [t1]; omega))) (cwV 1 hts gX7_readNumber_X7_emit rfl rfl rfl (by decide +kernel) ⟨Nat.le_of_ble_eq_true rfl, Nat.le_of_ble_eq_true rfl⟩) (g0.1) rfl rfl hl.1 rfl (Nat.le_of_ble_eq_true rfl) dX7_readNumber_50 ⟨Nat.zero_le _, Nat.zero_le _⟩ (fun σ2 H locs q2 hP1 hS1 => ?_)
        replace hP := hP1
        replace hS := hS1
        clear hP1 hS1
        try dsimp only at q2
        obtain ⟨w2, f2⟩ := q2
        replace hC := hC.tr (w2.mono (dS9_2 h0))
        try simp only [t0, t1] at f2
        replace t0 : σ2 h0 1 = σ2 h0 1 := rfl
        replace t1 : σ2 h0 4 = σ h0 4 := (w2 h0 4 (dS9_3 h0)).trans t1
        exact zz_vret hx hb hr hlocks hK hP hS dX7_readNumber_53 (by exact ⟨hC, by rw [t0]; omega, zz_q7.num f4_2 (Or.inl (by omega)) f4_3 f4_4 f2.2.2 (w2 _ _ (by first | (dsimp only; omega) | omega))⟩)
      · have c1 := zz_nleT c1
        skip
        refine lv_aload_n hx hb dX7_readNumber_9 rfl (lv_at hl 2 rfl) ?_
        refine zz_callVp (As := []) (rest := []) ⟨hx, hb, hml, hown, hts⟩ hK hP hS (c_X7_here l E σa h0 g0 (by first | omega | (rw [t0]; omega) | (rw [t1]; omega)) T (by exact hT.keep (hC _ _ (by first | (dsimp only; omega) | omega)) (fun k => hC _ _ (by first | (dsimp only; omega) | omega)))) (cwV 0 hts gX7_readNumber_X7_here rfl rfl rfl (by decide +kernel) ⟨Nat.le_of_ble_eq_true rfl, Nat.le_of_ble_eq_true rfl⟩) (g0.1) rfl rfl hl.1 rfl (Nat.le_of_ble_eq_true rfl) dX7_readNumber_10 ⟨Nat.zero_le _, Nat.zero_le _⟩ (fun r3 H locs f3 hP1 hS1 => ?_)
        replace hP := hP1
        replace hS := hS1
        clear hP1 hS1
        refine zz_callSp (As := [.int r3]) (rest := []) ⟨hx, hb, hml, hown, hts⟩ hK hP hS (c_X7_isDigit l E σa r3) (va_cwS 1 hts gX7_readNumber_X7_isDigit rfl rfl rfl (by decide +kernel) ⟨Nat.le_of_ble_eq_true rfl, Nat.le_of_ble_eq_true rfl⟩) rfl hl.1 rfl (Nat.le_of_ble_eq_true rfl) dX7_readNumber_13 ⟨Nat.zero_le _, Nat.zero_le _⟩ (fun r4 H locs f4 hP1 hS1 => ?_)
        replace hP := hP1
        replace hS := hS1
        clear hP1 hS1
        refine lv_if_eq (tgt := 48) hx hb dX7_readNumber_16 (by decide) (fun c5 => ?_) (fun c5 => ?_)
        · have c5 := zz_eqT c5
          refine lv_aload_n hx hb dX7_readNumber_48 rfl (lv_at hl 2 rfl) ?_
          refine lv_iload_n hx hb dX7_readNumber_49 rfl (lv_at hl 1 rfl) ?_
          refine zz_callVv (As := [.int nu]) (rest := []) ⟨hx, hb, hml, hown, hts⟩ hK hP hS (c_X7_emit l E σa h0 nu g0 (by first | omega | (rw [t0]; omega) | (rw [t1]; omega))) (cwV 1 hts gX7_readNumber_X7_emit rfl rfl rfl (by decide +kernel) ⟨Nat.le_of_ble_eq_true rfl, Nat.le_of_ble_eq_true rfl⟩) (g0.1) rfl rfl hl.1 rfl (Nat.le_of_ble_eq_true rfl) dX7_readNumber_50 ⟨Nat.zero_le _, Nat.zero_le _⟩ (fun σ6 H locs q6 hP1 hS1 => ?_)
          replace hP := hP1
          replace hS := hS1
          clear hP1 hS1
          try dsimp only at q6
          obtain ⟨w6, f6⟩ := q6
          replace hC := hC.tr (w6.mono (dS9_2 h0))
          try simp only [t0, t1] at f6
          replace t0 : σ6 h0 1 = σ6 h0 1 := rfl
          replace t1 : σ6 h0 4 = σ h0 4 := (w6 h0 4 (dS9_3 h0)).trans t1
          exact zz_vret hx hb hr hlocks hK hP hS dX7_readNumber_53 (by exact ⟨hC, by rw [t0]; omega, zz_q7.num f4_2 (Or.inr (by omega)) f4_3 f4_4 f6.2.2 (w6 _ _ (by first | (dsimp only; omega) | omega))⟩)
        · have c5 := zz_neT c5
          have hs9 := congrArg Int32.toInt t1
          refine lv_iload_n hx hb dX7_readNumber_19 rfl (lv_at hl 1 rfl) ?_
          refine lv_bipush (v := 10) hx hb dX7_readNumber_20 (by decide) ?_
          refine lv_imul hx hb dX7_readNumber_22 ?_
          refine lv_topi (fun n7 e7 => ?_)
          have f7 : n7.toInt = (nu).toInt * 10 := zz_mulT 10 e7 (by decide) (by omega) (by omega)
          refine lv_aload_n hx hb dX7_readNumber_23 rfl (lv_at hl 2 rfl) ?_
          refine zz_callVp (As := []) (rest := [.int n7]) ⟨hx, hb, hml, hown, hts⟩ hK hP hS (c_X7_here l E σa h0 g0 (by first | omega | (rw [t0]; omega) | (rw [t1]; omega)) T (by exact hT.keep (hC _ _ (by first | (dsimp only; omega) | omega)) (fun k => hC _ _ (by first | (dsimp only; omega) | omega)))) (cwV 0 hts gX7_readNumber_X7_here rfl rfl rfl (by decide +kernel) ⟨Nat.le_of_ble_eq_true rfl, Nat.le_of_ble_eq_true rfl⟩) (g0.1) rfl rfl hl.1 rfl (Nat.le_of_ble_eq_true rfl) dX7_readNumber_24 ⟨Nat.zero_le _, Nat.zero_le _⟩ (fun r8 H locs f8 hP1 hS1 => ?_)
          replace hP := hP1
          replace hS := hS1
          clear hP1 hS1
          refine lv_iadd hx hb dX7_readNumber_27 ?_
          refine lv_topi (fun n9 e9 => ?_)
          have f9 : n9.toInt = (n7).toInt + (r8).toInt := zz_addT e9 (by omega) (by omega)
          refine lv_bipush (v := 48) hx hb dX7_readNumber_28 (by decide) ?_
          refine lv_isub hx hb dX7_readNumber_30 ?_
          refine lv_topi (fun n10 e10 => ?_)
          have f10 : n10.toInt = (n9).toInt - (48 : Int32).toInt := zz_subT e10 (by omega) (by omega)
          refine lv_istore_n (lv' := [(1, .int n10), (2, .int ii), (0, .ref h0)]) hx hb dX7_readNumber_31 rfl hl (by decide) rfl (fun ls hl => ?_)
          refine lv_aload_n hx hb dX7_readNumber_32 rfl (lv_at hl 2 rfl) ?_
          refine lv_dup hx hb dX7_readNumber_33 rfl ?_
          refine zz_geti hx hb hts hi7 hown hK hP (g0.1) rfl 0 (by decide) (hts (.fieldLink RX7 41 "NoonLaw$TextReader" "place" "I") (List.mem_cons_of_mem _ bm_458)) rfl rfl rfl dX7_readNumber_34 ?_
          refine lv_iconst (v := 1) hx hb dX7_readNumber_37 (by decide) ?_
          refine lv_iadd hx hb dX7_readNumber_38 ?_
          refine lv_topi (fun n11 e11 => ?_)
          have f11 : n11.toInt = (σa h0 0).toInt + (1 : Int32).toInt := zz_addT e11 (by omega) (by omega)
          refine zz_puti (v := n11) (ty := .int) hx hb hts hi7 tyX7 tyX7_ok nmX7 hown hK hP hS (g0.1) rfl 0 (by decide) (hts (.fieldLink RX7 41 "NoonLaw$TextReader" "place" "I") (List.mem_cons_of_mem _ bm_458)) rfl rfl (by decide +kernel) rfl rfl rfl dX7_readNumber_39 (fun σ12 H locs w12 hP1 hS1 => ?_)
          replace hP := hP1
          replace hS := hS1
          clear hP1 hS1
          replace hC := hC.u w12 (dS9_4 h0)
          replace t0 : σ12 h0 1 = σ h0 1 := (zz_w (b := h0) (j := 1) w12 (fun q9 => absurd q9.2 (by decide))).trans t0
          replace t1 : σ12 h0 4 = σ h0 4 := (zz_w (b := h0) (j := 4) w12 (fun q9 => absurd q9.2 (by decide))).trans t1
          have hpl := zz_uT w12
          obtain ⟨n13, e13⟩ : ∃ y : Int32, y = ii + 1 := ⟨_, rfl⟩
          have f13 : n13.toInt = (ii).toInt + (1) := by have h9 := zz_addT e13 (by omega) (by omega); omega
          refine lv_iinc (v := n13) (lv' := [(2, .int n13), (1, .int n10), (0, .ref h0)]) hx hb dX7_readNumber_42 hl (k := 1) rfl (by rw [e13]; rfl) (by decide) rfl (fun ls hl => ?_)
          refine lv_goto (tgt := 4) hx hb dX7_readNumber_45 (by decide) ?_
          exact ih4 n10 n13 σ12 _ _ _ (by omega) hC (by first | omega | (rw [t0]; omega) | (rw [t1]; omega)) (by first | omega | (rw [t0]; omega) | (rw [t1]; omega)) (by exact zz_n7.go f4_2 (by omega) (by omega) (by rw [zz_uT w12]; omega) (by omega)) (by intro k; rw [w12, zz_un (by omega)]; exact f4_3 k) (by rw [w12, zz_un (by omega)]; exact f4_4) (by first | omega | (rw [t0]; omega) | (rw [t1]; omega)) t0 t1 hP hS (lv_sub hl [0, 1, 2] rfl)
  exact J4 _ 0 0 σ _ _ _ (Nat.lt_succ_self _) hC (by first | omega | (rw [t0]; omega) | (rw [t1]; omega)) (by first | omega | (rw [t0]; omega) | (rw [t1]; omega)) (by exact zz_n7.rf (by omega) (by omega)) (by intro k; rfl) (by rfl) (by first | omega | (rw [t0]; omega) | (rw [t1]; omega)) t0 t1 hP hS (lv_sub hl [0, 1, 2] rfl)
theorem gX7_readsLevel_X7_readsUnit : GoodIn wzX7_readsLevel (wsV RX7 51 RX7 yX7_readsUnit wzX7_readsUnit) := wz_co bm_464 (wz_co bm_465 (wz_co bm_466 (wz_co bm_26 (wz_in bm_480))))
theorem gX7_readsLevel_X7_readsLevel : GoodIn wzX7_readsLevel (wsV RX7 47 RX7 yX7_readsLevel wzX7_readsLevel) := wz_co bm_460 (wz_co bm_461 (wz_co bm_462 (wz_co bm_26 (wz_in bm_463))))
theorem gX7_readsLevel_X7_here : GoodIn wzX7_readsLevel (wsV RX7 55 RX7 yX7_here wzX7_here) := wz_co bm_467 (wz_co bm_468 (wz_co bm_469 (wz_co bm_26 (wz_in bm_470))))
theorem gX7_readsLevel_X7_levelOf : GoodIn wzX7_readsLevel (va_wsS RX7 59 yX7_levelOf wzX7_levelOf) := wz_co bm_471 (wz_co bm_472 (wz_co bm_26 (wz_in bm_473)))
theorem gX7_readsLevel_X7_emit : GoodIn wzX7_readsLevel (wsV RX7 63 RX7 yX7_emit wzX7_emit) := wz_co bm_474 (wz_co bm_475 (wz_co bm_476 (wz_co bm_26 (wz_in bm_477))))
theorem dS9_5 (x0 : Nat) : ∀ a k : Nat, ((a = (x0) ∧ (k = 0 ∨ k = 1)) ∨ a = (x0) + 1) → ((a = x0 ∧ (k = 0 ∨ k = 1)) ∨ a = x0 + 1) := by intro a k h; omega
theorem dS9_6 (x0 : Nat) : ¬ (((x0) = (x0) ∧ ((4) = 0 ∨ (4) = 1)) ∨ (x0) = (x0) + 1) := by omega
set_option maxHeartbeats 4000000 in
set_option maxRecDepth 100000 in
theorem g_X7_readsLevel (l : Launch) (E : zz_E) (rk : Nat) (T : Int → Int) (us : Int) (w v : Int) (h05 : 0 ≤ w ∧ w ≤ 5) (HU : 5 ≤ w → ∃ nc : Nat, nc < rk ∧ k_X7_readsUnit l E nc T us v) (HL : w < 5 → ∃ nc : Nat, nc < rk ∧ k_X7_readsLevel l E nc T us (w + 1) v) : k_X7_readsLevel l E rk T us w v := by
  intro σ h0 lv op g0 hl1 hs hp0 hT hus hu1 hv ho
  refine zz_met (cc := cX7_readsLevel) (maxL := 6) (ret := (some .boolean)) (by decide) rfl (Nat.le_of_ble_eq_true rfl) ?_
  intro p e s m args below meth c ls hx hb hr hts hown hlocks hml hK hP hS hl
  have hl : lv_has ls 6 [(0, .ref h0), (1, .int lv), (2, .int op)] := hl
  have hown : s.vm.findClass RX7 = some m.cls := hown
  have hi7 : ∀ w ∈ wsX70, w ∈ wzX7_readsLevel := fun w h => List.mem_cons_of_mem _ (hbw7 w h)
  have k_0 : (0 : Int32).toInt = 0 := by decide +kernel
  have k_1 : (1 : Int32).toInt = 1 := by decide +kernel
  have k_2 : (2 : Int32).toInt = 2 := by decide +kernel
  have k_5 : (5 : Int32).toInt = 5 := by decide +kernel
  have k_60 : (60 : Int32).toInt = 60 := by decide +kernel
  have k_20000 : (20000 : Int32).toInt = 20000 := by decide +kernel
  replace t0 : σ h0 1 = σ h0 1 := rfl
  replace t1 : σ h0 4 = σ h0 4 := rfl
  have hC : zz_ch (fun a k => (a = h0 ∧ (k = 0 ∨ k = 1)) ∨ a = h0 + 1) σ σ := zz_ch.rf σ
  refine lv_iload_n hx hb dX7_readsLevel_0 rfl (lv_at hl 1 rfl) ?_
  refine lv_iconst (v := 5) hx hb dX7_readsLevel_1 (by decide) ?_
  refine lv_icmp_lt (tgt := 11) hx hb dX7_readsLevel_2 (by decide) (fun c1 => ?_) (fun c1 => ?_)
  · have c1 := zz_ltT c1
    refine lv_aload_n hx hb dX7_readsLevel_11 rfl (lv_at hl 0 rfl) ?_
    refine lv_iload_n hx hb dX7_readsLevel_12 rfl (lv_at hl 1 rfl) ?_
    refine lv_iconst (v := 1) hx hb dX7_readsLevel_13 (by decide) ?_
    refine lv_iadd hx hb dX7_readsLevel_14 ?_
    refine lv_topi (fun n2 e2 => ?_)
    have f2 : n2.toInt = (lv).toInt + (1 : Int32).toInt := zz_addT e2 (by omega) (by omega)
    refine lv_iload_n hx hb dX7_readsLevel_15 rfl (lv_at hl 2 rfl) ?_
    obtain ⟨nc3, hc3, C3⟩ := HL (by first | trivial | omega)
    refine zz_callVi (As := [.int n2, .int op]) (rest := []) ⟨hx, hb, hml, hown, hts⟩ hK hP hS (C3 σ h0 n2 op g0 (by first | omega | (rw [t0]; omega) | (rw [t1]; omega)) (by first | omega | (rw [t0]; omega) | (rw [t1]; omega)) (by first | omega | (rw [t0]; omega) | (rw [t1]; omega)) (by exact hT) (by exact hus) (by exact hu1) (by first | omega | (rw [t0]; omega) | (rw [t1]; omega)) (by first | omega | (rw [t0]; omega) | (rw [t1]; omega))) (cwV 2 hts gX7_readsLevel_X7_readsLevel rfl rfl rfl (by decide +kernel) ⟨by show 10 + nc3 + 1 ≤ 10 + rk; omega, by show 8 + (6 + 11) + (300 + 60 * nc3) ≤ 300 + 60 * rk; omega⟩) (g0.1) rfl rfl hl.1 rfl (Nat.le_of_ble_eq_true rfl) dX7_readsLevel_16 ⟨Nat.zero_le _, Nat.zero_le _⟩ (fun r3 σ3 H locs q3 hP1 hS1 => ?_)
    replace hP := hP1
    replace hS := hS1
    clear hP1 hS1
    try dsimp only at q3
    obtain ⟨w3, f3⟩ := q3
    replace hC := hC.tr (w3.mono (dS9_5 h0))
    replace t0 : σ3 h0 1 = σ3 h0 1 := rfl
    replace t1 : σ3 h0 4 = σ h0 4 := (w3 h0 4 (dS9_6 h0)).trans t1
    refine lv_if_ne (tgt := 24) hx hb dX7_readsLevel_19 (by decide) (fun c4 => ?_) (fun c4 => ?_)
    · have c4 := zz_neT c4
      have J35 : ∀ (mo : Int32) (ln : Int32) (σq : zz_S) (H : Heap) (locs : List Loc) (ls : Array Slot),  (zz_ch (fun a k => (a = h0 ∧ (k = 0 ∨ k = 1)) ∨ a = h0 + 1) σ σq) → (0 ≤ ln.toInt ∧ ln.toInt ≤ 60) → ((w = 2 ∧ mo.toInt = 1) ∨ (w ≠ 2 ∧ mo.toInt = 60)) → (zz_q7 σ σq h0 1 (zz_lw T (fun q => zz_uq T us (5 - v).toNat q) (w + 1) (σ h0 0).toInt)) → (0 ≤ (σq h0 0).toInt ∧ (σq h0 0).toInt ≤ 60) → (σq h0 1 = ln) → (σq h0 4 = σ h0 4) → zz_P E σq H → va_S (zz_A E) s.heap H locs → lv_has ls 6 [(0, .ref h0), (1, .int lv), (2, .int op)] → W p l e (headSpec wzX7_readsLevel (zz_rm rk)).room s m args below meth c H locs 0 0 (MQ below (va_Qi (fun r σ1 => zz_ch (fun a k => (a = h0 ∧ (k = 0 ∨ k = 1)) ∨ a = h0 + 1) σ σ1 ∧ (((r.toInt = 0 ∨ r.toInt = 1) ∧ (0 ≤ (σ1 h0 1).toInt ∧ (σ1 h0 1).toInt ≤ 60) ∧ 0 ≤ (σ1 h0 0).toInt ∧ (σ1 h0 0).toInt ≤ 60) ∧ zz_q7 σ σ1 h0 r.toInt (zz_lw T (fun q => zz_uq T us (5 - v).toNat q) w (σ h0 0).toInt))) (zz_B E) (zz_A E)) args s 0 0 (zz_A E)) (F0 m 35 ls [.int mo]) := by
        intro mo ln σq H locs ls hC f35_0 f35_1 f35_2 f35_3 t0 t1 hP hS hl
        refine lv_istore_n (lv' := [(3, .int mo), (0, .ref h0), (1, .int lv), (2, .int op)]) hx hb dX7_readsLevel_35 rfl hl (by decide) rfl (fun ls hl => ?_)
        refine lv_iconst (v := 0) hx hb dX7_readsLevel_36 (by decide) ?_
        refine lv_istore (lv' := [(4, .int 0), (3, .int mo), (0, .ref h0), (1, .int lv), (2, .int op)]) hx hb dX7_readsLevel_37 hl (by decide) rfl (fun ls hl => ?_)
        have J39 : ∀ (n : Nat) (ii : Int32) (ln2 : Int32) (σa : zz_S) (H : Heap) (locs : List Loc) (ls : Array Slot), ((60 - ii.toInt).toNat) < n → (zz_ch (fun a k => (a = h0 ∧ (k = 0 ∨ k = 1)) ∨ a = h0 + 1) σ σa) → (0 ≤ ii.toInt) → (0 ≤ ln2.toInt ∧ ln2.toInt ≤ 60) → (zz_l7 T (fun q => zz_uq T us (5 - v).toNat q) w (mo.toInt - ii.toInt).toNat σ σa h0 (zz_lw T (fun q => zz_uq T us (5 - v).toNat q) w (σ h0 0).toInt)) → (0 ≤ (σa h0 0).toInt ∧ (σa h0 0).toInt ≤ 60) → (σa h0 1 = ln2) → (σa h0 4 = σ h0 4) → zz_P E σa H → va_S (zz_A E) s.heap H locs → lv_has ls 6 [(4, .int ii), (3, .int mo), (0, .ref h0), (1, .int lv), (2, .int op)] → W p l e (headSpec wzX7_readsLevel (zz_rm rk)).room s m args below meth c H locs 0 0 (MQ below (va_Qi (fun r σ1 => zz_ch (fun a k => (a = h0 ∧ (k = 0 ∨ k = 1)) ∨ a = h0 + 1) σ σ1 ∧ (((r.toInt = 0 ∨ r.toInt = 1) ∧ (0 ≤ (σ1 h0 1).toInt ∧ (σ1 h0 1).toInt ≤ 60) ∧ 0 ≤ (σ1 h0 0).toInt ∧ (σ1 h0 0).toInt ≤ 60) ∧ zz_q7 σ σ1 h0 r.toInt (zz_lw T (fun q => zz_uq T us (5 - v).toNat q) w (σ h0 0).toInt))) (zz_B E) (zz_A E)) args s 0 0 (zz_A E)) (F0 m 39 ls []) := by
          intro n
          induction n with
          | zero => intro ii ln2 σa H locs ls hm; exact absurd hm (Nat.not_lt_zero _)
          | succ n ih39 =>
            intro ii ln2 σa H locs ls hm hC f39_0 f39_1 f39_2 f39_3 t0 t1 hP hS hl
            refine lv_iload hx hb dX7_readsLevel_39 (lv_at hl 0 rfl) ?_
            refine lv_iload_n hx hb dX7_readsLevel_41 rfl (lv_at hl 1 rfl) ?_
            refine lv_icmp_ge (tgt := 101) hx hb dX7_readsLevel_42 (by decide) (fun c5 => ?_) (fun c5 => ?_)
            · have c5 := zz_leT c5
              refine lv_iconst (v := 1) hx hb dX7_readsLevel_101 (by decide) ?_
              exact zz_zret hx hb hr hlocks hK hP hS dX7_readsLevel_102 (zz_01 (by omega)) (by exact ⟨hC, by rw [t0]; omega, zz_l7.stop f39_2 (Or.inl (by omega)) k_1⟩)
            · have c5 := zz_nleT c5
              refine lv_aload_n hx hb dX7_readsLevel_45 rfl (lv_at hl 2 rfl) ?_
              refine zz_callVp (As := []) (rest := []) ⟨hx, hb, hml, hown, hts⟩ hK hP hS (c_X7_here l E σa h0 g0 (by first | omega | (rw [t0]; omega) | (rw [t1]; omega)) T (by exact hT.keep (hC _ _ (by first | (dsimp only; omega) | omega)) (fun k => hC _ _ (by first | (dsimp only; omega) | omega)))) (cwV 0 hts gX7_readsLevel_X7_here rfl rfl rfl (by decide +kernel) ⟨by show 0 + 1 ≤ 10 + rk; omega, by show 8 + (1 + 11) + 0 ≤ 300 + 60 * rk; omega⟩) (g0.1) rfl rfl hl.1 rfl (Nat.le_of_ble_eq_true rfl) dX7_readsLevel_46 ⟨Nat.zero_le _, Nat.zero_le _⟩ (fun r6 H locs f6 hP1 hS1 => ?_)
              replace hP := hP1
              replace hS := hS1
              clear hP1 hS1
              skip
              refine zz_callSp (As := [.int r6]) (rest := []) ⟨hx, hb, hml, hown, hts⟩ hK hP hS (c_X7_levelOf l E σa r6) (va_cwS 1 hts gX7_readsLevel_X7_levelOf rfl rfl rfl (by decide +kernel) ⟨by show 0 + 1 ≤ 10 + rk; omega, by show 8 + (1 + 11) + 0 ≤ 300 + 60 * rk; omega⟩) rfl hl.1 rfl (Nat.le_of_ble_eq_true rfl) dX7_readsLevel_49 ⟨Nat.zero_le _, Nat.zero_le _⟩ (fun r7 H locs f7 hP1 hS1 => ?_)
              replace hP := hP1
              replace hS := hS1
              clear hP1 hS1
              skip
              refine lv_iload_n hx hb dX7_readsLevel_52 rfl (lv_at hl 3 rfl) ?_
              refine lv_icmp_ne (tgt := 101) hx hb dX7_readsLevel_53 (by decide) (fun c8 => ?_) (fun c8 => ?_)
              · have c8 := zz_neT c8
                refine lv_iconst (v := 1) hx hb dX7_readsLevel_101 (by decide) ?_
                exact zz_zret hx hb hr hlocks hK hP hS dX7_readsLevel_102 (zz_01 (by omega)) (by exact ⟨hC, by rw [t0]; omega, zz_l7.stop f39_2 (Or.inr (f7.1.nlvl f6.1 (by omega))) k_1⟩)
              · have c8 := zz_eqT c8
                have hlo := f7.1.low (by omega)
                have hs9 := congrArg Int32.toInt t1
                refine lv_aload_n hx hb dX7_readsLevel_56 rfl (lv_at hl 2 rfl) ?_
                refine zz_callVp (As := []) (rest := []) ⟨hx, hb, hml, hown, hts⟩ hK hP hS (c_X7_here l E σa h0 g0 (by first | omega | (rw [t0]; omega) | (rw [t1]; omega)) T (by exact hT.keep (hC _ _ (by first | (dsimp only; omega) | omega)) (fun k => hC _ _ (by first | (dsimp only; omega) | omega)))) (cwV 0 hts gX7_readsLevel_X7_here rfl rfl rfl (by decide +kernel) ⟨by show 0 + 1 ≤ 10 + rk; omega, by show 8 + (1 + 11) + 0 ≤ 300 + 60 * rk; omega⟩) (g0.1) rfl rfl hl.1 rfl (Nat.le_of_ble_eq_true rfl) dX7_readsLevel_57 ⟨Nat.zero_le _, Nat.zero_le _⟩ (fun r9 H locs f9 hP1 hS1 => ?_)
                replace hP := hP1
                replace hS := hS1
                clear hP1 hS1
                refine lv_istore (lv' := [(5, .int r9), (4, .int ii), (3, .int mo), (0, .ref h0), (1, .int lv), (2, .int op)]) hx hb dX7_readsLevel_60 hl (by decide) rfl (fun ls hl => ?_)
                refine lv_aload_n hx hb dX7_readsLevel_62 rfl (lv_at hl 3 rfl) ?_
                refine lv_dup hx hb dX7_readsLevel_63 rfl ?_
                refine zz_geti hx hb hts hi7 hown hK hP (g0.1) rfl 0 (by decide) (hts (.fieldLink RX7 41 "NoonLaw$TextReader" "place" "I") (List.mem_cons_of_mem _ bm_458)) rfl rfl rfl dX7_readsLevel_64 ?_
                refine lv_iconst (v := 1) hx hb dX7_readsLevel_67 (by decide) ?_
                refine lv_iadd hx hb dX7_readsLevel_68 ?_
                refine lv_topi (fun n10 e10 => ?_)
                have f10 : n10.toInt = (σa h0 0).toInt + (1 : Int32).toInt := zz_addT e10 (by omega) (by omega)
                refine zz_puti (v := n10) (ty := .int) hx hb hts hi7 tyX7 tyX7_ok nmX7 hown hK hP hS (g0.1) rfl 0 (by decide) (hts (.fieldLink RX7 41 "NoonLaw$TextReader" "place" "I") (List.mem_cons_of_mem _ bm_458)) rfl rfl (by decide +kernel) rfl rfl rfl dX7_readsLevel_69 (fun σ11 H locs w11 hP1 hS1 => ?_)
                replace hP := hP1
                replace hS := hS1
                clear hP1 hS1
                replace hC := hC.u w11 (dS9_4 h0)
                replace t0 : σ11 h0 1 = ln2 := (zz_w (b := h0) (j := 1) w11 (fun q9 => absurd q9.2 (by decide))).trans t0
                replace t1 : σ11 h0 4 = σ h0 4 := (zz_w (b := h0) (j := 4) w11 (fun q9 => absurd q9.2 (by decide))).trans t1
                have hpl := zz_uT w11
                refine lv_aload_n hx hb dX7_readsLevel_72 rfl (lv_at hl 3 rfl) ?_
                refine lv_iload_n hx hb dX7_readsLevel_73 rfl (lv_at hl 4 rfl) ?_
                refine lv_iconst (v := 1) hx hb dX7_readsLevel_74 (by decide) ?_
                refine lv_iadd hx hb dX7_readsLevel_75 ?_
                refine lv_topi (fun n12 e12 => ?_)
                have f12 : n12.toInt = (lv).toInt + (1 : Int32).toInt := zz_addT e12 (by omega) (by omega)
                refine lv_iload_n hx hb dX7_readsLevel_76 rfl (lv_at hl 5 rfl) ?_
                obtain ⟨nc13, hc13, C13⟩ := HL (by first | trivial | omega)
                refine zz_callVi (As := [.int n12, .int op]) (rest := []) ⟨hx, hb, hml, hown, hts⟩ hK hP hS (C13 σ11 h0 n12 op g0 (by first | omega | (rw [t0]; omega) | (rw [t1]; omega)) (by first | omega | (rw [t0]; omega) | (rw [t1]; omega)) (by first | omega | (rw [t0]; omega) | (rw [t1]; omega)) (by exact hT.keep (hC _ _ (by first | (dsimp only; omega) | omega)) (fun k => hC _ _ (by first | (dsimp only; omega) | omega))) (by rw [hC _ _ (by first | (dsimp only; omega) | omega)]; exact hus) (by exact hu1) (by first | omega | (rw [t0]; omega) | (rw [t1]; omega)) (by first | omega | (rw [t0]; omega) | (rw [t1]; omega))) (cwV 2 hts gX7_readsLevel_X7_readsLevel rfl rfl rfl (by decide +kernel) ⟨by show 10 + nc13 + 1 ≤ 10 + rk; omega, by show 8 + (6 + 11) + (300 + 60 * nc13) ≤ 300 + 60 * rk; omega⟩) (g0.1) rfl rfl hl.1 rfl (Nat.le_of_ble_eq_true rfl) dX7_readsLevel_77 ⟨Nat.zero_le _, Nat.zero_le _⟩ (fun r13 σ13 H locs q13 hP1 hS1 => ?_)
                replace hP := hP1
                replace hS := hS1
                clear hP1 hS1
                try dsimp only at q13
                obtain ⟨w13, f13⟩ := q13
                replace hC := hC.tr (w13.mono (dS9_5 h0))
                try simp only [t0, t1] at f13
                replace t0 : σ13 h0 1 = σ13 h0 1 := rfl
                replace t1 : σ13 h0 4 = σ h0 4 := (w13 h0 4 (dS9_6 h0)).trans t1
                refine lv_if_ne (tgt := 85) hx hb dX7_readsLevel_80 (by decide) (fun c14 => ?_) (fun c14 => ?_)
                · have c14 := zz_neT c14
                  refine lv_aload_n hx hb dX7_readsLevel_85 rfl (lv_at hl 3 rfl) ?_
                  refine lv_sipush (v := 20000) hx hb dX7_readsLevel_86 (by decide) ?_
                  refine lv_iload hx hb dX7_readsLevel_89 (lv_at hl 0 rfl) ?_
                  refine lv_iadd hx hb dX7_readsLevel_91 ?_
                  refine lv_topi (fun n15 e15 => ?_)
                  have f15 : n15.toInt = (20000 : Int32).toInt + (r9).toInt := zz_addT e15 (by omega) (by omega)
                  refine zz_callVv (As := [.int n15]) (rest := []) ⟨hx, hb, hml, hown, hts⟩ hK hP hS (c_X7_emit l E σ13 h0 n15 g0 (by first | omega | (rw [t0]; omega) | (rw [t1]; omega))) (cwV 1 hts gX7_readsLevel_X7_emit rfl rfl rfl (by decide +kernel) ⟨by show 0 + 1 ≤ 10 + rk; omega, by show 8 + (2 + 11) + 0 ≤ 300 + 60 * rk; omega⟩) (g0.1) rfl rfl hl.1 rfl (Nat.le_of_ble_eq_true rfl) dX7_readsLevel_92 ⟨Nat.zero_le _, Nat.zero_le _⟩ (fun σ16 H locs q16 hP1 hS1 => ?_)
                  replace hP := hP1
                  replace hS := hS1
                  clear hP1 hS1
                  try dsimp only at q16
                  obtain ⟨w16, f16⟩ := q16
                  replace hC := hC.tr (w16.mono (dS9_2 h0))
                  try simp only [t1] at f16
                  replace t0 : σ16 h0 1 = σ16 h0 1 := rfl
                  replace t1 : σ16 h0 4 = σ h0 4 := (w16 h0 4 (dS9_3 h0)).trans t1
                  obtain ⟨n17, e17⟩ : ∃ y : Int32, y = ii + 1 := ⟨_, rfl⟩
                  have f17 : n17.toInt = (ii).toInt + (1) := by have h9 := zz_addT e17 (by omega) (by omega); omega
                  refine lv_iinc (v := n17) (lv' := [(4, .int n17), (5, .int r9), (3, .int mo), (0, .ref h0), (1, .int lv), (2, .int op)]) hx hb dX7_readsLevel_95 hl (k := 1) rfl (by rw [e17]; rfl) (by decide) rfl (fun ls hl => ?_)
                  refine lv_goto (tgt := 39) hx hb dX7_readsLevel_98 (by decide) ?_
                  exact ih39 n17 (σ16 h0 1) σ16 _ _ _ (by omega) hC (by first | omega | (rw [t0]; omega) | (rw [t1]; omega)) (by first | omega | (rw [t0]; omega) | (rw [t1]; omega)) (by exact zz_l7.next f39_2 (by omega) (by omega) (f7.1.lvl f6.1 (by omega)) w11 (by omega) f13.2 (by omega) f16.2.2 (by omega) (w16 _ _ (by first | (dsimp only; omega) | omega))) (by first | omega | (rw [t0]; omega) | (rw [t1]; omega)) t0 t1 hP hS (lv_sub hl [0, 2, 3, 4, 5] rfl)
                · have c14 := zz_eqT c14
                  refine lv_iconst (v := 0) hx hb dX7_readsLevel_83 (by decide) ?_
                  exact zz_zret hx hb hr hlocks hK hP hS dX7_readsLevel_84 (zz_01 (by omega)) (by exact ⟨hC, by rw [t0]; omega, zz_l7.fail f39_2 (by omega) (f7.1.lvl f6.1 (by omega)) w11 (by omega) f13.2 (by omega) k_0⟩)
        exact J39 _ 0 ln σq _ _ _ (Nat.lt_succ_self _) hC (by first | omega | (rw [t0]; omega) | (rw [t1]; omega)) (by first | omega | (rw [t0]; omega) | (rw [t1]; omega)) (by exact zz_q7.l7 f35_2 ⟨by omega, by omega⟩ (by omega)) (by first | omega | (rw [t0]; omega) | (rw [t1]; omega)) t0 t1 hP hS (lv_sub hl [0, 1, 2, 3, 4] rfl)
      refine lv_iload_n hx hb dX7_readsLevel_24 rfl (lv_at hl 1 rfl) ?_
      refine lv_iconst (v := 2) hx hb dX7_readsLevel_25 (by decide) ?_
      refine lv_icmp_ne (tgt := 33) hx hb dX7_readsLevel_26 (by decide) (fun c18 => ?_) (fun c18 => ?_)
      · have c18 := zz_neT c18
        refine lv_bipush (v := 60) hx hb dX7_readsLevel_33 (by decide) ?_
        exact J35 60 (σ3 h0 1) σ3 _ _ _ hC (by first | omega | (rw [t0]; omega) | (rw [t1]; omega)) (by first | omega | (rw [t0]; omega) | (rw [t1]; omega)) (by exact zz_q7.one f3.2 (by omega)) (by first | omega | (rw [t0]; omega) | (rw [t1]; omega)) t0 t1 hP hS (lv_sub hl [0, 1, 2] rfl)
      · have c18 := zz_eqT c18
        refine lv_iconst (v := 1) hx hb dX7_readsLevel_29 (by decide) ?_
        refine lv_goto (tgt := 35) hx hb dX7_readsLevel_30 (by decide) ?_
        exact J35 1 (σ3 h0 1) σ3 _ _ _ hC (by first | omega | (rw [t0]; omega) | (rw [t1]; omega)) (by first | omega | (rw [t0]; omega) | (rw [t1]; omega)) (by exact zz_q7.one f3.2 (by omega)) (by first | omega | (rw [t0]; omega) | (rw [t1]; omega)) t0 t1 hP hS (lv_sub hl [0, 1, 2] rfl)
    · have c4 := zz_eqT c4
      refine lv_iconst (v := 0) hx hb dX7_readsLevel_22 (by decide) ?_
      exact zz_zret hx hb hr hlocks hK hP hS dX7_readsLevel_23 (zz_01 (by omega)) (by exact ⟨hC, by rw [t0]; omega, zz_q7.lno f3.2 ⟨by omega, by omega⟩ (by omega) k_0⟩)
  · have c1 := zz_nltT c1
    refine lv_aload_n hx hb dX7_readsLevel_5 rfl (lv_at hl 0 rfl) ?_
    refine lv_iload_n hx hb dX7_readsLevel_6 rfl (lv_at hl 2 rfl) ?_
    obtain ⟨nc19, hc19, C19⟩ := HU (by first | trivial | omega)
    refine zz_callVi (As := [.int op]) (rest := []) ⟨hx, hb, hml, hown, hts⟩ hK hP hS (C19 σ h0 op g0 (by first | omega | (rw [t0]; omega) | (rw [t1]; omega)) (by first | omega | (rw [t0]; omega) | (rw [t1]; omega)) (by first | omega | (rw [t0]; omega) | (rw [t1]; omega)) (by exact hT) (by exact hus) (by exact hu1) (by first | omega | (rw [t0]; omega) | (rw [t1]; omega))) (cwV 1 hts gX7_readsLevel_X7_readsUnit rfl rfl rfl (by decide +kernel) ⟨by show 10 + nc19 + 1 ≤ 10 + rk; omega, by show 8 + (4 + 11) + (300 + 60 * nc19) ≤ 300 + 60 * rk; omega⟩) (g0.1) rfl rfl hl.1 rfl (Nat.le_of_ble_eq_true rfl) dX7_readsLevel_7 ⟨Nat.zero_le _, Nat.zero_le _⟩ (fun r19 σ19 H locs q19 hP1 hS1 => ?_)
    replace hP := hP1
    replace hS := hS1
    clear hP1 hS1
    try dsimp only at q19
    obtain ⟨w19, f19⟩ := q19
    replace hC := hC.tr (w19.mono (dS9_5 h0))
    replace t0 : σ19 h0 1 = σ19 h0 1 := rfl
    replace t1 : σ19 h0 4 = σ h0 4 := (w19 h0 4 (dS9_6 h0)).trans t1
    exact zz_zret hx hb hr hlocks hK hP hS dX7_readsLevel_10 (zz_01 (by omega)) (by exact ⟨hC, by rw [t0]; omega, zz_q7.l5 (by omega) f19.2⟩)
theorem gX7_readsUnit_X7_here : GoodIn wzX7_readsUnit (wsV RX7 55 RX7 yX7_here wzX7_here) := wz_co bm_467 (wz_co bm_468 (wz_co bm_469 (wz_co bm_26 (wz_in bm_470))))
theorem gX7_readsUnit_X7_isDigit : GoodIn wzX7_readsUnit (va_wsS RX7 67 yX7_isDigit wzX7_isDigit) := wz_co bm_481 (wz_co bm_482 (wz_co bm_26 (wz_in bm_483)))
theorem gX7_readsUnit_X7_readNumber : GoodIn wzX7_readsUnit (wsV RX7 70 RX7 yX7_readNumber wzX7_readNumber) := wz_co bm_484 (wz_co bm_485 (wz_co bm_486 (wz_co bm_26 (wz_in bm_487))))
theorem gX7_readsUnit_X7_nameOf : GoodIn wzX7_readsUnit (wsV RX7 73 RX7 yX7_nameOf wzX7_nameOf) := wz_co bm_488 (wz_co bm_489 (wz_co bm_490 (wz_co bm_26 (wz_in bm_491))))
theorem gX7_readsUnit_X7_emit : GoodIn wzX7_readsUnit (wsV RX7 63 RX7 yX7_emit wzX7_emit) := wz_co bm_474 (wz_co bm_475 (wz_co bm_476 (wz_co bm_26 (wz_in bm_477))))
theorem gX7_readsUnit_X7_readsNot : GoodIn wzX7_readsUnit (wsV RX7 76 RX7 yX7_readsNot wzX7_readsNot) := wz_co bm_492 (wz_co bm_493 (wz_co bm_494 (wz_co bm_26 (wz_in bm_478))))
theorem gX7_readsUnit_X7_readsRest : GoodIn wzX7_readsUnit (wsV RX7 79 RX7 yX7_readsRest wzX7_readsRest) := wz_co bm_495 (wz_co bm_496 (wz_co bm_497 (wz_co bm_26 (wz_in bm_479))))
set_option maxHeartbeats 4000000 in
set_option maxRecDepth 100000 in
theorem g_X7_readsUnit (l : Launch) (E : zz_E) (rk : Nat) (T : Int → Int) (us : Int) (v : Int) (h05 : 0 ≤ v ∧ v ≤ 5) (HN : v < 5 → ∃ nc : Nat, nc < rk ∧ k_X7_readsNot l E nc T us (v + 1)) (HR : v < 5 → ∃ nc : Nat, nc < rk ∧ k_X7_readsRest l E nc T us (v + 1)) : k_X7_readsUnit l E rk T us v := by
  intro σ h0 op g0 hl1 hs hp0 hT hus hu1 ho
  refine zz_met (cc := cX7_readsUnit) (maxL := 4) (ret := (some .boolean)) (by decide) rfl (Nat.le_of_ble_eq_true rfl) ?_
  intro p e s m args below meth c ls hx hb hr hts hown hlocks hml hK hP hS hl
  have hl : lv_has ls 4 [(0, .ref h0), (1, .int op)] := hl
  have hown : s.vm.findClass RX7 = some m.cls := hown
  have hi7 : ∀ w ∈ wsX70, w ∈ wzX7_readsUnit := fun w h => List.mem_cons_of_mem _ (hbw7 w h)
  have k_0 : (0 : Int32).toInt = 0 := by decide +kernel
  have k_1 : (1 : Int32).toInt = 1 := by decide +kernel
  have k_5 : (5 : Int32).toInt = 5 := by decide +kernel
  have k_33 : (33 : Int32).toInt = 33 := by decide +kernel
  have k_40 : (40 : Int32).toInt = 40 := by decide +kernel
  have k_10000 : (10000 : Int32).toInt = 10000 := by decide +kernel
  replace t0 : σ h0 1 = σ h0 1 := rfl
  replace t1 : σ h0 4 = σ h0 4 := rfl
  have hC : zz_ch (fun a k => (a = h0 ∧ (k = 0 ∨ k = 1)) ∨ a = h0 + 1) σ σ := zz_ch.rf σ
  refine lv_aload_n hx hb dX7_readsUnit_0 rfl (lv_at hl 0 rfl) ?_
  refine zz_callVp (As := []) (rest := []) ⟨hx, hb, hml, hown, hts⟩ hK hP hS (c_X7_here l E σ h0 g0 (by first | omega | (rw [t0]; omega) | (rw [t1]; omega)) T (by exact hT)) (cwV 0 hts gX7_readsUnit_X7_here rfl rfl rfl (by decide +kernel) ⟨by show 0 + 1 ≤ 10 + rk; omega, by show 8 + (1 + 11) + 0 ≤ 300 + 60 * rk; omega⟩) (g0.1) rfl rfl hl.1 rfl (Nat.le_of_ble_eq_true rfl) dX7_readsUnit_1 ⟨Nat.zero_le _, Nat.zero_le _⟩ (fun r1 H locs f1 hP1 hS1 => ?_)
  replace hP := hP1
  replace hS := hS1
  clear hP1 hS1
  skip
  refine lv_istore_n (lv' := [(2, .int r1), (0, .ref h0), (1, .int op)]) hx hb dX7_readsUnit_4 rfl hl (by decide) rfl (fun ls hl => ?_)
  refine lv_iload_n hx hb dX7_readsUnit_5 rfl (lv_at hl 0 rfl) ?_
  refine zz_callSp (As := [.int r1]) (rest := []) ⟨hx, hb, hml, hown, hts⟩ hK hP hS (c_X7_isDigit l E σ r1) (va_cwS 1 hts gX7_readsUnit_X7_isDigit rfl rfl rfl (by decide +kernel) ⟨by show 0 + 1 ≤ 10 + rk; omega, by show 8 + (1 + 11) + 0 ≤ 300 + 60 * rk; omega⟩) rfl hl.1 rfl (Nat.le_of_ble_eq_true rfl) dX7_readsUnit_6 ⟨Nat.zero_le _, Nat.zero_le _⟩ (fun r2 H locs f2 hP1 hS1 => ?_)
  replace hP := hP1
  replace hS := hS1
  clear hP1 hS1
  refine lv_if_eq (tgt := 18) hx hb dX7_readsUnit_9 (by decide) (fun c3 => ?_) (fun c3 => ?_)
  · have c3 := zz_eqT c3
    refine lv_aload_n hx hb dX7_readsUnit_18 rfl (lv_at hl 1 rfl) ?_
    refine lv_iload_n hx hb dX7_readsUnit_19 rfl (lv_at hl 0 rfl) ?_
    refine zz_callVp (As := [.int r1]) (rest := []) ⟨hx, hb, hml, hown, hts⟩ hK hP hS (c_X7_nameOf l E σ h0 r1 g0 us (by exact hus) (by exact hu1)) (cwV 1 hts gX7_readsUnit_X7_nameOf rfl rfl rfl (by decide +kernel) ⟨by show 1 + 1 ≤ 10 + rk; omega, by show 8 + (4 + 11) + 22 ≤ 300 + 60 * rk; omega⟩) (g0.1) rfl rfl hl.1 rfl (Nat.le_of_ble_eq_true rfl) dX7_readsUnit_20 ⟨Nat.zero_le _, Nat.zero_le _⟩ (fun r4 H locs f4 hP1 hS1 => ?_)
    replace hP := hP1
    replace hS := hS1
    clear hP1 hS1
    skip
    refine lv_istore_n (lv' := [(3, .int r4), (2, .int r1), (0, .ref h0), (1, .int op)]) hx hb dX7_readsUnit_23 rfl hl (by decide) rfl (fun ls hl => ?_)
    refine lv_iload_n hx hb dX7_readsUnit_24 rfl (lv_at hl 0 rfl) ?_
    refine lv_if_lt (tgt := 49) hx hb dX7_readsUnit_25 (by decide) (fun c5 => ?_) (fun c5 => ?_)
    · have c5 := zz_ltT c5
      refine lv_iload_n hx hb dX7_readsUnit_49 rfl (lv_at hl 1 rfl) ?_
      refine lv_bipush (v := 33) hx hb dX7_readsUnit_50 (by decide) ?_
      refine lv_icmp_eq (tgt := 61) hx hb dX7_readsUnit_52 (by decide) (fun c6 => ?_) (fun c6 => ?_)
      · have c6 := zz_eqT c6
        skip
        refine lv_iload_n hx hb dX7_readsUnit_61 rfl (lv_at hl 3 rfl) ?_
        refine lv_iconst (v := 5) hx hb dX7_readsUnit_62 (by decide) ?_
        refine lv_icmp_lt (tgt := 68) hx hb dX7_readsUnit_63 (by decide) (fun c7 => ?_) (fun c7 => ?_)
        · have c7 := zz_ltT c7
          refine lv_aload_n hx hb dX7_readsUnit_68 rfl (lv_at hl 2 rfl) ?_
          refine lv_dup hx hb dX7_readsUnit_69 rfl ?_
          refine zz_geti hx hb hts hi7 hown hK hP (g0.1) rfl 0 (by decide) (hts (.fieldLink RX7 41 "NoonLaw$TextReader" "place" "I") (List.mem_cons_of_mem _ bm_458)) rfl rfl rfl dX7_readsUnit_70 ?_
          refine lv_iconst (v := 1) hx hb dX7_readsUnit_73 (by decide) ?_
          refine lv_iadd hx hb dX7_readsUnit_74 ?_
          refine lv_topi (fun n8 e8 => ?_)
          have f8 : n8.toInt = (σ h0 0).toInt + (1 : Int32).toInt := zz_addT e8 (by omega) (by omega)
          refine zz_puti (v := n8) (ty := .int) hx hb hts hi7 tyX7 tyX7_ok nmX7 hown hK hP hS (g0.1) rfl 0 (by decide) (hts (.fieldLink RX7 41 "NoonLaw$TextReader" "place" "I") (List.mem_cons_of_mem _ bm_458)) rfl rfl (by decide +kernel) rfl rfl rfl dX7_readsUnit_75 (fun σ9 H locs w9 hP1 hS1 => ?_)
          replace hP := hP1
          replace hS := hS1
          clear hP1 hS1
          replace hC := hC.u w9 (dS9_4 h0)
          replace t0 : σ9 h0 1 = σ h0 1 := (zz_w (b := h0) (j := 1) w9 (fun q9 => absurd q9.2 (by decide))).trans t0
          replace t1 : σ9 h0 4 = σ h0 4 := (zz_w (b := h0) (j := 4) w9 (fun q9 => absurd q9.2 (by decide))).trans t1
          have hpl := zz_uT w9
          refine lv_iload_n hx hb dX7_readsUnit_78 rfl (lv_at hl 1 rfl) ?_
          refine lv_bipush (v := 33) hx hb dX7_readsUnit_79 (by decide) ?_
          refine lv_icmp_ne (tgt := 94) hx hb dX7_readsUnit_81 (by decide) (fun c10 => ?_) (fun c10 => ?_)
          · have c10 := zz_neT c10
            refine lv_aload_n hx hb dX7_readsUnit_94 rfl (lv_at hl 2 rfl) ?_
            refine lv_iload_n hx hb dX7_readsUnit_95 rfl (lv_at hl 3 rfl) ?_
            refine lv_iconst (v := 1) hx hb dX7_readsUnit_96 (by decide) ?_
            refine lv_iadd hx hb dX7_readsUnit_97 ?_
            refine lv_topi (fun n11 e11 => ?_)
            have f11 : n11.toInt = (op).toInt + (1 : Int32).toInt := zz_addT e11 (by omega) (by omega)
            obtain ⟨nc12, hc12, C12⟩ := HR (by first | trivial | omega)
            refine zz_callVi (As := [.int n11]) (rest := []) ⟨hx, hb, hml, hown, hts⟩ hK hP hS (C12 σ9 h0 n11 g0 (by first | omega | (rw [t0]; omega) | (rw [t1]; omega)) (by first | omega | (rw [t0]; omega) | (rw [t1]; omega)) (by first | omega | (rw [t0]; omega) | (rw [t1]; omega)) (by exact hT.keep (hC _ _ (by first | (dsimp only; omega) | omega)) (fun k => hC _ _ (by first | (dsimp only; omega) | omega))) (by rw [hC _ _ (by first | (dsimp only; omega) | omega)]; exact hus) (by exact hu1) (by first | omega | (rw [t0]; omega) | (rw [t1]; omega))) (cwV 1 hts gX7_readsUnit_X7_readsRest rfl rfl rfl (by decide +kernel) ⟨by show 10 + nc12 + 1 ≤ 10 + rk; omega, by show 8 + (2 + 11) + (300 + 60 * nc12) ≤ 300 + 60 * rk; omega⟩) (g0.1) rfl rfl hl.1 rfl (Nat.le_of_ble_eq_true rfl) dX7_readsUnit_98 ⟨Nat.zero_le _, Nat.zero_le _⟩ (fun r12 σ12 H locs q12 hP1 hS1 => ?_)
            replace hP := hP1
            replace hS := hS1
            clear hP1 hS1
            try dsimp only at q12
            obtain ⟨w12, f12⟩ := q12
            replace hC := hC.tr (w12.mono (dS9_5 h0))
            try simp only [t0, t1] at f12
            replace t0 : σ12 h0 1 = σ12 h0 1 := rfl
            replace t1 : σ12 h0 4 = σ h0 4 := (w12 h0 4 (dS9_6 h0)).trans t1
            exact zz_zret hx hb hr hlocks hK hP hS dX7_readsUnit_101 (zz_01 (by omega)) (by exact ⟨hC, by rw [t0]; omega, zz_q7.urest (m := (5 - (v + 1)).toNat) f12.2 w9 (by omega) (by omega) f1.1 (by omega)⟩)
          · have c10 := zz_eqT c10
            refine lv_aload_n hx hb dX7_readsUnit_84 rfl (lv_at hl 2 rfl) ?_
            refine lv_iload_n hx hb dX7_readsUnit_85 rfl (lv_at hl 3 rfl) ?_
            refine lv_iconst (v := 1) hx hb dX7_readsUnit_86 (by decide) ?_
            refine lv_iadd hx hb dX7_readsUnit_87 ?_
            refine lv_topi (fun n13 e13 => ?_)
            have f13 : n13.toInt = (op).toInt + (1 : Int32).toInt := zz_addT e13 (by omega) (by omega)
            obtain ⟨nc14, hc14, C14⟩ := HN (by first | trivial | omega)
            refine zz_callVi (As := [.int n13]) (rest := []) ⟨hx, hb, hml, hown, hts⟩ hK hP hS (C14 σ9 h0 n13 g0 (by first | omega | (rw [t0]; omega) | (rw [t1]; omega)) (by first | omega | (rw [t0]; omega) | (rw [t1]; omega)) (by first | omega | (rw [t0]; omega) | (rw [t1]; omega)) (by exact hT.keep (hC _ _ (by first | (dsimp only; omega) | omega)) (fun k => hC _ _ (by first | (dsimp only; omega) | omega))) (by rw [hC _ _ (by first | (dsimp only; omega) | omega)]; exact hus) (by exact hu1) (by first | omega | (rw [t0]; omega) | (rw [t1]; omega))) (cwV 1 hts gX7_readsUnit_X7_readsNot rfl rfl rfl (by decide +kernel) ⟨by show 10 + nc14 + 1 ≤ 10 + rk; omega, by show 8 + (2 + 11) + (300 + 60 * nc14) ≤ 300 + 60 * rk; omega⟩) (g0.1) rfl rfl hl.1 rfl (Nat.le_of_ble_eq_true rfl) dX7_readsUnit_88 ⟨Nat.zero_le _, Nat.zero_le _⟩ (fun r14 σ14 H locs q14 hP1 hS1 => ?_)
            replace hP := hP1
            replace hS := hS1
            clear hP1 hS1
            try dsimp only at q14
            obtain ⟨w14, f14⟩ := q14
            replace hC := hC.tr (w14.mono (dS9_5 h0))
            try simp only [t0, t1] at f14
            replace t0 : σ14 h0 1 = σ14 h0 1 := rfl
            replace t1 : σ14 h0 4 = σ h0 4 := (w14 h0 4 (dS9_6 h0)).trans t1
            refine lv_goto (tgt := 101) hx hb dX7_readsUnit_91 (by decide) ?_
            exact zz_zret hx hb hr hlocks hK hP hS dX7_readsUnit_101 (zz_01 (by omega)) (by exact ⟨hC, by rw [t0]; omega, zz_q7.unot (m := (5 - (v + 1)).toNat) f14.2 w9 (by omega) (by omega) f1.1 (by omega)⟩)
        · have c7 := zz_nltT c7
          refine lv_iconst (v := 0) hx hb dX7_readsUnit_66 (by decide) ?_
          exact zz_zret hx hb hr hlocks hK hP hS dX7_readsUnit_67 (zz_01 (by omega)) (by exact ⟨hC, by rw [t0]; omega, zz_q7.unone f4.1 f1.1 (by omega) (by omega) (Or.inl (by omega)) k_0⟩)
      · have c6 := zz_neT c6
        refine lv_iload_n hx hb dX7_readsUnit_55 rfl (lv_at hl 1 rfl) ?_
        refine lv_bipush (v := 40) hx hb dX7_readsUnit_56 (by decide) ?_
        refine lv_icmp_ne (tgt := 66) hx hb dX7_readsUnit_58 (by decide) (fun c15 => ?_) (fun c15 => ?_)
        · have c15 := zz_neT c15
          refine lv_iconst (v := 0) hx hb dX7_readsUnit_66 (by decide) ?_
          exact zz_zret hx hb hr hlocks hK hP hS dX7_readsUnit_67 (zz_01 (by omega)) (by exact ⟨hC, by rw [t0]; omega, zz_q7.unone f4.1 f1.1 (by omega) (by omega) (Or.inr ⟨by omega, by omega⟩) k_0⟩)
        · have c15 := zz_eqT c15
          skip
          refine lv_iload_n hx hb dX7_readsUnit_61 rfl (lv_at hl 3 rfl) ?_
          refine lv_iconst (v := 5) hx hb dX7_readsUnit_62 (by decide) ?_
          refine lv_icmp_lt (tgt := 68) hx hb dX7_readsUnit_63 (by decide) (fun c16 => ?_) (fun c16 => ?_)
          · have c16 := zz_ltT c16
            refine lv_aload_n hx hb dX7_readsUnit_68 rfl (lv_at hl 2 rfl) ?_
            refine lv_dup hx hb dX7_readsUnit_69 rfl ?_
            refine zz_geti hx hb hts hi7 hown hK hP (g0.1) rfl 0 (by decide) (hts (.fieldLink RX7 41 "NoonLaw$TextReader" "place" "I") (List.mem_cons_of_mem _ bm_458)) rfl rfl rfl dX7_readsUnit_70 ?_
            refine lv_iconst (v := 1) hx hb dX7_readsUnit_73 (by decide) ?_
            refine lv_iadd hx hb dX7_readsUnit_74 ?_
            refine lv_topi (fun n17 e17 => ?_)
            have f17 : n17.toInt = (σ h0 0).toInt + (1 : Int32).toInt := zz_addT e17 (by omega) (by omega)
            refine zz_puti (v := n17) (ty := .int) hx hb hts hi7 tyX7 tyX7_ok nmX7 hown hK hP hS (g0.1) rfl 0 (by decide) (hts (.fieldLink RX7 41 "NoonLaw$TextReader" "place" "I") (List.mem_cons_of_mem _ bm_458)) rfl rfl (by decide +kernel) rfl rfl rfl dX7_readsUnit_75 (fun σ18 H locs w18 hP1 hS1 => ?_)
            replace hP := hP1
            replace hS := hS1
            clear hP1 hS1
            replace hC := hC.u w18 (dS9_4 h0)
            replace t0 : σ18 h0 1 = σ h0 1 := (zz_w (b := h0) (j := 1) w18 (fun q9 => absurd q9.2 (by decide))).trans t0
            replace t1 : σ18 h0 4 = σ h0 4 := (zz_w (b := h0) (j := 4) w18 (fun q9 => absurd q9.2 (by decide))).trans t1
            have hpl := zz_uT w18
            refine lv_iload_n hx hb dX7_readsUnit_78 rfl (lv_at hl 1 rfl) ?_
            refine lv_bipush (v := 33) hx hb dX7_readsUnit_79 (by decide) ?_
            refine lv_icmp_ne (tgt := 94) hx hb dX7_readsUnit_81 (by decide) (fun c19 => ?_) (fun c19 => ?_)
            · have c19 := zz_neT c19
              refine lv_aload_n hx hb dX7_readsUnit_94 rfl (lv_at hl 2 rfl) ?_
              refine lv_iload_n hx hb dX7_readsUnit_95 rfl (lv_at hl 3 rfl) ?_
              refine lv_iconst (v := 1) hx hb dX7_readsUnit_96 (by decide) ?_
              refine lv_iadd hx hb dX7_readsUnit_97 ?_
              refine lv_topi (fun n20 e20 => ?_)
              have f20 : n20.toInt = (op).toInt + (1 : Int32).toInt := zz_addT e20 (by omega) (by omega)
              obtain ⟨nc21, hc21, C21⟩ := HR (by first | trivial | omega)
              refine zz_callVi (As := [.int n20]) (rest := []) ⟨hx, hb, hml, hown, hts⟩ hK hP hS (C21 σ18 h0 n20 g0 (by first | omega | (rw [t0]; omega) | (rw [t1]; omega)) (by first | omega | (rw [t0]; omega) | (rw [t1]; omega)) (by first | omega | (rw [t0]; omega) | (rw [t1]; omega)) (by exact hT.keep (hC _ _ (by first | (dsimp only; omega) | omega)) (fun k => hC _ _ (by first | (dsimp only; omega) | omega))) (by rw [hC _ _ (by first | (dsimp only; omega) | omega)]; exact hus) (by exact hu1) (by first | omega | (rw [t0]; omega) | (rw [t1]; omega))) (cwV 1 hts gX7_readsUnit_X7_readsRest rfl rfl rfl (by decide +kernel) ⟨by show 10 + nc21 + 1 ≤ 10 + rk; omega, by show 8 + (2 + 11) + (300 + 60 * nc21) ≤ 300 + 60 * rk; omega⟩) (g0.1) rfl rfl hl.1 rfl (Nat.le_of_ble_eq_true rfl) dX7_readsUnit_98 ⟨Nat.zero_le _, Nat.zero_le _⟩ (fun r21 σ21 H locs q21 hP1 hS1 => ?_)
              replace hP := hP1
              replace hS := hS1
              clear hP1 hS1
              try dsimp only at q21
              obtain ⟨w21, f21⟩ := q21
              replace hC := hC.tr (w21.mono (dS9_5 h0))
              try simp only [t0, t1] at f21
              replace t0 : σ21 h0 1 = σ21 h0 1 := rfl
              replace t1 : σ21 h0 4 = σ h0 4 := (w21 h0 4 (dS9_6 h0)).trans t1
              exact zz_zret hx hb hr hlocks hK hP hS dX7_readsUnit_101 (zz_01 (by omega)) (by exact ⟨hC, by rw [t0]; omega, zz_q7.urest (m := (5 - (v + 1)).toNat) f21.2 w18 (by omega) (by omega) f1.1 (by omega)⟩)
            · have c19 := zz_eqT c19
              refine lv_aload_n hx hb dX7_readsUnit_84 rfl (lv_at hl 2 rfl) ?_
              refine lv_iload_n hx hb dX7_readsUnit_85 rfl (lv_at hl 3 rfl) ?_
              refine lv_iconst (v := 1) hx hb dX7_readsUnit_86 (by decide) ?_
              refine lv_iadd hx hb dX7_readsUnit_87 ?_
              refine lv_topi (fun n22 e22 => ?_)
              have f22 : n22.toInt = (op).toInt + (1 : Int32).toInt := zz_addT e22 (by omega) (by omega)
              obtain ⟨nc23, hc23, C23⟩ := HN (by first | trivial | omega)
              refine zz_callVi (As := [.int n22]) (rest := []) ⟨hx, hb, hml, hown, hts⟩ hK hP hS (C23 σ18 h0 n22 g0 (by first | omega | (rw [t0]; omega) | (rw [t1]; omega)) (by first | omega | (rw [t0]; omega) | (rw [t1]; omega)) (by first | omega | (rw [t0]; omega) | (rw [t1]; omega)) (by exact hT.keep (hC _ _ (by first | (dsimp only; omega) | omega)) (fun k => hC _ _ (by first | (dsimp only; omega) | omega))) (by rw [hC _ _ (by first | (dsimp only; omega) | omega)]; exact hus) (by exact hu1) (by first | omega | (rw [t0]; omega) | (rw [t1]; omega))) (cwV 1 hts gX7_readsUnit_X7_readsNot rfl rfl rfl (by decide +kernel) ⟨by show 10 + nc23 + 1 ≤ 10 + rk; omega, by show 8 + (2 + 11) + (300 + 60 * nc23) ≤ 300 + 60 * rk; omega⟩) (g0.1) rfl rfl hl.1 rfl (Nat.le_of_ble_eq_true rfl) dX7_readsUnit_88 ⟨Nat.zero_le _, Nat.zero_le _⟩ (fun r23 σ23 H locs q23 hP1 hS1 => ?_)
              replace hP := hP1
              replace hS := hS1
              clear hP1 hS1
              try dsimp only at q23
              obtain ⟨w23, f23⟩ := q23
              replace hC := hC.tr (w23.mono (dS9_5 h0))
              try simp only [t0, t1] at f23
              replace t0 : σ23 h0 1 = σ23 h0 1 := rfl
              replace t1 : σ23 h0 4 = σ h0 4 := (w23 h0 4 (dS9_6 h0)).trans t1
              refine lv_goto (tgt := 101) hx hb dX7_readsUnit_91 (by decide) ?_
              exact zz_zret hx hb hr hlocks hK hP hS dX7_readsUnit_101 (zz_01 (by omega)) (by exact ⟨hC, by rw [t0]; omega, zz_q7.unot (m := (5 - (v + 1)).toNat) f23.2 w18 (by omega) (by omega) f1.1 (by omega)⟩)
          · have c16 := zz_nltT c16
            refine lv_iconst (v := 0) hx hb dX7_readsUnit_66 (by decide) ?_
            exact zz_zret hx hb hr hlocks hK hP hS dX7_readsUnit_67 (zz_01 (by omega)) (by exact ⟨hC, by rw [t0]; omega, zz_q7.unone f4.1 f1.1 (by omega) (by omega) (Or.inl (by omega)) k_0⟩)
    · have c5 := zz_nltT c5
      have hnl := f4.1.low (by omega)
      refine lv_aload_n hx hb dX7_readsUnit_28 rfl (lv_at hl 2 rfl) ?_
      refine lv_dup hx hb dX7_readsUnit_29 rfl ?_
      refine zz_geti hx hb hts hi7 hown hK hP (g0.1) rfl 0 (by decide) (hts (.fieldLink RX7 41 "NoonLaw$TextReader" "place" "I") (List.mem_cons_of_mem _ bm_458)) rfl rfl rfl dX7_readsUnit_30 ?_
      refine lv_iconst (v := 1) hx hb dX7_readsUnit_33 (by decide) ?_
      refine lv_iadd hx hb dX7_readsUnit_34 ?_
      refine lv_topi (fun n24 e24 => ?_)
      have f24 : n24.toInt = (σ h0 0).toInt + (1 : Int32).toInt := zz_addT e24 (by omega) (by omega)
      refine zz_puti (v := n24) (ty := .int) hx hb hts hi7 tyX7 tyX7_ok nmX7 hown hK hP hS (g0.1) rfl 0 (by decide) (hts (.fieldLink RX7 41 "NoonLaw$TextReader" "place" "I") (List.mem_cons_of_mem _ bm_458)) rfl rfl (by decide +kernel) rfl rfl rfl dX7_readsUnit_35 (fun σ25 H locs w25 hP1 hS1 => ?_)
      replace hP := hP1
      replace hS := hS1
      clear hP1 hS1
      replace hC := hC.u w25 (dS9_4 h0)
      replace t0 : σ25 h0 1 = σ h0 1 := (zz_w (b := h0) (j := 1) w25 (fun q9 => absurd q9.2 (by decide))).trans t0
      replace t1 : σ25 h0 4 = σ h0 4 := (zz_w (b := h0) (j := 4) w25 (fun q9 => absurd q9.2 (by decide))).trans t1
      have hpl := zz_uT w25
      refine lv_aload_n hx hb dX7_readsUnit_38 rfl (lv_at hl 2 rfl) ?_
      refine lv_sipush (v := 10000) hx hb dX7_readsUnit_39 (by decide) ?_
      refine lv_iload_n hx hb dX7_readsUnit_42 rfl (lv_at hl 0 rfl) ?_
      refine lv_iadd hx hb dX7_readsUnit_43 ?_
      refine lv_topi (fun n26 e26 => ?_)
      have f26 : n26.toInt = (10000 : Int32).toInt + (r4).toInt := zz_addT e26 (by omega) (by omega)
      refine zz_callVv (As := [.int n26]) (rest := []) ⟨hx, hb, hml, hown, hts⟩ hK hP hS (c_X7_emit l E σ25 h0 n26 g0 (by first | omega | (rw [t0]; omega) | (rw [t1]; omega))) (cwV 1 hts gX7_readsUnit_X7_emit rfl rfl rfl (by decide +kernel) ⟨by show 0 + 1 ≤ 10 + rk; omega, by show 8 + (2 + 11) + 0 ≤ 300 + 60 * rk; omega⟩) (g0.1) rfl rfl hl.1 rfl (Nat.le_of_ble_eq_true rfl) dX7_readsUnit_44 ⟨Nat.zero_le _, Nat.zero_le _⟩ (fun σ27 H locs q27 hP1 hS1 => ?_)
      replace hP := hP1
      replace hS := hS1
      clear hP1 hS1
      try dsimp only at q27
      obtain ⟨w27, f27⟩ := q27
      replace hC := hC.tr (w27.mono (dS9_2 h0))
      try simp only [t0, t1] at f27
      replace t0 : σ27 h0 1 = σ27 h0 1 := rfl
      replace t1 : σ27 h0 4 = σ h0 4 := (w27 h0 4 (dS9_3 h0)).trans t1
      refine lv_iconst (v := 1) hx hb dX7_readsUnit_47 (by decide) ?_
      exact zz_zret hx hb hr hlocks hK hP hS dX7_readsUnit_48 (zz_01 (by omega)) (by exact ⟨hC, by rw [t0]; omega, zz_q7.uname f4.1 f1.1 (by omega) w25 (by omega) f27.2.2 (by omega) (w27 _ _ (by first | (dsimp only; omega) | omega)) k_1⟩)
  · have c3 := zz_neT c3
    refine lv_aload_n hx hb dX7_readsUnit_12 rfl (lv_at hl 1 rfl) ?_
    refine zz_callVv (As := []) (rest := []) ⟨hx, hb, hml, hown, hts⟩ hK hP hS (c_X7_readNumber l E σ h0 g0 (by first | omega | (rw [t0]; omega) | (rw [t1]; omega)) (by first | omega | (rw [t0]; omega) | (rw [t1]; omega)) (by first | omega | (rw [t0]; omega) | (rw [t1]; omega)) T (by exact hT)) (cwV 0 hts gX7_readsUnit_X7_readNumber rfl rfl rfl (by decide +kernel) ⟨by show 1 + 1 ≤ 10 + rk; omega, by show 8 + (3 + 11) + 21 ≤ 300 + 60 * rk; omega⟩) (g0.1) rfl rfl hl.1 rfl (Nat.le_of_ble_eq_true rfl) dX7_readsUnit_13 ⟨Nat.zero_le _, Nat.zero_le _⟩ (fun σ28 H locs q28 hP1 hS1 => ?_)
    replace hP := hP1
    replace hS := hS1
    clear hP1 hS1
    try dsimp only at q28
    obtain ⟨w28, f28⟩ := q28
    replace hC := hC.tr (w28.mono (dS9_5 h0))
    replace t0 : σ28 h0 1 = σ28 h0 1 := rfl
    replace t1 : σ28 h0 4 = σ h0 4 := (w28 h0 4 (dS9_6 h0)).trans t1
    refine lv_iconst (v := 1) hx hb dX7_readsUnit_16 (by decide) ?_
    exact zz_zret hx hb hr hlocks hK hP hS dX7_readsUnit_17 (zz_01 (by omega)) (by exact ⟨hC, by rw [t0]; omega, zz_q7.unum f28.2 (by omega) k_1⟩)
theorem gX7_readsNot_X7_readsUnit : GoodIn wzX7_readsNot (wsV RX7 51 RX7 yX7_readsUnit wzX7_readsUnit) := wz_co bm_464 (wz_co bm_465 (wz_co bm_466 (wz_co bm_26 (wz_in bm_480))))
theorem gX7_readsNot_X7_emit : GoodIn wzX7_readsNot (wsV RX7 63 RX7 yX7_emit wzX7_emit) := wz_co bm_474 (wz_co bm_475 (wz_co bm_476 (wz_co bm_26 (wz_in bm_477))))
set_option maxHeartbeats 4000000 in
set_option maxRecDepth 100000 in
theorem g_X7_readsNot (l : Launch) (E : zz_E) (rk : Nat) (T : Int → Int) (us : Int) (v : Int) (HU : True → ∃ nc : Nat, nc < rk ∧ k_X7_readsUnit l E nc T us v) : k_X7_readsNot l E rk T us v := by
  intro σ h0 op g0 hl1 hs hp0 hT hus hu1 ho
  refine zz_met (cc := cX7_readsNot) (maxL := 2) (ret := (some .boolean)) (by decide) rfl (Nat.le_of_ble_eq_true rfl) ?_
  intro p e s m args below meth c ls hx hb hr hts hown hlocks hml hK hP hS hl
  have hl : lv_has ls 2 [(0, .ref h0), (1, .int op)] := hl
  have hown : s.vm.findClass RX7 = some m.cls := hown
  have k_0 : (0 : Int32).toInt = 0 := by decide +kernel
  have k_1 : (1 : Int32).toInt = 1 := by decide +kernel
  have k_20033 : (20033 : Int32).toInt = 20033 := by decide +kernel
  replace t0 : σ h0 1 = σ h0 1 := rfl
  replace t1 : σ h0 4 = σ h0 4 := rfl
  have hC : zz_ch (fun a k => (a = h0 ∧ (k = 0 ∨ k = 1)) ∨ a = h0 + 1) σ σ := zz_ch.rf σ
  refine lv_aload_n hx hb dX7_readsNot_0 rfl (lv_at hl 0 rfl) ?_
  refine lv_iload_n hx hb dX7_readsNot_1 rfl (lv_at hl 1 rfl) ?_
  obtain ⟨nc1, hc1, C1⟩ := HU (by first | trivial | omega)
  refine zz_callVi (As := [.int op]) (rest := []) ⟨hx, hb, hml, hown, hts⟩ hK hP hS (C1 σ h0 op g0 (by first | omega | (rw [t0]; omega) | (rw [t1]; omega)) (by first | omega | (rw [t0]; omega) | (rw [t1]; omega)) (by first | omega | (rw [t0]; omega) | (rw [t1]; omega)) (by exact hT) (by exact hus) (by exact hu1) (by first | omega | (rw [t0]; omega) | (rw [t1]; omega))) (cwV 1 hts gX7_readsNot_X7_readsUnit rfl rfl rfl (by decide +kernel) ⟨by show 10 + nc1 + 1 ≤ 10 + rk; omega, by show 8 + (4 + 11) + (300 + 60 * nc1) ≤ 300 + 60 * rk; omega⟩) (g0.1) rfl rfl hl.1 rfl (Nat.le_of_ble_eq_true rfl) dX7_readsNot_2 ⟨Nat.zero_le _, Nat.zero_le _⟩ (fun r1 σ1 H locs q1 hP1 hS1 => ?_)
  replace hP := hP1
  replace hS := hS1
  clear hP1 hS1
  try dsimp only at q1
  obtain ⟨w1, f1⟩ := q1
  replace hC := hC.tr (w1.mono (dS9_5 h0))
  replace t0 : σ1 h0 1 = σ1 h0 1 := rfl
  replace t1 : σ1 h0 4 = σ h0 4 := (w1 h0 4 (dS9_6 h0)).trans t1
  refine lv_if_ne (tgt := 10) hx hb dX7_readsNot_5 (by decide) (fun c2 => ?_) (fun c2 => ?_)
  · have c2 := zz_neT c2
    refine lv_aload_n hx hb dX7_readsNot_10 rfl (lv_at hl 0 rfl) ?_
    refine lv_sipush (v := 20033) hx hb dX7_readsNot_11 (by decide) ?_
    refine zz_callVv (As := [.int 20033]) (rest := []) ⟨hx, hb, hml, hown, hts⟩ hK hP hS (c_X7_emit l E σ1 h0 20033 g0 (by first | omega | (rw [t0]; omega) | (rw [t1]; omega))) (cwV 1 hts gX7_readsNot_X7_emit rfl rfl rfl (by decide +kernel) ⟨by show 0 + 1 ≤ 10 + rk; omega, by show 8 + (2 + 11) + 0 ≤ 300 + 60 * rk; omega⟩) (g0.1) rfl rfl hl.1 rfl (Nat.le_of_ble_eq_true rfl) dX7_readsNot_14 ⟨Nat.zero_le _, Nat.zero_le _⟩ (fun σ3 H locs q3 hP1 hS1 => ?_)
    replace hP := hP1
    replace hS := hS1
    clear hP1 hS1
    try dsimp only at q3
    obtain ⟨w3, f3⟩ := q3
    replace hC := hC.tr (w3.mono (dS9_2 h0))
    try simp only [t1] at f3
    replace t0 : σ3 h0 1 = σ3 h0 1 := rfl
    replace t1 : σ3 h0 4 = σ h0 4 := (w3 h0 4 (dS9_3 h0)).trans t1
    refine lv_iconst (v := 1) hx hb dX7_readsNot_17 (by decide) ?_
    exact zz_zret hx hb hr hlocks hK hP hS dX7_readsNot_18 (zz_01 (by omega)) (by exact ⟨hC, by rw [t0]; omega, zz_q7.nok (U := (fun q => zz_uq T us (5 - v).toNat q)) f1.2 (by omega) f3.2.2 k_20033 (w3 _ _ (by first | (dsimp only; omega) | omega)) k_1⟩)
  · have c2 := zz_eqT c2
    refine lv_iconst (v := 0) hx hb dX7_readsNot_8 (by decide) ?_
    exact zz_zret hx hb hr hlocks hK hP hS dX7_readsNot_9 (zz_01 (by omega)) (by exact ⟨hC, by rw [t0]; omega, zz_q7.nfail (U := (fun q => zz_uq T us (5 - v).toNat q)) f1.2 (by omega) k_0⟩)
theorem gX7_readsRest_X7_readsLevel : GoodIn wzX7_readsRest (wsV RX7 47 RX7 yX7_readsLevel wzX7_readsLevel) := wz_co bm_460 (wz_co bm_461 (wz_co bm_462 (wz_co bm_26 (wz_in bm_463))))
theorem gX7_readsRest_X7_here : GoodIn wzX7_readsRest (wsV RX7 55 RX7 yX7_here wzX7_here) := wz_co bm_467 (wz_co bm_468 (wz_co bm_469 (wz_co bm_26 (wz_in bm_470))))
set_option maxHeartbeats 4000000 in
set_option maxRecDepth 100000 in
theorem g_X7_readsRest (l : Launch) (E : zz_E) (rk : Nat) (T : Int → Int) (us : Int) (v : Int) (HL : True → ∃ nc : Nat, nc < rk ∧ k_X7_readsLevel l E nc T us 0 v) : k_X7_readsRest l E rk T us v := by
  intro σ h0 op g0 hl1 hs hp0 hT hus hu1 ho
  refine zz_met (cc := cX7_readsRest) (maxL := 2) (ret := (some .boolean)) (by decide) rfl (Nat.le_of_ble_eq_true rfl) ?_
  intro p e s m args below meth c ls hx hb hr hts hown hlocks hml hK hP hS hl
  have hl : lv_has ls 2 [(0, .ref h0), (1, .int op)] := hl
  have hown : s.vm.findClass RX7 = some m.cls := hown
  have hi7 : ∀ w ∈ wsX70, w ∈ wzX7_readsRest := fun w h => List.mem_cons_of_mem _ (hbw7 w h)
  have k_0 : (0 : Int32).toInt = 0 := by decide +kernel
  have k_1 : (1 : Int32).toInt = 1 := by decide +kernel
  have k_41 : (41 : Int32).toInt = 41 := by decide +kernel
  replace t0 : σ h0 1 = σ h0 1 := rfl
  replace t1 : σ h0 4 = σ h0 4 := rfl
  have hC : zz_ch (fun a k => (a = h0 ∧ (k = 0 ∨ k = 1)) ∨ a = h0 + 1) σ σ := zz_ch.rf σ
  refine lv_aload_n hx hb dX7_readsRest_0 rfl (lv_at hl 0 rfl) ?_
  refine lv_iconst (v := 0) hx hb dX7_readsRest_1 (by decide) ?_
  refine lv_iload_n hx hb dX7_readsRest_2 rfl (lv_at hl 1 rfl) ?_
  obtain ⟨nc1, hc1, C1⟩ := HL (by first | trivial | omega)
  refine zz_callVi (As := [.int 0, .int op]) (rest := []) ⟨hx, hb, hml, hown, hts⟩ hK hP hS (C1 σ h0 0 op g0 (by first | omega | (rw [t0]; omega) | (rw [t1]; omega)) (by first | omega | (rw [t0]; omega) | (rw [t1]; omega)) (by first | omega | (rw [t0]; omega) | (rw [t1]; omega)) (by exact hT) (by exact hus) (by exact hu1) (by first | omega | (rw [t0]; omega) | (rw [t1]; omega)) (by first | omega | (rw [t0]; omega) | (rw [t1]; omega))) (cwV 2 hts gX7_readsRest_X7_readsLevel rfl rfl rfl (by decide +kernel) ⟨by show 10 + nc1 + 1 ≤ 10 + rk; omega, by show 8 + (6 + 11) + (300 + 60 * nc1) ≤ 300 + 60 * rk; omega⟩) (g0.1) rfl rfl hl.1 rfl (Nat.le_of_ble_eq_true rfl) dX7_readsRest_3 ⟨Nat.zero_le _, Nat.zero_le _⟩ (fun r1 σ1 H locs q1 hP1 hS1 => ?_)
  replace hP := hP1
  replace hS := hS1
  clear hP1 hS1
  try dsimp only at q1
  obtain ⟨w1, f1⟩ := q1
  replace hC := hC.tr (w1.mono (dS9_5 h0))
  replace t0 : σ1 h0 1 = σ1 h0 1 := rfl
  replace t1 : σ1 h0 4 = σ h0 4 := (w1 h0 4 (dS9_6 h0)).trans t1
  refine lv_if_eq (tgt := 18) hx hb dX7_readsRest_6 (by decide) (fun c2 => ?_) (fun c2 => ?_)
  · have c2 := zz_eqT c2
    refine lv_iconst (v := 0) hx hb dX7_readsRest_18 (by decide) ?_
    exact zz_zret hx hb hr hlocks hK hP hS dX7_readsRest_19 (zz_01 (by omega)) (by exact ⟨hC, by rw [t0]; omega, zz_q7.rfail f1.2 (Or.inl (by omega)) k_0⟩)
  · have c2 := zz_neT c2
    refine lv_aload_n hx hb dX7_readsRest_9 rfl (lv_at hl 0 rfl) ?_
    refine zz_callVp (As := []) (rest := []) ⟨hx, hb, hml, hown, hts⟩ hK hP hS (c_X7_here l E σ1 h0 g0 (by first | omega | (rw [t0]; omega) | (rw [t1]; omega)) T (by exact hT.keep (hC _ _ (by first | (dsimp only; omega) | omega)) (fun k => hC _ _ (by first | (dsimp only; omega) | omega)))) (cwV 0 hts gX7_readsRest_X7_here rfl rfl rfl (by decide +kernel) ⟨by show 0 + 1 ≤ 10 + rk; omega, by show 8 + (1 + 11) + 0 ≤ 300 + 60 * rk; omega⟩) (g0.1) rfl rfl hl.1 rfl (Nat.le_of_ble_eq_true rfl) dX7_readsRest_10 ⟨Nat.zero_le _, Nat.zero_le _⟩ (fun r3 H locs f3 hP1 hS1 => ?_)
    replace hP := hP1
    replace hS := hS1
    clear hP1 hS1
    have h13 := f3.1
    refine lv_bipush (v := 41) hx hb dX7_readsRest_13 (by decide) ?_
    refine lv_icmp_eq (tgt := 20) hx hb dX7_readsRest_15 (by decide) (fun c4 => ?_) (fun c4 => ?_)
    · have c4 := zz_eqT c4
      have hs9 := congrArg Int32.toInt t1
      refine lv_aload_n hx hb dX7_readsRest_20 rfl (lv_at hl 0 rfl) ?_
      refine lv_dup hx hb dX7_readsRest_21 rfl ?_
      refine zz_geti hx hb hts hi7 hown hK hP (g0.1) rfl 0 (by decide) (hts (.fieldLink RX7 41 "NoonLaw$TextReader" "place" "I") (List.mem_cons_of_mem _ bm_458)) rfl rfl rfl dX7_readsRest_22 ?_
      refine lv_iconst (v := 1) hx hb dX7_readsRest_25 (by decide) ?_
      refine lv_iadd hx hb dX7_readsRest_26 ?_
      refine lv_topi (fun n5 e5 => ?_)
      have f5 : n5.toInt = (σ1 h0 0).toInt + (1 : Int32).toInt := zz_addT e5 (by omega) (by omega)
      refine zz_puti (v := n5) (ty := .int) hx hb hts hi7 tyX7 tyX7_ok nmX7 hown hK hP hS (g0.1) rfl 0 (by decide) (hts (.fieldLink RX7 41 "NoonLaw$TextReader" "place" "I") (List.mem_cons_of_mem _ bm_458)) rfl rfl (by decide +kernel) rfl rfl rfl dX7_readsRest_27 (fun σ6 H locs w6 hP1 hS1 => ?_)
      replace hP := hP1
      replace hS := hS1
      clear hP1 hS1
      replace hC := hC.u w6 (dS9_4 h0)
      replace t0 : σ6 h0 1 = σ1 h0 1 := (zz_w (b := h0) (j := 1) w6 (fun q9 => absurd q9.2 (by decide))).trans t0
      replace t1 : σ6 h0 4 = σ h0 4 := (zz_w (b := h0) (j := 4) w6 (fun q9 => absurd q9.2 (by decide))).trans t1
      have hpl := zz_uT w6
      refine lv_iconst (v := 1) hx hb dX7_readsRest_30 (by decide) ?_
      exact zz_zret hx hb hr hlocks hK hP hS dX7_readsRest_31 (zz_01 (by omega)) (by exact ⟨hC, by rw [t0]; omega, zz_q7.rok f1.2 (by omega) (by rw [← h13]; omega) w6 (by omega) k_1⟩)
    · have c4 := zz_neT c4
      refine lv_iconst (v := 0) hx hb dX7_readsRest_18 (by decide) ?_
      exact zz_zret hx hb hr hlocks hK hP hS dX7_readsRest_19 (zz_01 (by omega)) (by exact ⟨hC, by rw [t0]; omega, zz_q7.rfail f1.2 (Or.inr (by rw [← h13]; omega)) k_0⟩)
theorem k_level (l : Launch) (E : zz_E) (n : Nat) (T : Int → Int) (us v : Int) (hU : k_X7_readsUnit l E n T us v) : k_X7_readsLevel l E (n + 6) T us 0 v := by
  have h5 : k_X7_readsLevel l E (n + 1) T us 5 v := g_X7_readsLevel l E _ _ _ _ _ (by omega) (fun _ => ⟨n, by omega, hU⟩) (fun h => absurd h (by omega))
  have h4 : k_X7_readsLevel l E (n + 2) T us 4 v := g_X7_readsLevel l E _ _ _ _ _ (by omega) (fun h => absurd h (by omega)) (fun _ => ⟨n + 1, by omega, h5⟩)
  have h3 : k_X7_readsLevel l E (n + 3) T us 3 v := g_X7_readsLevel l E _ _ _ _ _ (by omega) (fun h => absurd h (by omega)) (fun _ => ⟨n + 2, by omega, h4⟩)
  have h2 : k_X7_readsLevel l E (n + 4) T us 2 v := g_X7_readsLevel l E _ _ _ _ _ (by omega) (fun h => absurd h (by omega)) (fun _ => ⟨n + 3, by omega, h3⟩)
  have h1 : k_X7_readsLevel l E (n + 5) T us 1 v := g_X7_readsLevel l E _ _ _ _ _ (by omega) (fun h => absurd h (by omega)) (fun _ => ⟨n + 4, by omega, h2⟩)
  exact g_X7_readsLevel l E _ _ _ _ _ (by omega) (fun h => absurd h (by omega)) (fun _ => ⟨n + 5, by omega, h1⟩)
/-- the class's parser, from the deepest brackets outwards -/
theorem k_unit (l : Launch) (E : zz_E) (T : Int → Int) (us : Int) : ∀ d : Nat, d ≤ 5 → k_X7_readsUnit l E (10 * d) T us (5 - (d : Int)) ∧ k_X7_readsLevel l E (10 * d + 6) T us 0 (5 - (d : Int)) := by
  intro d
  induction d with
  | zero =>
    intro _
    have hU : k_X7_readsUnit l E (10 * 0) T us (5 - ((0 : Nat) : Int)) := g_X7_readsUnit l E _ _ _ _ (by omega) (fun h => absurd h (by omega)) (fun h => absurd h (by omega))
    exact ⟨hU, k_level l E _ _ _ _ hU⟩
  | succ d ih =>
    intro h
    obtain ⟨h1, h2⟩ := ih (by omega)
    have e : (5 - ((d + 1 : Nat) : Int)) + 1 = 5 - (d : Int) := by omega
    have hU : k_X7_readsUnit l E (10 * (d + 1)) T us (5 - ((d + 1 : Nat) : Int)) := by
      refine g_X7_readsUnit l E _ _ _ _ (by omega) (fun _ => ⟨10 * d + 1, by omega, ?_⟩) (fun _ => ⟨10 * d + 7, by omega, ?_⟩)
      · rw [e]
        exact g_X7_readsNot l E _ _ _ _ (fun _ => ⟨10 * d, by omega, h1⟩)
      · rw [e]
        exact g_X7_readsRest l E _ _ _ _ (fun _ => ⟨10 * d + 6, by omega, h2⟩)
    exact ⟨hU, k_level l E _ _ _ _ hU⟩
theorem c_X7_readsLevel (l : Launch) (E : zz_E) (σ : zz_S) (h0 : Nat) (lv op : Int32) (g0 : zz_Rd E h0) (hl1 : 0 ≤ (σ h0 1).toInt ∧ (σ h0 1).toInt ≤ 60) (hs : 0 ≤ (σ h0 4).toInt ∧ (σ h0 4).toInt ≤ 60) (hp0 : 0 ≤ (σ h0 0).toInt ∧ (σ h0 0).toInt ≤ 60) (T : Int → Int) (us : Int) (hT : zz_hX σ h0 T) (hus : (σ h0 5).toInt = us) (hu1 : us = 0 ∨ us = 1) (hv : lv.toInt = 0) (ho : op.toInt = 0) : Met l yX7_readsLevel wzX7_readsLevel ({ frames := 66, cells := 0, slots := 0, locals := 3660 }) (va_Pc [.ref h0, .int lv, .int op] (zz_B E σ)) (va_Qi (fun r σ1 => zz_ch (fun a k => (a = h0 ∧ (k = 0 ∨ k = 1)) ∨ a = h0 + 1) σ σ1 ∧ (((r.toInt = 0 ∨ r.toInt = 1) ∧ (0 ≤ (σ1 h0 1).toInt ∧ (σ1 h0 1).toInt ≤ 60) ∧ 0 ≤ (σ1 h0 0).toInt ∧ (σ1 h0 0).toInt ≤ 60) ∧ zz_q7 σ σ1 h0 r.toInt (zz_PQ T us (σ h0 0).toInt))) (zz_B E) (zz_A E)) 0 0 (zz_A E) := by
  rw [zz_PQ_eq]
  exact (k_unit l E T us 5 (Nat.le_refl 5)).2 σ h0 lv op g0 hl1 hs hp0 hT hus hu1 hv ho
