set_option maxHeartbeats 4000000 in
set_option maxRecDepth 100000 in
theorem c_X8_within (l : Launch) (E : zz_E) (σ : zz_S) (v : Int32) (lo : Int32) (hi : Int32)  : Met l yX8_within wzX8_within ({ frames := 0, cells := 0, slots := 0, locals := 0 }) (va_Pc [.int v, .int lo, .int hi] (zz_B E σ)) (va_Qi (fun r σ1 => σ1 = σ ∧ ((r.toInt = 1 ∧ lo.toInt ≤ v.toInt ∧ v.toInt ≤ hi.toInt) ∨ (r.toInt = 0 ∧ (v.toInt < lo.toInt ∨ hi.toInt < v.toInt)))) (zz_B E) (zz_A E)) 0 0 (zz_A E) := by
  refine zz_met (cc := cX8_within) (maxL := 3) (ret := (some .boolean)) (by decide) rfl (Nat.le_of_ble_eq_true rfl) ?_
  intro p e s m args below meth c ls hx hb hr hts hown hlocks hml hK hP hS hl
  have hl : lv_has ls 3 [(0, .int v), (1, .int lo), (2, .int hi)] := hl
  have hown : s.vm.findClass RX8 = some m.cls := hown
  have k_0 : (0 : Int32).toInt = 0 := by decide +kernel
  have k_1 : (1 : Int32).toInt = 1 := by decide +kernel
  refine lv_iload_n hx hb dX8_within_0 rfl (lv_at hl 0 rfl) ?_
  refine lv_iload_n hx hb dX8_within_1 rfl (lv_at hl 1 rfl) ?_
  refine lv_icmp_lt (tgt := 14) hx hb dX8_within_2 (by decide) (fun c1 => ?_) (fun c1 => ?_)
  · have c1 := zz_ltT c1
    refine lv_iconst (v := 0) hx hb dX8_within_14 (by decide) ?_
    exact zz_zret hx hb hr hlocks hK hP hS dX8_within_15 (zz_01 (by omega)) (by refine ⟨rfl, ?_⟩; omega)
  · have c1 := zz_nltT c1
    refine lv_iload_n hx hb dX8_within_5 rfl (lv_at hl 0 rfl) ?_
    refine lv_iload_n hx hb dX8_within_6 rfl (lv_at hl 2 rfl) ?_
    refine lv_icmp_gt (tgt := 14) hx hb dX8_within_7 (by decide) (fun c2 => ?_) (fun c2 => ?_)
    · have c2 := zz_ltT c2
      refine lv_iconst (v := 0) hx hb dX8_within_14 (by decide) ?_
      exact zz_zret hx hb hr hlocks hK hP hS dX8_within_15 (zz_01 (by omega)) (by refine ⟨rfl, ?_⟩; omega)
    · have c2 := zz_nltT c2
      refine lv_iconst (v := 1) hx hb dX8_within_10 (by decide) ?_
      refine lv_goto (tgt := 15) hx hb dX8_within_11 (by decide) ?_
      exact zz_zret hx hb hr hlocks hK hP hS dX8_within_15 (zz_01 (by omega)) (by refine ⟨rfl, ?_⟩; omega)
theorem gX8_isKindAndNumber_X8_within : GoodIn wzX8_isKindAndNumber (va_wsS RX8 64 yX8_within wzX8_within) := wz_co bm_112 (wz_co bm_113 (wz_co bm_2 (wz_in bm_114)))
set_option maxHeartbeats 4000000 in
set_option maxRecDepth 100000 in
theorem c_X8_isKindAndNumber (l : Launch) (E : zz_E) (σ : zz_S) (v : Int32)  : Met l yX8_isKindAndNumber wzX8_isKindAndNumber ({ frames := 1, cells := 0, slots := 0, locals := 22 }) (va_Pc [.int v] (zz_B E σ)) (va_Qi (fun r σ1 => σ1 = σ ∧ ((r.toInt = 1 ∧ 0 ≤ v.toInt ∧ v.toInt ≤ 69) ∨ (r.toInt = 0 ∧ (v.toInt < 0 ∨ 69 < v.toInt)))) (zz_B E) (zz_A E)) 0 0 (zz_A E) := by
  refine zz_met (cc := cX8_isKindAndNumber) (maxL := 1) (ret := (some .boolean)) (by decide) rfl (Nat.le_of_ble_eq_true rfl) ?_
  intro p e s m args below meth c ls hx hb hr hts hown hlocks hml hK hP hS hl
  have hl : lv_has ls 1 [(0, .int v)] := hl
  have hown : s.vm.findClass RX8 = some m.cls := hown
  have k_0 : (0 : Int32).toInt = 0 := by decide +kernel
  have k_69 : (69 : Int32).toInt = 69 := by decide +kernel
  refine lv_iload_n hx hb dX8_isKindAndNumber_0 rfl (lv_at hl 0 rfl) ?_
  refine lv_iconst (v := 0) hx hb dX8_isKindAndNumber_1 (by decide) ?_
  refine lv_bipush (v := 69) hx hb dX8_isKindAndNumber_2 (by decide) ?_
  refine zz_callSp (As := [.int v, .int 0, .int 69]) (rest := []) ⟨hx, hb, hml, hown, hts⟩ hK hP hS (c_X8_within l E σ v 0 69) (va_cwS 3 hts gX8_isKindAndNumber_X8_within rfl rfl rfl (by decide +kernel) ⟨Nat.le_of_ble_eq_true rfl, Nat.le_of_ble_eq_true rfl⟩) rfl hl.1 rfl (Nat.le_of_ble_eq_true rfl) dX8_isKindAndNumber_4 ⟨Nat.zero_le _, Nat.zero_le _⟩ (fun r1 H locs f1 hP1 hS1 => ?_)
  replace hP := hP1
  replace hS := hS1
  clear hP1 hS1
  exact zz_zret hx hb hr hlocks hK hP hS dX8_isKindAndNumber_7 (zz_01 (by omega)) (by refine ⟨rfl, ?_⟩; omega)
theorem gX8_isMatterAndSide_X8_within : GoodIn wzX8_isMatterAndSide (va_wsS RX8 64 yX8_within wzX8_within) := wz_co bm_112 (wz_co bm_113 (wz_co bm_2 (wz_in bm_114)))
set_option maxHeartbeats 4000000 in
set_option maxRecDepth 100000 in
theorem c_X8_isMatterAndSide (l : Launch) (E : zz_E) (σ : zz_S) (v : Int32)  : Met l yX8_isMatterAndSide wzX8_isMatterAndSide ({ frames := 1, cells := 0, slots := 0, locals := 22 }) (va_Pc [.int v] (zz_B E σ)) (va_Qi (fun r σ1 => σ1 = σ ∧ ((r.toInt = 1 ∧ 0 ≤ v.toInt ∧ v.toInt ≤ 99 ∧ v.toInt % 10 ≤ 1) ∨ (r.toInt = 0 ∧ (v.toInt < 0 ∨ 99 < v.toInt ∨ 1 < v.toInt % 10)))) (zz_B E) (zz_A E)) 0 0 (zz_A E) := by
  refine zz_met (cc := cX8_isMatterAndSide) (maxL := 1) (ret := (some .boolean)) (by decide) rfl (Nat.le_of_ble_eq_true rfl) ?_
  intro p e s m args below meth c ls hx hb hr hts hown hlocks hml hK hP hS hl
  have hl : lv_has ls 1 [(0, .int v)] := hl
  have hown : s.vm.findClass RX8 = some m.cls := hown
  have k_0 : (0 : Int32).toInt = 0 := by decide +kernel
  have k_1 : (1 : Int32).toInt = 1 := by decide +kernel
  have k_10 : (10 : Int32).toInt = 10 := by decide +kernel
  have k_99 : (99 : Int32).toInt = 99 := by decide +kernel
  refine lv_iload_n hx hb dX8_isMatterAndSide_0 rfl (lv_at hl 0 rfl) ?_
  refine lv_iconst (v := 0) hx hb dX8_isMatterAndSide_1 (by decide) ?_
  refine lv_bipush (v := 99) hx hb dX8_isMatterAndSide_2 (by decide) ?_
  refine zz_callSp (As := [.int v, .int 0, .int 99]) (rest := []) ⟨hx, hb, hml, hown, hts⟩ hK hP hS (c_X8_within l E σ v 0 99) (va_cwS 3 hts gX8_isMatterAndSide_X8_within rfl rfl rfl (by decide +kernel) ⟨Nat.le_of_ble_eq_true rfl, Nat.le_of_ble_eq_true rfl⟩) rfl hl.1 rfl (Nat.le_of_ble_eq_true rfl) dX8_isMatterAndSide_4 ⟨Nat.zero_le _, Nat.zero_le _⟩ (fun r1 H locs f1 hP1 hS1 => ?_)
  replace hP := hP1
  replace hS := hS1
  clear hP1 hS1
  refine lv_if_eq (tgt := 22) hx hb dX8_isMatterAndSide_7 (by decide) (fun c2 => ?_) (fun c2 => ?_)
  · have c2 := zz_eqT c2
    refine lv_iconst (v := 0) hx hb dX8_isMatterAndSide_22 (by decide) ?_
    exact zz_zret hx hb hr hlocks hK hP hS dX8_isMatterAndSide_23 (zz_01 (by omega)) (by refine ⟨rfl, ?_⟩; omega)
  · have c2 := zz_neT c2
    refine lv_iload_n hx hb dX8_isMatterAndSide_10 rfl (lv_at hl 0 rfl) ?_
    refine lv_bipush (v := 10) hx hb dX8_isMatterAndSide_11 (by decide) ?_
    refine lv_irem hx hb dX8_isMatterAndSide_13 (by decide) ?_
    refine lv_topi (fun n3 e3 => ?_)
    have f3 : n3.toInt = (v).toInt % 10 := zz_remT 10 e3 (by decide) (by omega)
    refine lv_iconst (v := 1) hx hb dX8_isMatterAndSide_14 (by decide) ?_
    refine lv_icmp_gt (tgt := 22) hx hb dX8_isMatterAndSide_15 (by decide) (fun c4 => ?_) (fun c4 => ?_)
    · have c4 := zz_ltT c4
      refine lv_iconst (v := 0) hx hb dX8_isMatterAndSide_22 (by decide) ?_
      exact zz_zret hx hb hr hlocks hK hP hS dX8_isMatterAndSide_23 (zz_01 (by omega)) (by refine ⟨rfl, ?_⟩; omega)
    · have c4 := zz_nltT c4
      refine lv_iconst (v := 1) hx hb dX8_isMatterAndSide_18 (by decide) ?_
      refine lv_goto (tgt := 23) hx hb dX8_isMatterAndSide_19 (by decide) ?_
      exact zz_zret hx hb hr hlocks hK hP hS dX8_isMatterAndSide_23 (zz_01 (by omega)) (by refine ⟨rfl, ?_⟩; omega)
theorem gX8_isMatter_X8_within : GoodIn wzX8_isMatter (va_wsS RX8 64 yX8_within wzX8_within) := wz_co bm_112 (wz_co bm_113 (wz_co bm_2 (wz_in bm_114)))
set_option maxHeartbeats 4000000 in
set_option maxRecDepth 100000 in
theorem c_X8_isMatter (l : Launch) (E : zz_E) (σ : zz_S) (v : Int32)  : Met l yX8_isMatter wzX8_isMatter ({ frames := 1, cells := 0, slots := 0, locals := 22 }) (va_Pc [.int v] (zz_B E σ)) (va_Qi (fun r σ1 => σ1 = σ ∧ ((r.toInt = 1 ∧ 0 ≤ v.toInt ∧ v.toInt ≤ 9) ∨ (r.toInt = 0 ∧ (v.toInt < 0 ∨ 9 < v.toInt)))) (zz_B E) (zz_A E)) 0 0 (zz_A E) := by
  refine zz_met (cc := cX8_isMatter) (maxL := 1) (ret := (some .boolean)) (by decide) rfl (Nat.le_of_ble_eq_true rfl) ?_
  intro p e s m args below meth c ls hx hb hr hts hown hlocks hml hK hP hS hl
  have hl : lv_has ls 1 [(0, .int v)] := hl
  have hown : s.vm.findClass RX8 = some m.cls := hown
  have k_0 : (0 : Int32).toInt = 0 := by decide +kernel
  have k_9 : (9 : Int32).toInt = 9 := by decide +kernel
  refine lv_iload_n hx hb dX8_isMatter_0 rfl (lv_at hl 0 rfl) ?_
  refine lv_iconst (v := 0) hx hb dX8_isMatter_1 (by decide) ?_
  refine lv_bipush (v := 9) hx hb dX8_isMatter_2 (by decide) ?_
  refine zz_callSp (As := [.int v, .int 0, .int 9]) (rest := []) ⟨hx, hb, hml, hown, hts⟩ hK hP hS (c_X8_within l E σ v 0 9) (va_cwS 3 hts gX8_isMatter_X8_within rfl rfl rfl (by decide +kernel) ⟨Nat.le_of_ble_eq_true rfl, Nat.le_of_ble_eq_true rfl⟩) rfl hl.1 rfl (Nat.le_of_ble_eq_true rfl) dX8_isMatter_4 ⟨Nat.zero_le _, Nat.zero_le _⟩ (fun r1 H locs f1 hP1 hS1 => ?_)
  replace hP := hP1
  replace hS := hS1
  clear hP1 hS1
  exact zz_zret hx hb hr hlocks hK hP hS dX8_isMatter_7 (zz_01 (by omega)) (by refine ⟨rfl, ?_⟩; omega)
theorem gX8_isUse_X8_within : GoodIn wzX8_isUse (va_wsS RX8 64 yX8_within wzX8_within) := wz_co bm_112 (wz_co bm_113 (wz_co bm_2 (wz_in bm_114)))
set_option maxHeartbeats 4000000 in
set_option maxRecDepth 100000 in
theorem c_X8_isUse (l : Launch) (E : zz_E) (σ : zz_S) (v : Int32)  : Met l yX8_isUse wzX8_isUse ({ frames := 1, cells := 0, slots := 0, locals := 22 }) (va_Pc [.int v] (zz_B E σ)) (va_Qi (fun r σ1 => σ1 = σ ∧ ((r.toInt = 1 ∧ 0 ≤ v.toInt ∧ v.toInt ≤ 1) ∨ (r.toInt = 0 ∧ (v.toInt < 0 ∨ 1 < v.toInt)))) (zz_B E) (zz_A E)) 0 0 (zz_A E) := by
  refine zz_met (cc := cX8_isUse) (maxL := 1) (ret := (some .boolean)) (by decide) rfl (Nat.le_of_ble_eq_true rfl) ?_
  intro p e s m args below meth c ls hx hb hr hts hown hlocks hml hK hP hS hl
  have hl : lv_has ls 1 [(0, .int v)] := hl
  have hown : s.vm.findClass RX8 = some m.cls := hown
  have k_0 : (0 : Int32).toInt = 0 := by decide +kernel
  have k_1 : (1 : Int32).toInt = 1 := by decide +kernel
  refine lv_iload_n hx hb dX8_isUse_0 rfl (lv_at hl 0 rfl) ?_
  refine lv_iconst (v := 0) hx hb dX8_isUse_1 (by decide) ?_
  refine lv_iconst (v := 1) hx hb dX8_isUse_2 (by decide) ?_
  refine zz_callSp (As := [.int v, .int 0, .int 1]) (rest := []) ⟨hx, hb, hml, hown, hts⟩ hK hP hS (c_X8_within l E σ v 0 1) (va_cwS 3 hts gX8_isUse_X8_within rfl rfl rfl (by decide +kernel) ⟨Nat.le_of_ble_eq_true rfl, Nat.le_of_ble_eq_true rfl⟩) rfl hl.1 rfl (Nat.le_of_ble_eq_true rfl) dX8_isUse_3 ⟨Nat.zero_le _, Nat.zero_le _⟩ (fun r1 H locs f1 hP1 hS1 => ?_)
  replace hP := hP1
  replace hS := hS1
  clear hP1 hS1
  exact zz_zret hx hb hr hlocks hK hP hS dX8_isUse_6 (zz_01 (by omega)) (by refine ⟨rfl, ?_⟩; omega)
theorem gX8_isSheet_X8_within : GoodIn wzX8_isSheet (va_wsS RX8 64 yX8_within wzX8_within) := wz_co bm_112 (wz_co bm_113 (wz_co bm_2 (wz_in bm_114)))
set_option maxHeartbeats 4000000 in
set_option maxRecDepth 100000 in
theorem c_X8_isSheet (l : Launch) (E : zz_E) (σ : zz_S) (v : Int32)  : Met l yX8_isSheet wzX8_isSheet ({ frames := 1, cells := 0, slots := 0, locals := 22 }) (va_Pc [.int v] (zz_B E σ)) (va_Qi (fun r σ1 => σ1 = σ ∧ ((r.toInt = 1 ∧ 0 ≤ v.toInt ∧ v.toInt ≤ 3) ∨ (r.toInt = 0 ∧ (v.toInt < 0 ∨ 3 < v.toInt)))) (zz_B E) (zz_A E)) 0 0 (zz_A E) := by
  refine zz_met (cc := cX8_isSheet) (maxL := 1) (ret := (some .boolean)) (by decide) rfl (Nat.le_of_ble_eq_true rfl) ?_
  intro p e s m args below meth c ls hx hb hr hts hown hlocks hml hK hP hS hl
  have hl : lv_has ls 1 [(0, .int v)] := hl
  have hown : s.vm.findClass RX8 = some m.cls := hown
  have k_0 : (0 : Int32).toInt = 0 := by decide +kernel
  have k_3 : (3 : Int32).toInt = 3 := by decide +kernel
  refine lv_iload_n hx hb dX8_isSheet_0 rfl (lv_at hl 0 rfl) ?_
  refine lv_iconst (v := 0) hx hb dX8_isSheet_1 (by decide) ?_
  refine lv_iconst (v := 3) hx hb dX8_isSheet_2 (by decide) ?_
  refine zz_callSp (As := [.int v, .int 0, .int 3]) (rest := []) ⟨hx, hb, hml, hown, hts⟩ hK hP hS (c_X8_within l E σ v 0 3) (va_cwS 3 hts gX8_isSheet_X8_within rfl rfl rfl (by decide +kernel) ⟨Nat.le_of_ble_eq_true rfl, Nat.le_of_ble_eq_true rfl⟩) rfl hl.1 rfl (Nat.le_of_ble_eq_true rfl) dX8_isSheet_3 ⟨Nat.zero_le _, Nat.zero_le _⟩ (fun r1 H locs f1 hP1 hS1 => ?_)
  replace hP := hP1
  replace hS := hS1
  clear hP1 hS1
  exact zz_zret hx hb hr hlocks hK hP hS dX8_isSheet_6 (zz_01 (by omega)) (by refine ⟨rfl, ?_⟩; omega)
theorem gX8_isDream_X8_within : GoodIn wzX8_isDream (va_wsS RX8 64 yX8_within wzX8_within) := wz_co bm_112 (wz_co bm_113 (wz_co bm_2 (wz_in bm_114)))
set_option maxHeartbeats 4000000 in
set_option maxRecDepth 100000 in
theorem c_X8_isDream (l : Launch) (E : zz_E) (σ : zz_S) (h0 : Nat) (v : Int32) (g0 : zz_L E h0) (hd : 0 ≤ (σ (h0 + 1) 4).toInt ∧ (σ (h0 + 1) 4).toInt ≤ 9) : Met l yX8_isDream wzX8_isDream ({ frames := 1, cells := 0, slots := 0, locals := 22 }) (va_Pc [.ref h0, .int v] (zz_B E σ)) (va_Qi (fun r σ1 => σ1 = σ ∧ ((r.toInt = 1 ∧ 0 ≤ v.toInt ∧ v.toInt ≤ (σ (h0 + 1) 4).toInt - 1) ∨ (r.toInt = 0 ∧ (v.toInt < 0 ∨ (σ (h0 + 1) 4).toInt - 1 < v.toInt)))) (zz_B E) (zz_A E)) 0 0 (zz_A E) := by
  refine zz_met (cc := cX8_isDream) (maxL := 2) (ret := (some .boolean)) (by decide) rfl (Nat.le_of_ble_eq_true rfl) ?_
  intro p e s m args below meth c ls hx hb hr hts hown hlocks hml hK hP hS hl
  have hl : lv_has ls 2 [(0, .ref h0), (1, .int v)] := hl
  have hown : s.vm.findClass RX8 = some m.cls := hown
  have hi2 : ∀ w ∈ wsX20, w ∈ wzX8_isDream := fun w h => List.mem_cons_of_mem _ (hbw2 w h)
  have hi8 : ∀ w ∈ wsX80, w ∈ wzX8_isDream := fun w h => List.mem_cons_of_mem _ (hbw8 w h)
  have k_0 : (0 : Int32).toInt = 0 := by decide +kernel
  have k_1 : (1 : Int32).toInt = 1 := by decide +kernel
  refine lv_iload_n hx hb dX8_isDream_0 rfl (lv_at hl 1 rfl) ?_
  refine lv_iconst (v := 0) hx hb dX8_isDream_1 (by decide) ?_
  refine lv_aload_n hx hb dX8_isDream_2 rfl (lv_at hl 0 rfl) ?_
  refine zz_getr hx hb hts hi8 hown hK hP (g0.1) rfl 0 (by decide) (hts (.fieldLink RX8 10 "NoonLaw" "realm" "LNoonLaw$Realm;") (List.mem_cons_of_mem _ bm_16)) rfl rfl dX8_isDream_3 ?_
  refine zz_geti hx hb hts hi2 hown hK hP (g0.2.1.1) rfl 4 (by decide) (hts (.fieldLink RX8 198 "NoonLaw$Realm" "dreamCount" "I") (List.mem_cons_of_mem _ bm_172)) rfl rfl rfl dX8_isDream_6 ?_
  refine lv_iconst (v := 1) hx hb dX8_isDream_9 (by decide) ?_
  refine lv_isub hx hb dX8_isDream_10 ?_
  refine lv_topi (fun n1 e1 => ?_)
  have f1 : n1.toInt = (σ (h0 + 1) 4).toInt - (1 : Int32).toInt := zz_subT e1 (by omega) (by omega)
  refine zz_callSp (As := [.int v, .int 0, .int n1]) (rest := []) ⟨hx, hb, hml, hown, hts⟩ hK hP hS (c_X8_within l E σ v 0 n1) (va_cwS 3 hts gX8_isDream_X8_within rfl rfl rfl (by decide +kernel) ⟨Nat.le_of_ble_eq_true rfl, Nat.le_of_ble_eq_true rfl⟩) rfl hl.1 rfl (Nat.le_of_ble_eq_true rfl) dX8_isDream_11 ⟨Nat.zero_le _, Nat.zero_le _⟩ (fun r2 H locs f2 hP1 hS1 => ?_)
  replace hP := hP1
  replace hS := hS1
  clear hP1 hS1
  exact zz_zret hx hb hr hlocks hK hP hS dX8_isDream_14 (zz_01 (by omega)) (by refine ⟨rfl, ?_⟩; omega)
theorem gX8_isPerson_X8_within : GoodIn wzX8_isPerson (va_wsS RX8 64 yX8_within wzX8_within) := wz_co bm_112 (wz_co bm_113 (wz_co bm_2 (wz_in bm_114)))
set_option maxHeartbeats 4000000 in
set_option maxRecDepth 100000 in
theorem c_X8_isPerson (l : Launch) (E : zz_E) (σ : zz_S) (h0 : Nat) (v : Int32) (g0 : zz_L E h0) (hd : 0 ≤ (σ (h0 + 1) 6).toInt ∧ (σ (h0 + 1) 6).toInt ≤ 6) : Met l yX8_isPerson wzX8_isPerson ({ frames := 1, cells := 0, slots := 0, locals := 22 }) (va_Pc [.ref h0, .int v] (zz_B E σ)) (va_Qi (fun r σ1 => σ1 = σ ∧ ((r.toInt = 1 ∧ 0 ≤ v.toInt ∧ v.toInt ≤ (σ (h0 + 1) 6).toInt - 1) ∨ (r.toInt = 0 ∧ (v.toInt < 0 ∨ (σ (h0 + 1) 6).toInt - 1 < v.toInt)))) (zz_B E) (zz_A E)) 0 0 (zz_A E) := by
  refine zz_met (cc := cX8_isPerson) (maxL := 2) (ret := (some .boolean)) (by decide) rfl (Nat.le_of_ble_eq_true rfl) ?_
  intro p e s m args below meth c ls hx hb hr hts hown hlocks hml hK hP hS hl
  have hl : lv_has ls 2 [(0, .ref h0), (1, .int v)] := hl
  have hown : s.vm.findClass RX8 = some m.cls := hown
  have hi2 : ∀ w ∈ wsX20, w ∈ wzX8_isPerson := fun w h => List.mem_cons_of_mem _ (hbw2 w h)
  have hi8 : ∀ w ∈ wsX80, w ∈ wzX8_isPerson := fun w h => List.mem_cons_of_mem _ (hbw8 w h)
  have k_0 : (0 : Int32).toInt = 0 := by decide +kernel
  have k_1 : (1 : Int32).toInt = 1 := by decide +kernel
  refine lv_iload_n hx hb dX8_isPerson_0 rfl (lv_at hl 1 rfl) ?_
  refine lv_iconst (v := 0) hx hb dX8_isPerson_1 (by decide) ?_
  refine lv_aload_n hx hb dX8_isPerson_2 rfl (lv_at hl 0 rfl) ?_
  refine zz_getr hx hb hts hi8 hown hK hP (g0.1) rfl 0 (by decide) (hts (.fieldLink RX8 10 "NoonLaw" "realm" "LNoonLaw$Realm;") (List.mem_cons_of_mem _ bm_16)) rfl rfl dX8_isPerson_3 ?_
  refine zz_geti hx hb hts hi2 hown hK hP (g0.2.1.1) rfl 6 (by decide) (hts (.fieldLink RX8 284 "NoonLaw$Realm" "peopleCount" "I") (List.mem_cons_of_mem _ bm_332)) rfl rfl rfl dX8_isPerson_6 ?_
  refine lv_iconst (v := 1) hx hb dX8_isPerson_9 (by decide) ?_
  refine lv_isub hx hb dX8_isPerson_10 ?_
  refine lv_topi (fun n1 e1 => ?_)
  have f1 : n1.toInt = (σ (h0 + 1) 6).toInt - (1 : Int32).toInt := zz_subT e1 (by omega) (by omega)
  refine zz_callSp (As := [.int v, .int 0, .int n1]) (rest := []) ⟨hx, hb, hml, hown, hts⟩ hK hP hS (c_X8_within l E σ v 0 n1) (va_cwS 3 hts gX8_isPerson_X8_within rfl rfl rfl (by decide +kernel) ⟨Nat.le_of_ble_eq_true rfl, Nat.le_of_ble_eq_true rfl⟩) rfl hl.1 rfl (Nat.le_of_ble_eq_true rfl) dX8_isPerson_11 ⟨Nat.zero_le _, Nat.zero_le _⟩ (fun r2 H locs f2 hP1 hS1 => ?_)
  replace hP := hP1
  replace hS := hS1
  clear hP1 hS1
  exact zz_zret hx hb hr hlocks hK hP hS dX8_isPerson_14 (zz_01 (by omega)) (by refine ⟨rfl, ?_⟩; omega)
theorem dS7_1 (x0 : Nat) : (x0 + 65) = x0 + 65 := by omega
set_option maxHeartbeats 4000000 in
set_option maxRecDepth 100000 in
theorem c_X8_refuse (l : Launch) (E : zz_E) (σ : zz_S) (h0 : Nat) (v : Int32) (g0 : zz_L E h0) (hv : 1 ≤ v.toInt ∧ v.toInt ≤ 6) : Met l yX8_refuse wzX8_refuse ({ frames := 0, cells := 0, slots := 0, locals := 0 }) (va_Pc [.ref h0, .int v] (zz_B E σ)) (va_Qi (fun r σ1 => zz_ch (fun a k => a = h0 + 65) σ σ1 ∧ r.toInt = -1000000000 - v.toInt) (zz_B E) (zz_A E)) 0 0 (zz_A E) := by
  refine zz_met (cc := cX8_refuse) (maxL := 2) (ret := (some .int)) (by decide) rfl (Nat.le_of_ble_eq_true rfl) ?_
  intro p e s m args below meth c ls hx hb hr hts hown hlocks hml hK hP hS hl
  have hl : lv_has ls 2 [(0, .ref h0), (1, .int v)] := hl
  have hown : s.vm.findClass RX8 = some m.cls := hown
  have hi8 : ∀ w ∈ wsX80, w ∈ wzX8_refuse := fun w h => List.mem_cons_of_mem _ (hbw8 w h)
  have k_m1000000000 : ((-1000000000) : Int32).toInt = -1000000000 := by decide +kernel
  have k_1 : (1 : Int32).toInt = 1 := by decide +kernel
  have hC : zz_ch (fun a k => a = h0 + 65) σ σ := zz_ch.rf σ
  refine lv_aload_n hx hb dX8_refuse_0 rfl (lv_at hl 0 rfl) ?_
  refine zz_getr hx hb hts hi8 hown hK hP (g0.1) rfl 7 (by decide) (hts (.fieldLink RX8 46 "NoonLaw" "refused" "[I") (List.mem_cons_of_mem _ bm_33)) rfl rfl dX8_refuse_1 ?_
  refine lv_iload_n hx hb dX8_refuse_4 rfl (lv_at hl 1 rfl) ?_
  refine lv_dup2_11 hx hb dX8_refuse_5 rfl rfl ?_
  refine zz_iald hx hb hK hP (g0.2.2.2.2.2.2.2.2.1) (by omega) (by omega) dX8_refuse_6 (fun j1 q1 r1 => ?_)
  refine lv_iconst (v := 1) hx hb dX8_refuse_7 (by decide) ?_
  refine lv_iadd hx hb dX8_refuse_8 ?_
  refine lv_topi (fun n2 e2 => ?_)
  refine zz_iast hx hb hK hP hS (g0.2.2.2.2.2.2.2.2.1) (by omega) (by omega) dX8_refuse_9 (fun j3 σ3 H locs q3 r3 w3 hP1 hS1 => ?_)
  replace hP := hP1
  replace hS := hS1
  clear hP1 hS1
  replace hC := hC.u w3 (dS7_1 h0)
  refine lv_ldcw (v := (-1000000000)) hx hb hown (hts (.constant RX8 300 (-1000000000)) (List.mem_cons_of_mem _ bm_122)) dX8_refuse_10 ?_
  refine lv_iload_n hx hb dX8_refuse_13 rfl (lv_at hl 1 rfl) ?_
  refine lv_isub hx hb dX8_refuse_14 ?_
  refine lv_topi (fun n4 e4 => ?_)
  have f4 : n4.toInt = ((-1000000000) : Int32).toInt - (v).toInt := zz_subT e4 (by omega) (by omega)
  exact zz_iret hx hb hr hlocks hK hP hS dX8_refuse_15 (by exact ⟨hC, by omega⟩)
theorem gX8_above_X8_within : GoodIn wzX8_above (va_wsS RX8 64 yX8_within wzX8_within) := wz_co bm_112 (wz_co bm_113 (wz_co bm_2 (wz_in bm_114)))
set_option maxHeartbeats 4000000 in
set_option maxRecDepth 100000 in
theorem c_X8_above (l : Launch) (E : zz_E) (σ : zz_S) (v : Int32)  : Met l yX8_above wzX8_above ({ frames := 1, cells := 0, slots := 0, locals := 22 }) (va_Pc [.int v] (zz_B E σ)) (va_Qi (fun r σ1 => σ1 = σ ∧ (r = zz_ab v ∧ -1 ≤ r.toInt ∧ r.toInt ≤ 2)) (zz_B E) (zz_A E)) 0 0 (zz_A E) := by
  refine zz_met (cc := cX8_above) (maxL := 1) (ret := (some .int)) (by decide) rfl (Nat.le_of_ble_eq_true rfl) ?_
  intro p e s m args below meth c ls hx hb hr hts hown hlocks hml hK hP hS hl
  have hl : lv_has ls 1 [(0, .int v)] := hl
  have hown : s.vm.findClass RX8 = some m.cls := hown
  have k_m1 : ((-1) : Int32).toInt = -1 := by decide +kernel
  have k_0 : (0 : Int32).toInt = 0 := by decide +kernel
  have k_6 : (6 : Int32).toInt = 6 := by decide +kernel
  refine lv_iload_n hx hb dX8_above_0 rfl (lv_at hl 0 rfl) ?_
  refine lv_iconst (v := 0) hx hb dX8_above_1 (by decide) ?_
  refine lv_bipush (v := 6) hx hb dX8_above_2 (by decide) ?_
  refine zz_callSp (As := [.int v, .int 0, .int 6]) (rest := []) ⟨hx, hb, hml, hown, hts⟩ hK hP hS (c_X8_within l E σ v 0 6) (va_cwS 3 hts gX8_above_X8_within rfl rfl rfl (by decide +kernel) ⟨Nat.le_of_ble_eq_true rfl, Nat.le_of_ble_eq_true rfl⟩) rfl hl.1 rfl (Nat.le_of_ble_eq_true rfl) dX8_above_4 ⟨Nat.zero_le _, Nat.zero_le _⟩ (fun r1 H locs f1 hP1 hS1 => ?_)
  replace hP := hP1
  replace hS := hS1
  clear hP1 hS1
  refine lv_if_eq (tgt := 18) hx hb dX8_above_7 (by decide) (fun c2 => ?_) (fun c2 => ?_)
  · have c2 := zz_eqT c2
    refine lv_iconst (v := (-1)) hx hb dX8_above_18 (by decide) ?_
    exact zz_iret hx hb hr hlocks hK hP hS dX8_above_19 (by refine ⟨rfl, ?_⟩; exact ⟨(if_neg (by omega)).symm, by omega, by omega⟩)
  · have c2 := zz_neT c2
    refine va_gets hx hb hK.2.1.1.1 hS hown (hts (.fieldLink RX8 301 "NoonLaw" "ABOVE" "[I") (List.mem_cons_of_mem _ bm_292)) (fun _ h9 => h9) dX8_above_10 ?_
    refine lv_iload_n hx hb dX8_above_13 rfl (lv_at hl 0 rfl) ?_
    refine va_ti (v := .int (zz_vA (v : Int32).toNatClampNeg)) hx hb hK.2.1.1.2 hS (vp_in_iff.mpr ⟨by omega, by omega⟩) rfl dX8_above_14 ?_
    refine lv_topi (fun n3 e3 => ?_)
    refine lv_goto (tgt := 19) hx hb dX8_above_15 (by decide) ?_
    exact zz_iret hx hb hr hlocks hK hP hS dX8_above_19 (by refine ⟨rfl, ?_⟩; rw [e3]; exact ⟨(if_pos (by omega)).symm, zz_vAr _⟩)
set_option maxHeartbeats 4000000 in
set_option maxRecDepth 100000 in
theorem c_X0_daysOn (l : Launch) (E : zz_E) (σ : zz_S) (h0 : Nat) (h : Int32) (g0 : zz_Dr E h0) (hdb : 0 ≤ (σ h0 4).toInt ∧ (σ h0 4).toInt ≤ 99) (hhr : 0 ≤ h.toInt ∧ h.toInt ≤ 20000) : Met l yX0_daysOn wzX0_daysOn ({ frames := 0, cells := 0, slots := 0, locals := 0 }) (va_Pc [.ref h0, .int h] (zz_B E σ)) (va_Qi (fun r σ1 => σ1 = σ ∧ (r.toInt = h.toInt / 24 - (σ h0 4).toInt)) (zz_B E) (zz_A E)) 0 0 (zz_A E) := by
  refine zz_met (cc := cX0_daysOn) (maxL := 2) (ret := (some .int)) (by decide) rfl (Nat.le_of_ble_eq_true rfl) ?_
  intro p e s m args below meth c ls hx hb hr hts hown hlocks hml hK hP hS hl
  have hl : lv_has ls 2 [(0, .ref h0), (1, .int h)] := hl
  have hown : s.vm.findClass RX0 = some m.cls := hown
  have hi0 : ∀ w ∈ wsX00, w ∈ wzX0_daysOn := fun w h => List.mem_cons_of_mem _ (hbw0 w h)
  have k_24 : (24 : Int32).toInt = 24 := by decide +kernel
  refine lv_iload_n hx hb dX0_daysOn_0 rfl (lv_at hl 1 rfl) ?_
  refine lv_bipush (v := 24) hx hb dX0_daysOn_1 (by decide) ?_
  refine lv_idiv hx hb dX0_daysOn_3 (by decide) ?_
  refine lv_topi (fun n1 e1 => ?_)
  have f1 : n1.toInt = (h).toInt / 24 := zz_divT 24 e1 (by decide) (by omega)
  refine lv_aload_n hx hb dX0_daysOn_4 rfl (lv_at hl 0 rfl) ?_
  refine zz_geti hx hb hts hi0 hown hK hP (g0) rfl 4 (by decide) (hts (.fieldLink RX0 24 "NoonLaw$Dream" "day" "I") (List.mem_cons_of_mem _ bm_184)) rfl rfl rfl dX0_daysOn_5 ?_
  refine lv_isub hx hb dX0_daysOn_8 ?_
  refine lv_topi (fun n2 e2 => ?_)
  have f2 : n2.toInt = (n1).toInt - (σ h0 4).toInt := zz_subT e2 (by omega) (by omega)
  exact zz_iret hx hb hr hlocks hK hP hS dX0_daysOn_9 (by exact ⟨rfl, by omega⟩)
set_option maxHeartbeats 4000000 in
set_option maxRecDepth 100000 in
theorem c_X0_isAwake (l : Launch) (E : zz_E) (σ : zz_S) (h0 : Nat) (y : Int32) (sl : Int32) (g0 : zz_Dr E h0) : Met l yX0_isAwake wzX0_isAwake ({ frames := 0, cells := 0, slots := 0, locals := 0 }) (va_Pc [.ref h0, .int y, .int sl] (zz_B E σ)) (va_Qi (fun r σ1 => σ1 = σ ∧ ((r.toInt = 1 ∧ 12 ≤ y.toInt ∧ y.toInt < sl.toInt) ∨ (r.toInt = 0 ∧ ¬ (12 ≤ y.toInt ∧ y.toInt < sl.toInt)))) (zz_B E) (zz_A E)) 0 0 (zz_A E) := by
  refine zz_met (cc := cX0_isAwake) (maxL := 3) (ret := (some .boolean)) (by decide) rfl (Nat.le_of_ble_eq_true rfl) ?_
  intro p e s m args below meth c ls hx hb hr hts hown hlocks hml hK hP hS hl
  have hl : lv_has ls 3 [(0, .ref h0), (1, .int y), (2, .int sl)] := hl
  have hown : s.vm.findClass RX0 = some m.cls := hown
  have k_0 : (0 : Int32).toInt = 0 := by decide +kernel
  have k_1 : (1 : Int32).toInt = 1 := by decide +kernel
  have k_12 : (12 : Int32).toInt = 12 := by decide +kernel
  refine lv_iload_n hx hb dX0_isAwake_0 rfl (lv_at hl 1 rfl) ?_
  refine lv_bipush (v := 12) hx hb dX0_isAwake_1 (by decide) ?_
  refine lv_icmp_lt (tgt := 15) hx hb dX0_isAwake_3 (by decide) (fun c1 => ?_) (fun c1 => ?_)
  · have c1 := zz_ltT c1
    refine lv_iconst (v := 0) hx hb dX0_isAwake_15 (by decide) ?_
    exact zz_zret hx hb hr hlocks hK hP hS dX0_isAwake_16 (zz_01 (by omega)) (by refine ⟨rfl, ?_⟩; omega)
  · have c1 := zz_nltT c1
    refine lv_iload_n hx hb dX0_isAwake_6 rfl (lv_at hl 1 rfl) ?_
    refine lv_iload_n hx hb dX0_isAwake_7 rfl (lv_at hl 2 rfl) ?_
    refine lv_icmp_ge (tgt := 15) hx hb dX0_isAwake_8 (by decide) (fun c2 => ?_) (fun c2 => ?_)
    · have c2 := zz_leT c2
      refine lv_iconst (v := 0) hx hb dX0_isAwake_15 (by decide) ?_
      exact zz_zret hx hb hr hlocks hK hP hS dX0_isAwake_16 (zz_01 (by omega)) (by refine ⟨rfl, ?_⟩; omega)
    · have c2 := zz_nleT c2
      refine lv_iconst (v := 1) hx hb dX0_isAwake_11 (by decide) ?_
      refine lv_goto (tgt := 16) hx hb dX0_isAwake_12 (by decide) ?_
      exact zz_zret hx hb hr hlocks hK hP hS dX0_isAwake_16 (zz_01 (by omega)) (by refine ⟨rfl, ?_⟩; omega)
set_option maxHeartbeats 4000000 in
set_option maxRecDepth 100000 in
theorem c_X0_comesAgain (l : Launch) (E : zz_E) (σ : zz_S) (h0 : Nat) (x : Int32) (ev : Int32) (g0 : zz_Dr E h0) (hx0 : 0 ≤ x.toInt) : Met l yX0_comesAgain wzX0_comesAgain ({ frames := 0, cells := 0, slots := 0, locals := 0 }) (va_Pc [.ref h0, .int x, .int ev] (zz_B E σ)) (va_Qi (fun r σ1 => σ1 = σ ∧ ((r.toInt = 1 ∧ 0 < ev.toInt ∧ x.toInt % ev.toInt = 0) ∨ (r.toInt = 0 ∧ ¬ (0 < ev.toInt ∧ x.toInt % ev.toInt = 0)))) (zz_B E) (zz_A E)) 0 0 (zz_A E) := by
  refine zz_met (cc := cX0_comesAgain) (maxL := 3) (ret := (some .boolean)) (by decide) rfl (Nat.le_of_ble_eq_true rfl) ?_
  intro p e s m args below meth c ls hx hb hr hts hown hlocks hml hK hP hS hl
  have hl : lv_has ls 3 [(0, .ref h0), (1, .int x), (2, .int ev)] := hl
  have hown : s.vm.findClass RX0 = some m.cls := hown
  have k_0 : (0 : Int32).toInt = 0 := by decide +kernel
  have k_1 : (1 : Int32).toInt = 1 := by decide +kernel
  refine lv_iload_n hx hb dX0_comesAgain_0 rfl (lv_at hl 2 rfl) ?_
  refine lv_if_le (tgt := 14) hx hb dX0_comesAgain_1 (by decide) (fun c1 => ?_) (fun c1 => ?_)
  · have c1 := zz_leT c1
    refine lv_iconst (v := 0) hx hb dX0_comesAgain_14 (by decide) ?_
    exact zz_zret hx hb hr hlocks hK hP hS dX0_comesAgain_15 (zz_01 (by omega)) (by refine ⟨rfl, ?_⟩; omega)
  · have c1 := zz_nleT c1
    refine lv_iload_n hx hb dX0_comesAgain_4 rfl (lv_at hl 1 rfl) ?_
    refine lv_iload_n hx hb dX0_comesAgain_5 rfl (lv_at hl 2 rfl) ?_
    refine lv_irem hx hb dX0_comesAgain_6 (zz_ne0 (by omega)) ?_
    refine lv_topi (fun n2 e2 => ?_)
    have g9 := zz_remT ev.toInt e2 ⟨rfl, by omega⟩ hx0
    refine lv_if_ne (tgt := 14) hx hb dX0_comesAgain_7 (by decide) (fun c3 => ?_) (fun c3 => ?_)
    · have c3 := zz_neT c3
      refine lv_iconst (v := 0) hx hb dX0_comesAgain_14 (by decide) ?_
      exact zz_zret hx hb hr hlocks hK hP hS dX0_comesAgain_15 (zz_01 (by omega)) (by refine ⟨rfl, ?_⟩; omega)
    · have c3 := zz_eqT c3
      refine lv_iconst (v := 1) hx hb dX0_comesAgain_10 (by decide) ?_
      refine lv_goto (tgt := 15) hx hb dX0_comesAgain_11 (by decide) ?_
      exact zz_zret hx hb hr hlocks hK hP hS dX0_comesAgain_15 (zz_01 (by omega)) (by refine ⟨rfl, ?_⟩; omega)
theorem gX0_isNightmare_X0_isAwake : GoodIn wzX0_isNightmare (wsV RX0 48 RX0 yX0_isAwake wzX0_isAwake) := wz_co bm_189 (wz_co bm_190 (wz_co bm_191 (wz_co bm_54 (wz_in bm_192))))
set_option maxHeartbeats 4000000 in
set_option maxRecDepth 100000 in
theorem c_X0_isNightmare (l : Launch) (E : zz_E) (σ : zz_S) (h0 : Nat) (x : Int32) (y : Int32) (sl : Int32) (g0 : zz_Dr E h0) (hmb : 0 ≤ (σ h0 1).toInt ∧ (σ h0 1).toInt ≤ 9) (hsl9 : 0 ≤ sl.toInt ∧ sl.toInt ≤ 24) : Met l yX0_isNightmare wzX0_isNightmare ({ frames := 1, cells := 0, slots := 0, locals := 22 }) (va_Pc [.ref h0, .int x, .int y, .int sl] (zz_B E σ)) (va_Qi (fun r σ1 => σ1 = σ ∧ ((r.toInt = 1 ∧ x.toInt = 0 ∧ 12 ≤ y.toInt ∧ y.toInt < sl.toInt ∧ y.toInt < sl.toInt - (σ h0 1).toInt) ∨ (r.toInt = 0 ∧ ¬ (x.toInt = 0 ∧ 12 ≤ y.toInt ∧ y.toInt < sl.toInt ∧ y.toInt < sl.toInt - (σ h0 1).toInt)))) (zz_B E) (zz_A E)) 0 0 (zz_A E) := by
  refine zz_met (cc := cX0_isNightmare) (maxL := 4) (ret := (some .boolean)) (by decide) rfl (Nat.le_of_ble_eq_true rfl) ?_
  intro p e s m args below meth c ls hx hb hr hts hown hlocks hml hK hP hS hl
  have hl : lv_has ls 4 [(0, .ref h0), (1, .int x), (2, .int y), (3, .int sl)] := hl
  have hown : s.vm.findClass RX0 = some m.cls := hown
  have hi0 : ∀ w ∈ wsX00, w ∈ wzX0_isNightmare := fun w h => List.mem_cons_of_mem _ (hbw0 w h)
  have k_0 : (0 : Int32).toInt = 0 := by decide +kernel
  have k_1 : (1 : Int32).toInt = 1 := by decide +kernel
  refine lv_iload_n hx hb dX0_isNightmare_0 rfl (lv_at hl 1 rfl) ?_
  refine lv_if_ne (tgt := 27) hx hb dX0_isNightmare_1 (by decide) (fun c1 => ?_) (fun c1 => ?_)
  · have c1 := zz_neT c1
    refine lv_iconst (v := 0) hx hb dX0_isNightmare_27 (by decide) ?_
    exact zz_zret hx hb hr hlocks hK hP hS dX0_isNightmare_28 (zz_01 (by omega)) (by refine ⟨rfl, ?_⟩; omega)
  · have c1 := zz_eqT c1
    refine lv_aload_n hx hb dX0_isNightmare_4 rfl (lv_at hl 0 rfl) ?_
    refine lv_iload_n hx hb dX0_isNightmare_5 rfl (lv_at hl 2 rfl) ?_
    refine lv_iload_n hx hb dX0_isNightmare_6 rfl (lv_at hl 3 rfl) ?_
    refine zz_callVp (As := [.int y, .int sl]) (rest := []) ⟨hx, hb, hml, hown, hts⟩ hK hP hS (c_X0_isAwake l E σ h0 y sl g0) (cwV 2 hts gX0_isNightmare_X0_isAwake rfl rfl rfl (by decide +kernel) ⟨Nat.le_of_ble_eq_true rfl, Nat.le_of_ble_eq_true rfl⟩) (g0) rfl rfl hl.1 rfl (Nat.le_of_ble_eq_true rfl) dX0_isNightmare_7 ⟨Nat.zero_le _, Nat.zero_le _⟩ (fun r2 H locs f2 hP1 hS1 => ?_)
    replace hP := hP1
    replace hS := hS1
    clear hP1 hS1
    refine lv_if_eq (tgt := 27) hx hb dX0_isNightmare_10 (by decide) (fun c3 => ?_) (fun c3 => ?_)
    · have c3 := zz_eqT c3
      refine lv_iconst (v := 0) hx hb dX0_isNightmare_27 (by decide) ?_
      exact zz_zret hx hb hr hlocks hK hP hS dX0_isNightmare_28 (zz_01 (by omega)) (by refine ⟨rfl, ?_⟩; omega)
    · have c3 := zz_neT c3
      refine lv_iload_n hx hb dX0_isNightmare_13 rfl (lv_at hl 2 rfl) ?_
      refine lv_iload_n hx hb dX0_isNightmare_14 rfl (lv_at hl 3 rfl) ?_
      refine lv_aload_n hx hb dX0_isNightmare_15 rfl (lv_at hl 0 rfl) ?_
      refine zz_geti hx hb hts hi0 hown hK hP (g0) rfl 1 (by decide) (hts (.fieldLink RX0 15 "NoonLaw$Dream" "m" "I") (List.mem_cons_of_mem _ bm_179)) rfl rfl rfl dX0_isNightmare_16 ?_
      refine lv_isub hx hb dX0_isNightmare_19 ?_
      refine lv_topi (fun n4 e4 => ?_)
      have f4 : n4.toInt = (sl).toInt - (σ h0 1).toInt := zz_subT e4 (by omega) (by omega)
      refine lv_icmp_ge (tgt := 27) hx hb dX0_isNightmare_20 (by decide) (fun c5 => ?_) (fun c5 => ?_)
      · have c5 := zz_leT c5
        refine lv_iconst (v := 0) hx hb dX0_isNightmare_27 (by decide) ?_
        exact zz_zret hx hb hr hlocks hK hP hS dX0_isNightmare_28 (zz_01 (by omega)) (by refine ⟨rfl, ?_⟩; omega)
      · have c5 := zz_nleT c5
        refine lv_iconst (v := 1) hx hb dX0_isNightmare_23 (by decide) ?_
        refine lv_goto (tgt := 28) hx hb dX0_isNightmare_24 (by decide) ?_
        exact zz_zret hx hb hr hlocks hK hP hS dX0_isNightmare_28 (zz_01 (by omega)) (by refine ⟨rfl, ?_⟩; omega)
set_option maxHeartbeats 4000000 in
set_option maxRecDepth 100000 in
theorem c_X0_isNap (l : Launch) (E : zz_E) (σ : zz_S) (h0 : Nat) (x : Int32) (y : Int32) (g0 : zz_Dr E h0) (hmb : 0 ≤ (σ h0 1).toInt ∧ (σ h0 1).toInt ≤ 9) : Met l yX0_isNap wzX0_isNap ({ frames := 0, cells := 0, slots := 0, locals := 0 }) (va_Pc [.ref h0, .int x, .int y] (zz_B E σ)) (va_Qi (fun r σ1 => σ1 = σ ∧ ((r.toInt = 1 ∧ x.toInt = 0 ∧ 14 ≤ y.toInt ∧ y.toInt < 14 + (σ h0 1).toInt) ∨ (r.toInt = 0 ∧ ¬ (x.toInt = 0 ∧ 14 ≤ y.toInt ∧ y.toInt < 14 + (σ h0 1).toInt)))) (zz_B E) (zz_A E)) 0 0 (zz_A E) := by
  refine zz_met (cc := cX0_isNap) (maxL := 3) (ret := (some .boolean)) (by decide) rfl (Nat.le_of_ble_eq_true rfl) ?_
  intro p e s m args below meth c ls hx hb hr hts hown hlocks hml hK hP hS hl
  have hl : lv_has ls 3 [(0, .ref h0), (1, .int x), (2, .int y)] := hl
  have hown : s.vm.findClass RX0 = some m.cls := hown
  have hi0 : ∀ w ∈ wsX00, w ∈ wzX0_isNap := fun w h => List.mem_cons_of_mem _ (hbw0 w h)
  have k_0 : (0 : Int32).toInt = 0 := by decide +kernel
  have k_1 : (1 : Int32).toInt = 1 := by decide +kernel
  have k_14 : (14 : Int32).toInt = 14 := by decide +kernel
  refine lv_iload_n hx hb dX0_isNap_0 rfl (lv_at hl 1 rfl) ?_
  refine lv_if_ne (tgt := 25) hx hb dX0_isNap_1 (by decide) (fun c1 => ?_) (fun c1 => ?_)
  · have c1 := zz_neT c1
    refine lv_iconst (v := 0) hx hb dX0_isNap_25 (by decide) ?_
    exact zz_zret hx hb hr hlocks hK hP hS dX0_isNap_26 (zz_01 (by omega)) (by refine ⟨rfl, ?_⟩; omega)
  · have c1 := zz_eqT c1
    refine lv_iload_n hx hb dX0_isNap_4 rfl (lv_at hl 2 rfl) ?_
    refine lv_bipush (v := 14) hx hb dX0_isNap_5 (by decide) ?_
    refine lv_icmp_lt (tgt := 25) hx hb dX0_isNap_7 (by decide) (fun c2 => ?_) (fun c2 => ?_)
    · have c2 := zz_ltT c2
      refine lv_iconst (v := 0) hx hb dX0_isNap_25 (by decide) ?_
      exact zz_zret hx hb hr hlocks hK hP hS dX0_isNap_26 (zz_01 (by omega)) (by refine ⟨rfl, ?_⟩; omega)
    · have c2 := zz_nltT c2
      refine lv_iload_n hx hb dX0_isNap_10 rfl (lv_at hl 2 rfl) ?_
      refine lv_bipush (v := 14) hx hb dX0_isNap_11 (by decide) ?_
      refine lv_aload_n hx hb dX0_isNap_13 rfl (lv_at hl 0 rfl) ?_
      refine zz_geti hx hb hts hi0 hown hK hP (g0) rfl 1 (by decide) (hts (.fieldLink RX0 15 "NoonLaw$Dream" "m" "I") (List.mem_cons_of_mem _ bm_179)) rfl rfl rfl dX0_isNap_14 ?_
      refine lv_iadd hx hb dX0_isNap_17 ?_
      refine lv_topi (fun n3 e3 => ?_)
      have f3 : n3.toInt = (14 : Int32).toInt + (σ h0 1).toInt := zz_addT e3 (by omega) (by omega)
      refine lv_icmp_ge (tgt := 25) hx hb dX0_isNap_18 (by decide) (fun c4 => ?_) (fun c4 => ?_)
      · have c4 := zz_leT c4
        refine lv_iconst (v := 0) hx hb dX0_isNap_25 (by decide) ?_
        exact zz_zret hx hb hr hlocks hK hP hS dX0_isNap_26 (zz_01 (by omega)) (by refine ⟨rfl, ?_⟩; omega)
      · have c4 := zz_nleT c4
        refine lv_iconst (v := 1) hx hb dX0_isNap_21 (by decide) ?_
        refine lv_goto (tgt := 26) hx hb dX0_isNap_22 (by decide) ?_
        exact zz_zret hx hb hr hlocks hK hP hS dX0_isNap_26 (zz_01 (by omega)) (by refine ⟨rfl, ?_⟩; omega)
theorem gX0_isInForce_X0_daysOn : GoodIn wzX0_isInForce (wsV RX0 34 RX0 yX0_daysOn wzX0_daysOn) := wz_co bm_180 (wz_co bm_181 (wz_co bm_182 (wz_co bm_54 (wz_in bm_183))))
theorem gX0_isInForce_X0_isNightmare : GoodIn wzX0_isInForce (wsV RX0 37 RX0 yX0_isNightmare wzX0_isNightmare) := wz_co bm_185 (wz_co bm_186 (wz_co bm_187 (wz_co bm_54 (wz_in bm_188))))
theorem gX0_isInForce_X0_isNap : GoodIn wzX0_isInForce (wsV RX0 41 RX0 yX0_isNap wzX0_isNap) := wz_co bm_193 (wz_co bm_194 (wz_co bm_195 (wz_co bm_54 (wz_in bm_196))))
theorem gX0_isInForce_X0_comesAgain : GoodIn wzX0_isInForce (wsV RX0 45 RX0 yX0_comesAgain wzX0_comesAgain) := wz_co bm_197 (wz_co bm_198 (wz_co bm_199 (wz_co bm_54 (wz_in bm_200))))
theorem gX0_isInForce_X0_isAwake : GoodIn wzX0_isInForce (wsV RX0 48 RX0 yX0_isAwake wzX0_isAwake) := wz_co bm_189 (wz_co bm_190 (wz_co bm_191 (wz_co bm_54 (wz_in bm_192))))
set_option maxHeartbeats 4000000 in
set_option maxRecDepth 100000 in
theorem c_X0_isInForce (l : Launch) (E : zz_E) (σ : zz_S) (h0 : Nat) (h : Int32) (sl : Int32) (g0 : zz_Dr E h0) (hkb : 0 ≤ (σ h0 0).toInt ∧ (σ h0 0).toInt ≤ 6) (hmb : 0 ≤ (σ h0 1).toInt ∧ (σ h0 1).toInt ≤ 9) (hdb : 0 ≤ (σ h0 4).toInt ∧ (σ h0 4).toInt ≤ 99) (hhr : 0 ≤ h.toInt ∧ h.toInt ≤ 20000) (hsl9 : 0 ≤ sl.toInt ∧ sl.toInt ≤ 24) : Met l yX0_isInForce wzX0_isInForce ({ frames := 2, cells := 0, slots := 0, locals := 45 }) (va_Pc [.ref h0, .int h, .int sl] (zz_B E σ)) (va_Qi (fun r σ1 => σ1 = σ ∧ (zy_bt r.toInt (zy_Fc (σ h0 0).toInt (σ h0 1).toInt (σ h0 4).toInt (σ h0 5).toInt sl.toInt h.toInt))) (zz_B E) (zz_A E)) 0 0 (zz_A E) := by
  refine zz_met (cc := cX0_isInForce) (maxL := 5) (ret := (some .boolean)) (by decide) rfl (Nat.le_of_ble_eq_true rfl) ?_
  intro p e s m args below meth c ls hx hb hr hts hown hlocks hml hK hP hS hl
  have hl : lv_has ls 5 [(0, .ref h0), (1, .int h), (2, .int sl)] := hl
  have hown : s.vm.findClass RX0 = some m.cls := hown
  have hi0 : ∀ w ∈ wsX00, w ∈ wzX0_isInForce := fun w h => List.mem_cons_of_mem _ (hbw0 w h)
  have k_0 : (0 : Int32).toInt = 0 := by decide +kernel
  have k_1 : (1 : Int32).toInt = 1 := by decide +kernel
  have k_9 : (9 : Int32).toInt = 9 := by decide +kernel
  have k_12 : (12 : Int32).toInt = 12 := by decide +kernel
  have k_24 : (24 : Int32).toInt = 24 := by decide +kernel
  refine lv_aload_n hx hb dX0_isInForce_0 rfl (lv_at hl 0 rfl) ?_
  refine lv_iload_n hx hb dX0_isInForce_1 rfl (lv_at hl 1 rfl) ?_
  refine zz_callVp (As := [.int h]) (rest := []) ⟨hx, hb, hml, hown, hts⟩ hK hP hS (c_X0_daysOn l E σ h0 h g0 (by omega) (by omega)) (cwV 1 hts gX0_isInForce_X0_daysOn rfl rfl rfl (by decide +kernel) ⟨Nat.le_of_ble_eq_true rfl, Nat.le_of_ble_eq_true rfl⟩) (g0) rfl rfl hl.1 rfl (Nat.le_of_ble_eq_true rfl) dX0_isInForce_2 ⟨Nat.zero_le _, Nat.zero_le _⟩ (fun r1 H locs f1 hP1 hS1 => ?_)
  replace hP := hP1
  replace hS := hS1
  clear hP1 hS1
  refine lv_istore_n (lv' := [(3, .int r1), (0, .ref h0), (1, .int h), (2, .int sl)]) hx hb dX0_isInForce_5 rfl hl (by decide) rfl (fun ls hl => ?_)
  refine lv_iload_n hx hb dX0_isInForce_6 rfl (lv_at hl 2 rfl) ?_
  refine lv_bipush (v := 24) hx hb dX0_isInForce_7 (by decide) ?_
  refine lv_irem hx hb dX0_isInForce_9 (by decide) ?_
  refine lv_topi (fun n2 e2 => ?_)
  have f2 : n2.toInt = (h).toInt % 24 := zz_remT 24 e2 (by decide) (by omega)
  refine lv_istore (lv' := [(4, .int n2), (3, .int r1), (0, .ref h0), (1, .int h), (2, .int sl)]) hx hb dX0_isInForce_10 hl (by decide) rfl (fun ls hl => ?_)
  refine lv_aload_n hx hb dX0_isInForce_12 rfl (lv_at hl 2 rfl) ?_
  refine zz_geti hx hb hts hi0 hown hK hP (g0) rfl 5 (by decide) (hts (.fieldLink RX0 27 "NoonLaw$Dream" "forgotten" "I") (List.mem_cons_of_mem _ bm_177)) rfl rfl rfl dX0_isInForce_13 ?_
  refine lv_if_eq (tgt := 21) hx hb dX0_isInForce_16 (by decide) (fun c3 => ?_) (fun c3 => ?_)
  · have c3 := zz_eqT c3
    refine lv_aload_n hx hb dX0_isInForce_21 rfl (lv_at hl 2 rfl) ?_
    refine zz_geti hx hb hts hi0 hown hK hP (g0) rfl 0 (by decide) (hts (.fieldLink RX0 9 "NoonLaw$Dream" "kind" "I") (List.mem_cons_of_mem _ bm_178)) rfl rfl rfl dX0_isInForce_22 ?_
    by_cases c4 : (σ h0 0).toInt = 1
    · refine lv_tableIn (off := 39) (tgt := 64) hx hb dX0_isInForce_25 (by omega) (by omega) (by rw [show ((σ h0 0).toInt - (1)).toNat = 0 from by omega]; rfl) (by decide) ?_
      refine lv_aload_n hx hb dX0_isInForce_64 rfl (lv_at hl 2 rfl) ?_
      refine lv_iload_n hx hb dX0_isInForce_65 rfl (lv_at hl 1 rfl) ?_
      refine lv_iload hx hb dX0_isInForce_66 (lv_at hl 0 rfl) ?_
      refine lv_iload_n hx hb dX0_isInForce_68 rfl (lv_at hl 4 rfl) ?_
      refine zz_callVp (As := [.int r1, .int n2, .int sl]) (rest := []) ⟨hx, hb, hml, hown, hts⟩ hK hP hS (c_X0_isNightmare l E σ h0 r1 n2 sl g0 (by omega) (by omega)) (cwV 3 hts gX0_isInForce_X0_isNightmare rfl rfl rfl (by decide +kernel) ⟨Nat.le_of_ble_eq_true rfl, Nat.le_of_ble_eq_true rfl⟩) (g0) rfl rfl hl.1 rfl (Nat.le_of_ble_eq_true rfl) dX0_isInForce_69 ⟨Nat.zero_le _, Nat.zero_le _⟩ (fun r5 H locs f5 hP1 hS1 => ?_)
      replace hP := hP1
      replace hS := hS1
      clear hP1 hS1
      exact zz_zret hx hb hr hlocks hK hP hS dX0_isInForce_72 (zz_01 (by omega)) (by exact ⟨rfl, zy_Fc.mk (x := r1.toInt) (y := n2.toInt) (by omega) (by omega) (by omega) (zy_Fo_1 (by omega) (by unfold zy_bt; omega))⟩)
    by_cases c6 : (σ h0 0).toInt = 2
    · refine lv_tableIn (off := 48) (tgt := 73) hx hb dX0_isInForce_25 (by omega) (by omega) (by rw [show ((σ h0 0).toInt - (1)).toNat = 1 from by omega]; rfl) (by decide) ?_
      refine lv_aload_n hx hb dX0_isInForce_73 rfl (lv_at hl 2 rfl) ?_
      refine lv_iload_n hx hb dX0_isInForce_74 rfl (lv_at hl 1 rfl) ?_
      refine lv_iload hx hb dX0_isInForce_75 (lv_at hl 0 rfl) ?_
      refine zz_callVp (As := [.int r1, .int n2]) (rest := []) ⟨hx, hb, hml, hown, hts⟩ hK hP hS (c_X0_isNap l E σ h0 r1 n2 g0 (by omega)) (cwV 2 hts gX0_isInForce_X0_isNap rfl rfl rfl (by decide +kernel) ⟨Nat.le_of_ble_eq_true rfl, Nat.le_of_ble_eq_true rfl⟩) (g0) rfl rfl hl.1 rfl (Nat.le_of_ble_eq_true rfl) dX0_isInForce_77 ⟨Nat.zero_le _, Nat.zero_le _⟩ (fun r7 H locs f7 hP1 hS1 => ?_)
      replace hP := hP1
      replace hS := hS1
      clear hP1 hS1
      exact zz_zret hx hb hr hlocks hK hP hS dX0_isInForce_80 (zz_01 (by omega)) (by exact ⟨rfl, zy_Fc.mk (x := r1.toInt) (y := n2.toInt) (by omega) (by omega) (by omega) (zy_Fo_2 (by omega) (by unfold zy_bt; omega))⟩)
    by_cases c8 : (σ h0 0).toInt = 3
    · refine lv_tableIn (off := 56) (tgt := 81) hx hb dX0_isInForce_25 (by omega) (by omega) (by rw [show ((σ h0 0).toInt - (1)).toNat = 2 from by omega]; rfl) (by decide) ?_
      refine lv_iload_n hx hb dX0_isInForce_81 rfl (lv_at hl 1 rfl) ?_
      refine lv_if_lt (tgt := 113) hx hb dX0_isInForce_82 (by decide) (fun c9 => ?_) (fun c9 => ?_)
      · have c9 := zz_ltT c9
        refine lv_iconst (v := 0) hx hb dX0_isInForce_113 (by decide) ?_
        exact zz_zret hx hb hr hlocks hK hP hS dX0_isInForce_114 (zz_01 (by omega)) (by exact ⟨rfl, zy_Fc.mk (x := r1.toInt) (y := n2.toInt) (by omega) (by omega) (by omega) (zy_Fo_3 (by omega) (by unfold zy_bt; omega))⟩)
      · have c9 := zz_nltT c9
        refine lv_aload_n hx hb dX0_isInForce_85 rfl (lv_at hl 2 rfl) ?_
        refine lv_iload_n hx hb dX0_isInForce_86 rfl (lv_at hl 1 rfl) ?_
        refine lv_aload_n hx hb dX0_isInForce_87 rfl (lv_at hl 2 rfl) ?_
        refine zz_geti hx hb hts hi0 hown hK hP (g0) rfl 1 (by decide) (hts (.fieldLink RX0 15 "NoonLaw$Dream" "m" "I") (List.mem_cons_of_mem _ bm_179)) rfl rfl rfl dX0_isInForce_88 ?_
        refine lv_iconst (v := 1) hx hb dX0_isInForce_91 (by decide) ?_
        refine lv_iadd hx hb dX0_isInForce_92 ?_
        refine lv_topi (fun n10 e10 => ?_)
        have f10 : n10.toInt = (σ h0 1).toInt + (1 : Int32).toInt := zz_addT e10 (by omega) (by omega)
        skip
        refine zz_callVp (As := [.int r1, .int n10]) (rest := []) ⟨hx, hb, hml, hown, hts⟩ hK hP hS (c_X0_comesAgain l E σ h0 r1 n10 g0 (by omega)) (cwV 2 hts gX0_isInForce_X0_comesAgain rfl rfl rfl (by decide +kernel) ⟨Nat.le_of_ble_eq_true rfl, Nat.le_of_ble_eq_true rfl⟩) (g0) rfl rfl hl.1 rfl (Nat.le_of_ble_eq_true rfl) dX0_isInForce_93 ⟨Nat.zero_le _, Nat.zero_le _⟩ (fun r11 H locs f11 hP1 hS1 => ?_)
        replace hP := hP1
        replace hS := hS1
        clear hP1 hS1
        have g8 : n10.toInt = (σ h0 1).toInt + 1 := by omega
        rw [g8] at f11
        refine lv_if_eq (tgt := 113) hx hb dX0_isInForce_96 (by decide) (fun c12 => ?_) (fun c12 => ?_)
        · have c12 := zz_eqT c12
          refine lv_iconst (v := 0) hx hb dX0_isInForce_113 (by decide) ?_
          exact zz_zret hx hb hr hlocks hK hP hS dX0_isInForce_114 (zz_01 (by omega)) (by exact ⟨rfl, zy_Fc.mk (x := r1.toInt) (y := n2.toInt) (by omega) (by omega) (by omega) (zy_Fo_3 (by omega) (by unfold zy_bt; omega))⟩)
        · have c12 := zz_neT c12
          refine lv_aload_n hx hb dX0_isInForce_99 rfl (lv_at hl 2 rfl) ?_
          refine lv_iload hx hb dX0_isInForce_100 (lv_at hl 0 rfl) ?_
          refine lv_iload_n hx hb dX0_isInForce_102 rfl (lv_at hl 4 rfl) ?_
          refine zz_callVp (As := [.int n2, .int sl]) (rest := []) ⟨hx, hb, hml, hown, hts⟩ hK hP hS (c_X0_isAwake l E σ h0 n2 sl g0) (cwV 2 hts gX0_isInForce_X0_isAwake rfl rfl rfl (by decide +kernel) ⟨Nat.le_of_ble_eq_true rfl, Nat.le_of_ble_eq_true rfl⟩) (g0) rfl rfl hl.1 rfl (Nat.le_of_ble_eq_true rfl) dX0_isInForce_103 ⟨Nat.zero_le _, Nat.zero_le _⟩ (fun r13 H locs f13 hP1 hS1 => ?_)
          replace hP := hP1
          replace hS := hS1
          clear hP1 hS1
          refine lv_if_eq (tgt := 113) hx hb dX0_isInForce_106 (by decide) (fun c14 => ?_) (fun c14 => ?_)
          · have c14 := zz_eqT c14
            refine lv_iconst (v := 0) hx hb dX0_isInForce_113 (by decide) ?_
            exact zz_zret hx hb hr hlocks hK hP hS dX0_isInForce_114 (zz_01 (by omega)) (by exact ⟨rfl, zy_Fc.mk (x := r1.toInt) (y := n2.toInt) (by omega) (by omega) (by omega) (zy_Fo_3 (by omega) (by unfold zy_bt; omega))⟩)
          · have c14 := zz_neT c14
            refine lv_iconst (v := 1) hx hb dX0_isInForce_109 (by decide) ?_
            refine lv_goto (tgt := 114) hx hb dX0_isInForce_110 (by decide) ?_
            exact zz_zret hx hb hr hlocks hK hP hS dX0_isInForce_114 (zz_01 (by omega)) (by exact ⟨rfl, zy_Fc.mk (x := r1.toInt) (y := n2.toInt) (by omega) (by omega) (by omega) (zy_Fo_3 (by omega) (by unfold zy_bt; omega))⟩)
    by_cases c15 : (σ h0 0).toInt = 4
    · refine lv_tableIn (off := 90) (tgt := 115) hx hb dX0_isInForce_25 (by omega) (by omega) (by rw [show ((σ h0 0).toInt - (1)).toNat = 3 from by omega]; rfl) (by decide) ?_
      refine lv_aload_n hx hb dX0_isInForce_115 rfl (lv_at hl 2 rfl) ?_
      refine lv_iload_n hx hb dX0_isInForce_116 rfl (lv_at hl 1 rfl) ?_
      refine lv_iload hx hb dX0_isInForce_117 (lv_at hl 0 rfl) ?_
      refine lv_iload_n hx hb dX0_isInForce_119 rfl (lv_at hl 4 rfl) ?_
      refine zz_callVp (As := [.int r1, .int n2, .int sl]) (rest := []) ⟨hx, hb, hml, hown, hts⟩ hK hP hS (c_X0_isNightmare l E σ h0 r1 n2 sl g0 (by omega) (by omega)) (cwV 3 hts gX0_isInForce_X0_isNightmare rfl rfl rfl (by decide +kernel) ⟨Nat.le_of_ble_eq_true rfl, Nat.le_of_ble_eq_true rfl⟩) (g0) rfl rfl hl.1 rfl (Nat.le_of_ble_eq_true rfl) dX0_isInForce_120 ⟨Nat.zero_le _, Nat.zero_le _⟩ (fun r16 H locs f16 hP1 hS1 => ?_)
      replace hP := hP1
      replace hS := hS1
      clear hP1 hS1
      refine lv_if_ne (tgt := 149) hx hb dX0_isInForce_123 (by decide) (fun c17 => ?_) (fun c17 => ?_)
      · have c17 := zz_neT c17
        refine lv_iconst (v := 1) hx hb dX0_isInForce_149 (by decide) ?_
        refine lv_goto (tgt := 154) hx hb dX0_isInForce_150 (by decide) ?_
        exact zz_zret hx hb hr hlocks hK hP hS dX0_isInForce_154 (zz_01 (by omega)) (by exact ⟨rfl, zy_Fc.mk (x := r1.toInt) (y := n2.toInt) (by omega) (by omega) (by omega) (zy_Fo_4 (by omega) (by unfold zy_bt; omega))⟩)
      · have c17 := zz_eqT c17
        refine lv_iload_n hx hb dX0_isInForce_126 rfl (lv_at hl 1 rfl) ?_
        refine lv_if_ne (tgt := 153) hx hb dX0_isInForce_127 (by decide) (fun c18 => ?_) (fun c18 => ?_)
        · have c18 := zz_neT c18
          refine lv_iconst (v := 0) hx hb dX0_isInForce_153 (by decide) ?_
          exact zz_zret hx hb hr hlocks hK hP hS dX0_isInForce_154 (zz_01 (by omega)) (by exact ⟨rfl, zy_Fc.mk (x := r1.toInt) (y := n2.toInt) (by omega) (by omega) (by omega) (zy_Fo_4 (by omega) (by unfold zy_bt; omega))⟩)
        · have c18 := zz_eqT c18
          refine lv_iload hx hb dX0_isInForce_130 (lv_at hl 0 rfl) ?_
          refine lv_bipush (v := 12) hx hb dX0_isInForce_132 (by decide) ?_
          refine lv_icmp_ge (tgt := 153) hx hb dX0_isInForce_134 (by decide) (fun c19 => ?_) (fun c19 => ?_)
          · have c19 := zz_leT c19
            refine lv_iconst (v := 0) hx hb dX0_isInForce_153 (by decide) ?_
            exact zz_zret hx hb hr hlocks hK hP hS dX0_isInForce_154 (zz_01 (by omega)) (by exact ⟨rfl, zy_Fc.mk (x := r1.toInt) (y := n2.toInt) (by omega) (by omega) (by omega) (zy_Fo_4 (by omega) (by unfold zy_bt; omega))⟩)
          · have c19 := zz_nleT c19
            refine lv_iload hx hb dX0_isInForce_137 (lv_at hl 0 rfl) ?_
            refine lv_bipush (v := 12) hx hb dX0_isInForce_139 (by decide) ?_
            refine lv_aload_n hx hb dX0_isInForce_141 rfl (lv_at hl 2 rfl) ?_
            refine zz_geti hx hb hts hi0 hown hK hP (g0) rfl 1 (by decide) (hts (.fieldLink RX0 15 "NoonLaw$Dream" "m" "I") (List.mem_cons_of_mem _ bm_179)) rfl rfl rfl dX0_isInForce_142 ?_
            refine lv_isub hx hb dX0_isInForce_145 ?_
            refine lv_topi (fun n20 e20 => ?_)
            have f20 : n20.toInt = (12 : Int32).toInt - (σ h0 1).toInt := zz_subT e20 (by omega) (by omega)
            refine lv_icmp_lt (tgt := 153) hx hb dX0_isInForce_146 (by decide) (fun c21 => ?_) (fun c21 => ?_)
            · have c21 := zz_ltT c21
              refine lv_iconst (v := 0) hx hb dX0_isInForce_153 (by decide) ?_
              exact zz_zret hx hb hr hlocks hK hP hS dX0_isInForce_154 (zz_01 (by omega)) (by exact ⟨rfl, zy_Fc.mk (x := r1.toInt) (y := n2.toInt) (by omega) (by omega) (by omega) (zy_Fo_4 (by omega) (by unfold zy_bt; omega))⟩)
            · have c21 := zz_nltT c21
              refine lv_iconst (v := 1) hx hb dX0_isInForce_149 (by decide) ?_
              refine lv_goto (tgt := 154) hx hb dX0_isInForce_150 (by decide) ?_
              exact zz_zret hx hb hr hlocks hK hP hS dX0_isInForce_154 (zz_01 (by omega)) (by exact ⟨rfl, zy_Fc.mk (x := r1.toInt) (y := n2.toInt) (by omega) (by omega) (by omega) (zy_Fo_4 (by omega) (by unfold zy_bt; omega))⟩)
    by_cases c22 : (σ h0 0).toInt = 5
    · refine lv_tableIn (off := 130) (tgt := 155) hx hb dX0_isInForce_25 (by omega) (by omega) (by rw [show ((σ h0 0).toInt - (1)).toNat = 4 from by omega]; rfl) (by decide) ?_
      refine lv_aload_n hx hb dX0_isInForce_155 rfl (lv_at hl 2 rfl) ?_
      refine lv_iload_n hx hb dX0_isInForce_156 rfl (lv_at hl 1 rfl) ?_
      refine lv_iload hx hb dX0_isInForce_157 (lv_at hl 0 rfl) ?_
      refine zz_callVp (As := [.int r1, .int n2]) (rest := []) ⟨hx, hb, hml, hown, hts⟩ hK hP hS (c_X0_isNap l E σ h0 r1 n2 g0 (by omega)) (cwV 2 hts gX0_isInForce_X0_isNap rfl rfl rfl (by decide +kernel) ⟨Nat.le_of_ble_eq_true rfl, Nat.le_of_ble_eq_true rfl⟩) (g0) rfl rfl hl.1 rfl (Nat.le_of_ble_eq_true rfl) dX0_isInForce_159 ⟨Nat.zero_le _, Nat.zero_le _⟩ (fun r23 H locs f23 hP1 hS1 => ?_)
      replace hP := hP1
      replace hS := hS1
      clear hP1 hS1
      refine lv_if_ne (tgt := 179) hx hb dX0_isInForce_162 (by decide) (fun c24 => ?_) (fun c24 => ?_)
      · have c24 := zz_neT c24
        refine lv_iconst (v := 1) hx hb dX0_isInForce_179 (by decide) ?_
        refine lv_goto (tgt := 184) hx hb dX0_isInForce_180 (by decide) ?_
        exact zz_zret hx hb hr hlocks hK hP hS dX0_isInForce_184 (zz_01 (by omega)) (by exact ⟨rfl, zy_Fc.mk (x := r1.toInt) (y := n2.toInt) (by omega) (by omega) (by omega) (zy_Fo_5 (by omega) (by unfold zy_bt; omega))⟩)
      · have c24 := zz_eqT c24
        refine lv_iload_n hx hb dX0_isInForce_165 rfl (lv_at hl 1 rfl) ?_
        refine lv_iconst (v := 1) hx hb dX0_isInForce_166 (by decide) ?_
        refine lv_icmp_ne (tgt := 183) hx hb dX0_isInForce_167 (by decide) (fun c25 => ?_) (fun c25 => ?_)
        · have c25 := zz_neT c25
          refine lv_iconst (v := 0) hx hb dX0_isInForce_183 (by decide) ?_
          exact zz_zret hx hb hr hlocks hK hP hS dX0_isInForce_184 (zz_01 (by omega)) (by exact ⟨rfl, zy_Fc.mk (x := r1.toInt) (y := n2.toInt) (by omega) (by omega) (by omega) (zy_Fo_5 (by omega) (by unfold zy_bt; omega))⟩)
        · have c25 := zz_eqT c25
          refine lv_iload hx hb dX0_isInForce_170 (lv_at hl 0 rfl) ?_
          refine lv_aload_n hx hb dX0_isInForce_172 rfl (lv_at hl 2 rfl) ?_
          refine zz_geti hx hb hts hi0 hown hK hP (g0) rfl 1 (by decide) (hts (.fieldLink RX0 15 "NoonLaw$Dream" "m" "I") (List.mem_cons_of_mem _ bm_179)) rfl rfl rfl dX0_isInForce_173 ?_
          refine lv_icmp_ge (tgt := 183) hx hb dX0_isInForce_176 (by decide) (fun c26 => ?_) (fun c26 => ?_)
          · have c26 := zz_leT c26
            refine lv_iconst (v := 0) hx hb dX0_isInForce_183 (by decide) ?_
            exact zz_zret hx hb hr hlocks hK hP hS dX0_isInForce_184 (zz_01 (by omega)) (by exact ⟨rfl, zy_Fc.mk (x := r1.toInt) (y := n2.toInt) (by omega) (by omega) (by omega) (zy_Fo_5 (by omega) (by unfold zy_bt; omega))⟩)
          · have c26 := zz_nleT c26
            refine lv_iconst (v := 1) hx hb dX0_isInForce_179 (by decide) ?_
            refine lv_goto (tgt := 184) hx hb dX0_isInForce_180 (by decide) ?_
            exact zz_zret hx hb hr hlocks hK hP hS dX0_isInForce_184 (zz_01 (by omega)) (by exact ⟨rfl, zy_Fc.mk (x := r1.toInt) (y := n2.toInt) (by omega) (by omega) (by omega) (zy_Fo_5 (by omega) (by unfold zy_bt; omega))⟩)
    by_cases c27 : (σ h0 0).toInt = 6
    · refine lv_tableIn (off := 160) (tgt := 185) hx hb dX0_isInForce_25 (by omega) (by omega) (by rw [show ((σ h0 0).toInt - (1)).toNat = 5 from by omega]; rfl) (by decide) ?_
      refine lv_aload_n hx hb dX0_isInForce_185 rfl (lv_at hl 2 rfl) ?_
      refine zz_geti hx hb hts hi0 hown hK hP (g0) rfl 1 (by decide) (hts (.fieldLink RX0 15 "NoonLaw$Dream" "m" "I") (List.mem_cons_of_mem _ bm_179)) rfl rfl rfl dX0_isInForce_186 ?_
      refine lv_bipush (v := 9) hx hb dX0_isInForce_189 (by decide) ?_
      refine lv_icmp_ne (tgt := 212) hx hb dX0_isInForce_191 (by decide) (fun c28 => ?_) (fun c28 => ?_)
      · have c28 := zz_neT c28
        refine lv_iconst (v := 0) hx hb dX0_isInForce_212 (by decide) ?_
        exact zz_zret hx hb hr hlocks hK hP hS dX0_isInForce_213 (zz_01 (by omega)) (by exact ⟨rfl, zy_Fc.mk (x := r1.toInt) (y := n2.toInt) (by omega) (by omega) (by omega) (zy_Fo_6 (by omega) (by unfold zy_bt; omega))⟩)
      · have c28 := zz_eqT c28
        refine lv_iload_n hx hb dX0_isInForce_194 rfl (lv_at hl 1 rfl) ?_
        refine lv_if_ne (tgt := 212) hx hb dX0_isInForce_195 (by decide) (fun c29 => ?_) (fun c29 => ?_)
        · have c29 := zz_neT c29
          refine lv_iconst (v := 0) hx hb dX0_isInForce_212 (by decide) ?_
          exact zz_zret hx hb hr hlocks hK hP hS dX0_isInForce_213 (zz_01 (by omega)) (by exact ⟨rfl, zy_Fc.mk (x := r1.toInt) (y := n2.toInt) (by omega) (by omega) (by omega) (zy_Fo_6 (by omega) (by unfold zy_bt; omega))⟩)
        · have c29 := zz_eqT c29
          refine lv_aload_n hx hb dX0_isInForce_198 rfl (lv_at hl 2 rfl) ?_
          refine lv_iload hx hb dX0_isInForce_199 (lv_at hl 0 rfl) ?_
          refine lv_iload_n hx hb dX0_isInForce_201 rfl (lv_at hl 4 rfl) ?_
          refine zz_callVp (As := [.int n2, .int sl]) (rest := []) ⟨hx, hb, hml, hown, hts⟩ hK hP hS (c_X0_isAwake l E σ h0 n2 sl g0) (cwV 2 hts gX0_isInForce_X0_isAwake rfl rfl rfl (by decide +kernel) ⟨Nat.le_of_ble_eq_true rfl, Nat.le_of_ble_eq_true rfl⟩) (g0) rfl rfl hl.1 rfl (Nat.le_of_ble_eq_true rfl) dX0_isInForce_202 ⟨Nat.zero_le _, Nat.zero_le _⟩ (fun r30 H locs f30 hP1 hS1 => ?_)
          replace hP := hP1
          replace hS := hS1
          clear hP1 hS1
          refine lv_if_eq (tgt := 212) hx hb dX0_isInForce_205 (by decide) (fun c31 => ?_) (fun c31 => ?_)
          · have c31 := zz_eqT c31
            refine lv_iconst (v := 0) hx hb dX0_isInForce_212 (by decide) ?_
            exact zz_zret hx hb hr hlocks hK hP hS dX0_isInForce_213 (zz_01 (by omega)) (by exact ⟨rfl, zy_Fc.mk (x := r1.toInt) (y := n2.toInt) (by omega) (by omega) (by omega) (zy_Fo_6 (by omega) (by unfold zy_bt; omega))⟩)
          · have c31 := zz_neT c31
            refine lv_iconst (v := 1) hx hb dX0_isInForce_208 (by decide) ?_
            refine lv_goto (tgt := 213) hx hb dX0_isInForce_209 (by decide) ?_
            exact zz_zret hx hb hr hlocks hK hP hS dX0_isInForce_213 (zz_01 (by omega)) (by exact ⟨rfl, zy_Fc.mk (x := r1.toInt) (y := n2.toInt) (by omega) (by omega) (by omega) (zy_Fo_6 (by omega) (by unfold zy_bt; omega))⟩)
    refine lv_tableOut (tgt := 214) hx hb dX0_isInForce_25 (by omega) (by decide) ?_
    refine lv_iload_n hx hb dX0_isInForce_214 rfl (lv_at hl 1 rfl) ?_
    refine lv_if_ne (tgt := 232) hx hb dX0_isInForce_215 (by decide) (fun c32 => ?_) (fun c32 => ?_)
    · have c32 := zz_neT c32
      refine lv_iconst (v := 0) hx hb dX0_isInForce_232 (by decide) ?_
      exact zz_zret hx hb hr hlocks hK hP hS dX0_isInForce_233 (zz_01 (by omega)) (by exact ⟨rfl, zy_Fc.mk (x := r1.toInt) (y := n2.toInt) (by omega) (by omega) (by omega) (zy_Fo_d (by omega) (by unfold zy_bt; omega))⟩)
    · have c32 := zz_eqT c32
      refine lv_aload_n hx hb dX0_isInForce_218 rfl (lv_at hl 2 rfl) ?_
      refine lv_iload hx hb dX0_isInForce_219 (lv_at hl 0 rfl) ?_
      refine lv_iload_n hx hb dX0_isInForce_221 rfl (lv_at hl 4 rfl) ?_
      refine zz_callVp (As := [.int n2, .int sl]) (rest := []) ⟨hx, hb, hml, hown, hts⟩ hK hP hS (c_X0_isAwake l E σ h0 n2 sl g0) (cwV 2 hts gX0_isInForce_X0_isAwake rfl rfl rfl (by decide +kernel) ⟨Nat.le_of_ble_eq_true rfl, Nat.le_of_ble_eq_true rfl⟩) (g0) rfl rfl hl.1 rfl (Nat.le_of_ble_eq_true rfl) dX0_isInForce_222 ⟨Nat.zero_le _, Nat.zero_le _⟩ (fun r33 H locs f33 hP1 hS1 => ?_)
      replace hP := hP1
      replace hS := hS1
      clear hP1 hS1
      refine lv_if_eq (tgt := 232) hx hb dX0_isInForce_225 (by decide) (fun c34 => ?_) (fun c34 => ?_)
      · have c34 := zz_eqT c34
        refine lv_iconst (v := 0) hx hb dX0_isInForce_232 (by decide) ?_
        exact zz_zret hx hb hr hlocks hK hP hS dX0_isInForce_233 (zz_01 (by omega)) (by exact ⟨rfl, zy_Fc.mk (x := r1.toInt) (y := n2.toInt) (by omega) (by omega) (by omega) (zy_Fo_d (by omega) (by unfold zy_bt; omega))⟩)
      · have c34 := zz_neT c34
        refine lv_iconst (v := 1) hx hb dX0_isInForce_228 (by decide) ?_
        refine lv_goto (tgt := 233) hx hb dX0_isInForce_229 (by decide) ?_
        exact zz_zret hx hb hr hlocks hK hP hS dX0_isInForce_233 (zz_01 (by omega)) (by exact ⟨rfl, zy_Fc.mk (x := r1.toInt) (y := n2.toInt) (by omega) (by omega) (by omega) (zy_Fo_d (by omega) (by unfold zy_bt; omega))⟩)
  · have c3 := zz_neT c3
    refine lv_iconst (v := 0) hx hb dX0_isInForce_19 (by decide) ?_
    exact zz_zret hx hb hr hlocks hK hP hS dX0_isInForce_20 (zz_01 (by omega)) (by exact ⟨rfl, zy_Fc.gone (by omega) k_0⟩)
set_option maxHeartbeats 4000000 in
set_option maxRecDepth 100000 in
theorem c_J6_bitCount_0f7a4 (l : Launch) (E : zz_E) (σ : zz_S) (v : Int32)  : Met l yJ6_bitCount_0f7a4 wzJ6_bitCount_0f7a4 ({ frames := 0, cells := 0, slots := 0, locals := 0 }) (va_Pc [.int v] (zz_B E σ)) (va_Qi (fun r σ1 => σ1 = σ ∧ (r = zy_bcf v)) (zz_B E) (zz_A E)) 0 0 (zz_A E) := by
  refine zz_met (cc := cJ6_bitCount_0f7a4) (maxL := 1) (ret := (some .int)) (by decide) rfl (Nat.le_of_ble_eq_true rfl) ?_
  intro p e s m args below meth c ls hx hb hr hts hown hlocks hml hK hP hS hl
  have hl : lv_has ls 1 [(0, .int v)] := hl
  have hown : s.vm.findClass RJ6 = some m.cls := hown
  have k_1 : (1 : Int32).toInt = 1 := by decide +kernel
  have k_2 : (2 : Int32).toInt = 2 := by decide +kernel
  have k_4 : (4 : Int32).toInt = 4 := by decide +kernel
  have k_8 : (8 : Int32).toInt = 8 := by decide +kernel
  have k_16 : (16 : Int32).toInt = 16 := by decide +kernel
  have k_63 : (63 : Int32).toInt = 63 := by decide +kernel
  have k_252645135 : (252645135 : Int32).toInt = 252645135 := by decide +kernel
  have k_858993459 : (858993459 : Int32).toInt = 858993459 := by decide +kernel
  have k_1431655765 : (1431655765 : Int32).toInt = 1431655765 := by decide +kernel
  refine lv_iload_n hx hb dJ6_bitCount_0f7a4_0 rfl (lv_at hl 0 rfl) ?_
  refine lv_iload_n hx hb dJ6_bitCount_0f7a4_1 rfl (lv_at hl 0 rfl) ?_
  refine lv_iconst (v := 1) hx hb dJ6_bitCount_0f7a4_2 (by decide) ?_
  refine lv_iushr hx hb dJ6_bitCount_0f7a4_3 rfl ?_
  refine lv_topi (fun n1 e1 => ?_)
  refine lv_ldcw (v := 1431655765) hx hb hown (hts (.constant RJ6 265 (1431655765)) (List.mem_cons_of_mem _ bm_364)) dJ6_bitCount_0f7a4_4 ?_
  refine lv_iand hx hb dJ6_bitCount_0f7a4_7 ?_
  refine lv_topi (fun n2 e2 => ?_)
  refine lv_isub hx hb dJ6_bitCount_0f7a4_8 ?_
  refine lv_topi (fun n3 e3 => ?_)
  refine lv_istore_n (lv' := [(0, .int n3)]) hx hb dJ6_bitCount_0f7a4_9 rfl hl (by decide) rfl (fun ls hl => ?_)
  refine lv_iload_n hx hb dJ6_bitCount_0f7a4_10 rfl (lv_at hl 0 rfl) ?_
  refine lv_ldcw (v := 858993459) hx hb hown (hts (.constant RJ6 266 (858993459)) (List.mem_cons_of_mem _ bm_365)) dJ6_bitCount_0f7a4_11 ?_
  refine lv_iand hx hb dJ6_bitCount_0f7a4_14 ?_
  refine lv_topi (fun n4 e4 => ?_)
  refine lv_iload_n hx hb dJ6_bitCount_0f7a4_15 rfl (lv_at hl 0 rfl) ?_
  refine lv_iconst (v := 2) hx hb dJ6_bitCount_0f7a4_16 (by decide) ?_
  refine lv_iushr hx hb dJ6_bitCount_0f7a4_17 rfl ?_
  refine lv_topi (fun n5 e5 => ?_)
  refine lv_ldcw (v := 858993459) hx hb hown (hts (.constant RJ6 266 (858993459)) (List.mem_cons_of_mem _ bm_365)) dJ6_bitCount_0f7a4_18 ?_
  refine lv_iand hx hb dJ6_bitCount_0f7a4_21 ?_
  refine lv_topi (fun n6 e6 => ?_)
  refine lv_iadd hx hb dJ6_bitCount_0f7a4_22 ?_
  refine lv_topi (fun n7 e7 => ?_)
  refine lv_istore_n (lv' := [(0, .int n7)]) hx hb dJ6_bitCount_0f7a4_23 rfl hl (by decide) rfl (fun ls hl => ?_)
  refine lv_iload_n hx hb dJ6_bitCount_0f7a4_24 rfl (lv_at hl 0 rfl) ?_
  refine lv_iload_n hx hb dJ6_bitCount_0f7a4_25 rfl (lv_at hl 0 rfl) ?_
  refine lv_iconst (v := 4) hx hb dJ6_bitCount_0f7a4_26 (by decide) ?_
  refine lv_iushr hx hb dJ6_bitCount_0f7a4_27 rfl ?_
  refine lv_topi (fun n8 e8 => ?_)
  refine lv_iadd hx hb dJ6_bitCount_0f7a4_28 ?_
  refine lv_topi (fun n9 e9 => ?_)
  refine lv_ldcw (v := 252645135) hx hb hown (hts (.constant RJ6 267 (252645135)) (List.mem_cons_of_mem _ bm_366)) dJ6_bitCount_0f7a4_29 ?_
  refine lv_iand hx hb dJ6_bitCount_0f7a4_32 ?_
  refine lv_topi (fun n10 e10 => ?_)
  refine lv_istore_n (lv' := [(0, .int n10)]) hx hb dJ6_bitCount_0f7a4_33 rfl hl (by decide) rfl (fun ls hl => ?_)
  refine lv_iload_n hx hb dJ6_bitCount_0f7a4_34 rfl (lv_at hl 0 rfl) ?_
  refine lv_iload_n hx hb dJ6_bitCount_0f7a4_35 rfl (lv_at hl 0 rfl) ?_
  refine lv_bipush (v := 8) hx hb dJ6_bitCount_0f7a4_36 (by decide) ?_
  refine lv_iushr hx hb dJ6_bitCount_0f7a4_38 rfl ?_
  refine lv_topi (fun n11 e11 => ?_)
  refine lv_iadd hx hb dJ6_bitCount_0f7a4_39 ?_
  refine lv_topi (fun n12 e12 => ?_)
  refine lv_istore_n (lv' := [(0, .int n12)]) hx hb dJ6_bitCount_0f7a4_40 rfl hl (by decide) rfl (fun ls hl => ?_)
  refine lv_iload_n hx hb dJ6_bitCount_0f7a4_41 rfl (lv_at hl 0 rfl) ?_
  refine lv_iload_n hx hb dJ6_bitCount_0f7a4_42 rfl (lv_at hl 0 rfl) ?_
  refine lv_bipush (v := 16) hx hb dJ6_bitCount_0f7a4_43 (by decide) ?_
  refine lv_iushr hx hb dJ6_bitCount_0f7a4_45 rfl ?_
  refine lv_topi (fun n13 e13 => ?_)
  refine lv_iadd hx hb dJ6_bitCount_0f7a4_46 ?_
  refine lv_topi (fun n14 e14 => ?_)
  refine lv_istore_n (lv' := [(0, .int n14)]) hx hb dJ6_bitCount_0f7a4_47 rfl hl (by decide) rfl (fun ls hl => ?_)
  refine lv_iload_n hx hb dJ6_bitCount_0f7a4_48 rfl (lv_at hl 0 rfl) ?_
  refine lv_bipush (v := 63) hx hb dJ6_bitCount_0f7a4_49 (by decide) ?_
  refine lv_iand hx hb dJ6_bitCount_0f7a4_51 ?_
  refine lv_topi (fun n15 e15 => ?_)
  subst e1
  subst e2
  subst e3
  subst e4
  subst e5
  subst e6
  subst e7
  subst e8
  subst e9
  subst e10
  subst e11
  subst e12
  subst e13
  subst e14
  subst e15
  exact zz_iret hx hb hr hlocks hK hP hS dJ6_bitCount_0f7a4_52 (by exact ⟨rfl, rfl⟩)
theorem gX0_isOf_X8_above_n30 : GoodIn wzX0_isOf (wzX8_above) := wz_in bm_291
set_option maxHeartbeats 4000000 in
set_option maxRecDepth 100000 in
theorem c_X0_isOf (l : Launch) (E : zz_E) (σ : zz_S) (h0 : Nat) (w : Int32) (g0 : zz_Dr E h0) (hk : 0 ≤ (σ h0 0).toInt ∧ (σ h0 0).toInt ≤ 6) (hw : 0 ≤ w.toInt ∧ w.toInt ≤ 6) : Met l yX0_isOf wzX0_isOf ({ frames := 2, cells := 0, slots := 0, locals := 42 }) (va_Pc [.ref h0, .int w] (zz_B E σ)) (va_Qi (fun r σ1 => σ1 = σ ∧ ((r.toInt = 1 ∧ zz_is (σ h0 0).toInt w.toInt) ∨ (r.toInt = 0 ∧ ¬ zz_is (σ h0 0).toInt w.toInt))) (zz_B E) (zz_A E)) 0 0 (zz_A E) := by
  refine zz_met (cc := cX0_isOf) (maxL := 4) (ret := (some .boolean)) (by decide) rfl (Nat.le_of_ble_eq_true rfl) ?_
  intro p e s m args below meth c ls hx hb hr hts hown hlocks hml hK hP hS hl
  have hl : lv_has ls 4 [(0, .ref h0), (1, .int w)] := hl
  have hown : s.vm.findClass RX0 = some m.cls := hown
  have hi0 : ∀ w ∈ wsX00, w ∈ wzX0_isOf := fun w h => List.mem_cons_of_mem _ (hbw0 w h)
  have k_0 : (0 : Int32).toInt = 0 := by decide +kernel
  have k_1 : (1 : Int32).toInt = 1 := by decide +kernel
  have k_7 : (7 : Int32).toInt = 7 := by decide +kernel
  refine lv_aload_n hx hb dX0_isOf_0 rfl (lv_at hl 0 rfl) ?_
  refine zz_geti hx hb hts hi0 hown hK hP (g0) rfl 0 (by decide) (hts (.fieldLink RX0 9 "NoonLaw$Dream" "kind" "I") (List.mem_cons_of_mem _ bm_178)) rfl rfl rfl dX0_isOf_1 ?_
  refine lv_istore_n (lv' := [(2, .int (σ h0 0)), (0, .ref h0), (1, .int w)]) hx hb dX0_isOf_4 rfl hl (by decide) rfl (fun ls hl => ?_)
  refine lv_iconst (v := 0) hx hb dX0_isOf_5 (by decide) ?_
  refine lv_istore_n (lv' := [(3, .int 0), (2, .int (σ h0 0)), (0, .ref h0), (1, .int w)]) hx hb dX0_isOf_6 rfl hl (by decide) rfl (fun ls hl => ?_)
  have J7 : ∀ (n : Nat) (up : Int32) (ii : Int32) (H : Heap) (locs : List Loc) (ls : Array Slot), ((7 - ii.toInt).toNat) < n → (0 ≤ ii.toInt) → (-1 ≤ up.toInt ∧ up.toInt ≤ 6 ∧ (1 ≤ ii.toInt → up.toInt ≤ 2) ∧ (2 ≤ ii.toInt → up.toInt ≤ 0) ∧ (3 ≤ ii.toInt → up.toInt < 0)) → (zz_is up.toInt w.toInt ↔ zz_is (σ h0 0).toInt w.toInt) → zz_P E σ H → va_S (zz_A E) s.heap H locs → lv_has ls 4 [(3, .int ii), (2, .int up), (0, .ref h0), (1, .int w)] → W p l e (headSpec wzX0_isOf ({ frames := 2, cells := 0, slots := 0, locals := 42 })).room s m args below meth c H locs 0 0 (MQ below (va_Qi (fun r σ1 => σ1 = σ ∧ ((r.toInt = 1 ∧ zz_is (σ h0 0).toInt w.toInt) ∨ (r.toInt = 0 ∧ ¬ zz_is (σ h0 0).toInt w.toInt))) (zz_B E) (zz_A E)) args s 0 0 (zz_A E)) (F0 m 7 ls []) := by
    intro n
    induction n with
    | zero => intro up ii H locs ls hm; exact absurd hm (Nat.not_lt_zero _)
    | succ n ih7 =>
      intro up ii H locs ls hm f7_0 f7_1 f7_2 hP hS hl
      refine lv_iload_n hx hb dX0_isOf_7 rfl (lv_at hl 0 rfl) ?_
      refine lv_bipush (v := 7) hx hb dX0_isOf_8 (by decide) ?_
      refine lv_icmp_ge (tgt := 35) hx hb dX0_isOf_10 (by decide) (fun c1 => ?_) (fun c1 => ?_)
      · have c1 := zz_leT c1
        refine lv_iconst (v := 0) hx hb dX0_isOf_35 (by decide) ?_
        exact zz_zret hx hb hr hlocks hK hP hS dX0_isOf_36 (zz_01 (by omega)) (by refine ⟨rfl, ?_⟩; unfold zz_is at *; omega)
      · have c1 := zz_nleT c1
        refine lv_iload_n hx hb dX0_isOf_13 rfl (lv_at hl 1 rfl) ?_
        refine lv_if_lt (tgt := 35) hx hb dX0_isOf_14 (by decide) (fun c2 => ?_) (fun c2 => ?_)
        · have c2 := zz_ltT c2
          refine lv_iconst (v := 0) hx hb dX0_isOf_35 (by decide) ?_
          exact zz_zret hx hb hr hlocks hK hP hS dX0_isOf_36 (zz_01 (by omega)) (by refine ⟨rfl, ?_⟩; unfold zz_is at *; omega)
        · have c2 := zz_nltT c2
          refine lv_iload_n hx hb dX0_isOf_17 rfl (lv_at hl 1 rfl) ?_
          refine lv_iload_n hx hb dX0_isOf_18 rfl (lv_at hl 3 rfl) ?_
          refine lv_icmp_ne (tgt := 24) hx hb dX0_isOf_19 (by decide) (fun c3 => ?_) (fun c3 => ?_)
          · have c3 := zz_neT c3
            refine lv_iload_n hx hb dX0_isOf_24 rfl (lv_at hl 1 rfl) ?_
            refine zz_callNp (As := [.int up]) (rest := []) ⟨hx, hb, hml, hown, hts⟩ hK hP hS (c_X8_above l E σ up) ⟨va_cnB 1 hts gX0_isOf_X8_above_n30 rfl rfl rfl (hK.2.2.1) (hts (.initialized RX8) (List.mem_cons_of_mem _ bm_2)) (by decide +kernel) ⟨Nat.le_of_ble_eq_true rfl, Nat.le_of_ble_eq_true rfl⟩, hts (.static yX8_above) (by decide +kernel), trivial⟩ rfl hl.1 rfl (Nat.le_of_ble_eq_true rfl) dX0_isOf_25 ⟨Nat.zero_le _, Nat.zero_le _⟩ (fun r4 H locs f4 hP1 hS1 => ?_)
            replace hP := hP1
            replace hS := hS1
            clear hP1 hS1
            have hb9 := zz_abT up (by omega)
            rw [← f4.1] at hb9
            refine lv_istore_n (lv' := [(2, .int r4), (3, .int ii), (0, .ref h0), (1, .int w)]) hx hb dX0_isOf_28 rfl hl (by decide) rfl (fun ls hl => ?_)
            obtain ⟨n5, e5⟩ : ∃ y : Int32, y = ii + 1 := ⟨_, rfl⟩
            have f5 : n5.toInt = (ii).toInt + (1) := by have h9 := zz_addT e5 (by omega) (by omega); omega
            refine lv_iinc (v := n5) (lv' := [(3, .int n5), (2, .int r4), (0, .ref h0), (1, .int w)]) hx hb dX0_isOf_29 hl (k := 1) rfl (by rw [e5]; rfl) (by decide) rfl (fun ls hl => ?_)
            refine lv_goto (tgt := 7) hx hb dX0_isOf_32 (by decide) ?_
            exact ih7 r4 n5 _ _ _ (by omega) (by omega) (by omega) (by unfold zz_is at *; omega) hP hS (lv_sub hl [0, 1, 2, 3] rfl)
          · have c3 := zz_eqT c3
            refine lv_iconst (v := 1) hx hb dX0_isOf_22 (by decide) ?_
            exact zz_zret hx hb hr hlocks hK hP hS dX0_isOf_23 (zz_01 (by omega)) (by refine ⟨rfl, ?_⟩; unfold zz_is at *; omega)
  exact J7 _ (σ h0 0) 0 _ _ _ (Nat.lt_succ_self _) (by omega) (by omega) (by exact Iff.rfl) hP hS (lv_sub hl [0, 1, 2, 3] rfl)
theorem dS7_2 (x0 : Nat) : (x0) = x0 := by omega
set_option maxHeartbeats 4000000 in
set_option maxRecDepth 100000 in
theorem c_X0_take (l : Launch) (E : zz_E) (σ : zz_S) (h0 : Nat) (h1 : Nat) (g0 : zz_Dr E h0) (g_h1 : zz_Dr E h1) (hap : h1 ≠ h0) : Met l yX0_take wzX0_take ({ frames := 0, cells := 0, slots := 0, locals := 0 }) (va_Pc [.ref h0, .ref h1] (zz_B E σ)) (va_Qv (fun σ1 => zz_ch (fun a k => a = h0) σ σ1 ∧ (∀ f : Nat, f < 6 → σ1 h0 f = σ h1 f)) (zz_B E) (zz_A E)) 0 0 (zz_A E) := by
  refine zz_met (cc := cX0_take) (maxL := 2) (ret := none) (by decide) rfl (Nat.le_of_ble_eq_true rfl) ?_
  intro p e s m args below meth c ls hx hb hr hts hown hlocks hml hK hP hS hl
  have hl : lv_has ls 2 [(0, .ref h0), (1, .ref h1)] := hl
  have hown : s.vm.findClass RX0 = some m.cls := hown
  have hi0 : ∀ w ∈ wsX00, w ∈ wzX0_take := fun w h => List.mem_cons_of_mem _ (hbw0 w h)
  replace t0 : σ h0 0 = σ h0 0 := rfl
  replace t1 : σ h0 1 = σ h0 1 := rfl
  replace t2 : σ h0 2 = σ h0 2 := rfl
  replace t3 : σ h0 3 = σ h0 3 := rfl
  replace t4 : σ h0 4 = σ h0 4 := rfl
  replace t5 : σ h0 5 = σ h0 5 := rfl
  replace t6 : σ h1 0 = σ h1 0 := rfl
  replace t7 : σ h1 1 = σ h1 1 := rfl
  replace t8 : σ h1 2 = σ h1 2 := rfl
  replace t9 : σ h1 3 = σ h1 3 := rfl
  replace t10 : σ h1 4 = σ h1 4 := rfl
  replace t11 : σ h1 5 = σ h1 5 := rfl
  have hC : zz_ch (fun a k => a = h0) σ σ := zz_ch.rf σ
  refine lv_aload_n hx hb dX0_take_0 rfl (lv_at hl 0 rfl) ?_
  refine lv_aload_n hx hb dX0_take_1 rfl (lv_at hl 1 rfl) ?_
  refine zz_geti hx hb hts hi0 hown hK hP (g_h1) rfl 0 (by decide) (hts (.fieldLink RX0 9 "NoonLaw$Dream" "kind" "I") (List.mem_cons_of_mem _ bm_178)) rfl rfl t6 dX0_take_2 ?_
  refine zz_puti (v := σ h1 0) (ty := .int) hx hb hts hi0 tyX0 tyX0_ok nmX0 hown hK hP hS (g0) rfl 0 (by decide) (hts (.fieldLink RX0 9 "NoonLaw$Dream" "kind" "I") (List.mem_cons_of_mem _ bm_178)) rfl rfl (by decide +kernel) rfl rfl rfl dX0_take_5 (fun σ1 H locs w1 hP1 hS1 => ?_)
  replace hP := hP1
  replace hS := hS1
  clear hP1 hS1
  replace hC := hC.u w1 (dS7_2 h0)
  replace t0 : σ1 h0 0 = σ h1 0 := zz_w1 w1
  replace t1 : σ1 h0 1 = σ h0 1 := (zz_w (b := h0) (j := 1) w1 (fun q9 => absurd q9.2 (by decide))).trans t1
  replace t2 : σ1 h0 2 = σ h0 2 := (zz_w (b := h0) (j := 2) w1 (fun q9 => absurd q9.2 (by decide))).trans t2
  replace t3 : σ1 h0 3 = σ h0 3 := (zz_w (b := h0) (j := 3) w1 (fun q9 => absurd q9.2 (by decide))).trans t3
  replace t4 : σ1 h0 4 = σ h0 4 := (zz_w (b := h0) (j := 4) w1 (fun q9 => absurd q9.2 (by decide))).trans t4
  replace t5 : σ1 h0 5 = σ h0 5 := (zz_w (b := h0) (j := 5) w1 (fun q9 => absurd q9.2 (by decide))).trans t5
  replace t6 : σ1 h1 0 = σ h1 0 := (zz_w (b := h1) (j := 0) w1 (by omega)).trans t6
  replace t7 : σ1 h1 1 = σ h1 1 := (zz_w (b := h1) (j := 1) w1 (by omega)).trans t7
  replace t8 : σ1 h1 2 = σ h1 2 := (zz_w (b := h1) (j := 2) w1 (by omega)).trans t8
  replace t9 : σ1 h1 3 = σ h1 3 := (zz_w (b := h1) (j := 3) w1 (by omega)).trans t9
  replace t10 : σ1 h1 4 = σ h1 4 := (zz_w (b := h1) (j := 4) w1 (by omega)).trans t10
  replace t11 : σ1 h1 5 = σ h1 5 := (zz_w (b := h1) (j := 5) w1 (by omega)).trans t11
  refine lv_aload_n hx hb dX0_take_8 rfl (lv_at hl 0 rfl) ?_
  refine lv_aload_n hx hb dX0_take_9 rfl (lv_at hl 1 rfl) ?_
  refine zz_geti hx hb hts hi0 hown hK hP (g_h1) rfl 1 (by decide) (hts (.fieldLink RX0 15 "NoonLaw$Dream" "m" "I") (List.mem_cons_of_mem _ bm_179)) rfl rfl t7 dX0_take_10 ?_
  refine zz_puti (v := σ h1 1) (ty := .int) hx hb hts hi0 tyX0 tyX0_ok nmX0 hown hK hP hS (g0) rfl 1 (by decide) (hts (.fieldLink RX0 15 "NoonLaw$Dream" "m" "I") (List.mem_cons_of_mem _ bm_179)) rfl rfl (by decide +kernel) rfl rfl rfl dX0_take_13 (fun σ2 H locs w2 hP1 hS1 => ?_)
  replace hP := hP1
  replace hS := hS1
  clear hP1 hS1
  replace hC := hC.u w2 (dS7_2 h0)
  replace t0 : σ2 h0 0 = σ h1 0 := (zz_w (b := h0) (j := 0) w2 (fun q9 => absurd q9.2 (by decide))).trans t0
  replace t1 : σ2 h0 1 = σ h1 1 := zz_w1 w2
  replace t2 : σ2 h0 2 = σ h0 2 := (zz_w (b := h0) (j := 2) w2 (fun q9 => absurd q9.2 (by decide))).trans t2
  replace t3 : σ2 h0 3 = σ h0 3 := (zz_w (b := h0) (j := 3) w2 (fun q9 => absurd q9.2 (by decide))).trans t3
  replace t4 : σ2 h0 4 = σ h0 4 := (zz_w (b := h0) (j := 4) w2 (fun q9 => absurd q9.2 (by decide))).trans t4
  replace t5 : σ2 h0 5 = σ h0 5 := (zz_w (b := h0) (j := 5) w2 (fun q9 => absurd q9.2 (by decide))).trans t5
  replace t6 : σ2 h1 0 = σ h1 0 := (zz_w (b := h1) (j := 0) w2 (by omega)).trans t6
  replace t7 : σ2 h1 1 = σ h1 1 := (zz_w (b := h1) (j := 1) w2 (by omega)).trans t7
  replace t8 : σ2 h1 2 = σ h1 2 := (zz_w (b := h1) (j := 2) w2 (by omega)).trans t8
  replace t9 : σ2 h1 3 = σ h1 3 := (zz_w (b := h1) (j := 3) w2 (by omega)).trans t9
  replace t10 : σ2 h1 4 = σ h1 4 := (zz_w (b := h1) (j := 4) w2 (by omega)).trans t10
  replace t11 : σ2 h1 5 = σ h1 5 := (zz_w (b := h1) (j := 5) w2 (by omega)).trans t11
  refine lv_aload_n hx hb dX0_take_16 rfl (lv_at hl 0 rfl) ?_
  refine lv_aload_n hx hb dX0_take_17 rfl (lv_at hl 1 rfl) ?_
  refine zz_geti hx hb hts hi0 hown hK hP (g_h1) rfl 2 (by decide) (hts (.fieldLink RX0 18 "NoonLaw$Dream" "matter" "I") (List.mem_cons_of_mem _ bm_961)) rfl rfl t8 dX0_take_18 ?_
  refine zz_puti (v := σ h1 2) (ty := .int) hx hb hts hi0 tyX0 tyX0_ok nmX0 hown hK hP hS (g0) rfl 2 (by decide) (hts (.fieldLink RX0 18 "NoonLaw$Dream" "matter" "I") (List.mem_cons_of_mem _ bm_961)) rfl rfl (by decide +kernel) rfl rfl rfl dX0_take_21 (fun σ3 H locs w3 hP1 hS1 => ?_)
  replace hP := hP1
  replace hS := hS1
  clear hP1 hS1
  replace hC := hC.u w3 (dS7_2 h0)
  replace t0 : σ3 h0 0 = σ h1 0 := (zz_w (b := h0) (j := 0) w3 (fun q9 => absurd q9.2 (by decide))).trans t0
  replace t1 : σ3 h0 1 = σ h1 1 := (zz_w (b := h0) (j := 1) w3 (fun q9 => absurd q9.2 (by decide))).trans t1
  replace t2 : σ3 h0 2 = σ h1 2 := zz_w1 w3
  replace t3 : σ3 h0 3 = σ h0 3 := (zz_w (b := h0) (j := 3) w3 (fun q9 => absurd q9.2 (by decide))).trans t3
  replace t4 : σ3 h0 4 = σ h0 4 := (zz_w (b := h0) (j := 4) w3 (fun q9 => absurd q9.2 (by decide))).trans t4
  replace t5 : σ3 h0 5 = σ h0 5 := (zz_w (b := h0) (j := 5) w3 (fun q9 => absurd q9.2 (by decide))).trans t5
  replace t6 : σ3 h1 0 = σ h1 0 := (zz_w (b := h1) (j := 0) w3 (by omega)).trans t6
  replace t7 : σ3 h1 1 = σ h1 1 := (zz_w (b := h1) (j := 1) w3 (by omega)).trans t7
  replace t8 : σ3 h1 2 = σ h1 2 := (zz_w (b := h1) (j := 2) w3 (by omega)).trans t8
  replace t9 : σ3 h1 3 = σ h1 3 := (zz_w (b := h1) (j := 3) w3 (by omega)).trans t9
  replace t10 : σ3 h1 4 = σ h1 4 := (zz_w (b := h1) (j := 4) w3 (by omega)).trans t10
  replace t11 : σ3 h1 5 = σ h1 5 := (zz_w (b := h1) (j := 5) w3 (by omega)).trans t11
  refine lv_aload_n hx hb dX0_take_24 rfl (lv_at hl 0 rfl) ?_
  refine lv_aload_n hx hb dX0_take_25 rfl (lv_at hl 1 rfl) ?_
  refine zz_geti hx hb hts hi0 hown hK hP (g_h1) rfl 3 (by decide) (hts (.fieldLink RX0 21 "NoonLaw$Dream" "bids" "I") (List.mem_cons_of_mem _ bm_962)) rfl rfl t9 dX0_take_26 ?_
  refine zz_puti (v := σ h1 3) (ty := .int) hx hb hts hi0 tyX0 tyX0_ok nmX0 hown hK hP hS (g0) rfl 3 (by decide) (hts (.fieldLink RX0 21 "NoonLaw$Dream" "bids" "I") (List.mem_cons_of_mem _ bm_962)) rfl rfl (by decide +kernel) rfl rfl rfl dX0_take_29 (fun σ4 H locs w4 hP1 hS1 => ?_)
  replace hP := hP1
  replace hS := hS1
  clear hP1 hS1
  replace hC := hC.u w4 (dS7_2 h0)
  replace t0 : σ4 h0 0 = σ h1 0 := (zz_w (b := h0) (j := 0) w4 (fun q9 => absurd q9.2 (by decide))).trans t0
  replace t1 : σ4 h0 1 = σ h1 1 := (zz_w (b := h0) (j := 1) w4 (fun q9 => absurd q9.2 (by decide))).trans t1
  replace t2 : σ4 h0 2 = σ h1 2 := (zz_w (b := h0) (j := 2) w4 (fun q9 => absurd q9.2 (by decide))).trans t2
  replace t3 : σ4 h0 3 = σ h1 3 := zz_w1 w4
  replace t4 : σ4 h0 4 = σ h0 4 := (zz_w (b := h0) (j := 4) w4 (fun q9 => absurd q9.2 (by decide))).trans t4
  replace t5 : σ4 h0 5 = σ h0 5 := (zz_w (b := h0) (j := 5) w4 (fun q9 => absurd q9.2 (by decide))).trans t5
  replace t6 : σ4 h1 0 = σ h1 0 := (zz_w (b := h1) (j := 0) w4 (by omega)).trans t6
  replace t7 : σ4 h1 1 = σ h1 1 := (zz_w (b := h1) (j := 1) w4 (by omega)).trans t7
  replace t8 : σ4 h1 2 = σ h1 2 := (zz_w (b := h1) (j := 2) w4 (by omega)).trans t8
  replace t9 : σ4 h1 3 = σ h1 3 := (zz_w (b := h1) (j := 3) w4 (by omega)).trans t9
  replace t10 : σ4 h1 4 = σ h1 4 := (zz_w (b := h1) (j := 4) w4 (by omega)).trans t10
  replace t11 : σ4 h1 5 = σ h1 5 := (zz_w (b := h1) (j := 5) w4 (by omega)).trans t11
  refine lv_aload_n hx hb dX0_take_32 rfl (lv_at hl 0 rfl) ?_
  refine lv_aload_n hx hb dX0_take_33 rfl (lv_at hl 1 rfl) ?_
  refine zz_geti hx hb hts hi0 hown hK hP (g_h1) rfl 4 (by decide) (hts (.fieldLink RX0 24 "NoonLaw$Dream" "day" "I") (List.mem_cons_of_mem _ bm_184)) rfl rfl t10 dX0_take_34 ?_
  refine zz_puti (v := σ h1 4) (ty := .int) hx hb hts hi0 tyX0 tyX0_ok nmX0 hown hK hP hS (g0) rfl 4 (by decide) (hts (.fieldLink RX0 24 "NoonLaw$Dream" "day" "I") (List.mem_cons_of_mem _ bm_184)) rfl rfl (by decide +kernel) rfl rfl rfl dX0_take_37 (fun σ5 H locs w5 hP1 hS1 => ?_)
  replace hP := hP1
  replace hS := hS1
  clear hP1 hS1
  replace hC := hC.u w5 (dS7_2 h0)
  replace t0 : σ5 h0 0 = σ h1 0 := (zz_w (b := h0) (j := 0) w5 (fun q9 => absurd q9.2 (by decide))).trans t0
  replace t1 : σ5 h0 1 = σ h1 1 := (zz_w (b := h0) (j := 1) w5 (fun q9 => absurd q9.2 (by decide))).trans t1
  replace t2 : σ5 h0 2 = σ h1 2 := (zz_w (b := h0) (j := 2) w5 (fun q9 => absurd q9.2 (by decide))).trans t2
  replace t3 : σ5 h0 3 = σ h1 3 := (zz_w (b := h0) (j := 3) w5 (fun q9 => absurd q9.2 (by decide))).trans t3
  replace t4 : σ5 h0 4 = σ h1 4 := zz_w1 w5
  replace t5 : σ5 h0 5 = σ h0 5 := (zz_w (b := h0) (j := 5) w5 (fun q9 => absurd q9.2 (by decide))).trans t5
  replace t6 : σ5 h1 0 = σ h1 0 := (zz_w (b := h1) (j := 0) w5 (by omega)).trans t6
  replace t7 : σ5 h1 1 = σ h1 1 := (zz_w (b := h1) (j := 1) w5 (by omega)).trans t7
  replace t8 : σ5 h1 2 = σ h1 2 := (zz_w (b := h1) (j := 2) w5 (by omega)).trans t8
  replace t9 : σ5 h1 3 = σ h1 3 := (zz_w (b := h1) (j := 3) w5 (by omega)).trans t9
  replace t10 : σ5 h1 4 = σ h1 4 := (zz_w (b := h1) (j := 4) w5 (by omega)).trans t10
  replace t11 : σ5 h1 5 = σ h1 5 := (zz_w (b := h1) (j := 5) w5 (by omega)).trans t11
  refine lv_aload_n hx hb dX0_take_40 rfl (lv_at hl 0 rfl) ?_
  refine lv_aload_n hx hb dX0_take_41 rfl (lv_at hl 1 rfl) ?_
  refine zz_geti hx hb hts hi0 hown hK hP (g_h1) rfl 5 (by decide) (hts (.fieldLink RX0 27 "NoonLaw$Dream" "forgotten" "I") (List.mem_cons_of_mem _ bm_177)) rfl rfl t11 dX0_take_42 ?_
  refine zz_puti (v := σ h1 5) (ty := .int) hx hb hts hi0 tyX0 tyX0_ok nmX0 hown hK hP hS (g0) rfl 5 (by decide) (hts (.fieldLink RX0 27 "NoonLaw$Dream" "forgotten" "I") (List.mem_cons_of_mem _ bm_177)) rfl rfl (by decide +kernel) rfl rfl rfl dX0_take_45 (fun σ6 H locs w6 hP1 hS1 => ?_)
  replace hP := hP1
  replace hS := hS1
  clear hP1 hS1
  replace hC := hC.u w6 (dS7_2 h0)
  replace t0 : σ6 h0 0 = σ h1 0 := (zz_w (b := h0) (j := 0) w6 (fun q9 => absurd q9.2 (by decide))).trans t0
  replace t1 : σ6 h0 1 = σ h1 1 := (zz_w (b := h0) (j := 1) w6 (fun q9 => absurd q9.2 (by decide))).trans t1
  replace t2 : σ6 h0 2 = σ h1 2 := (zz_w (b := h0) (j := 2) w6 (fun q9 => absurd q9.2 (by decide))).trans t2
  replace t3 : σ6 h0 3 = σ h1 3 := (zz_w (b := h0) (j := 3) w6 (fun q9 => absurd q9.2 (by decide))).trans t3
  replace t4 : σ6 h0 4 = σ h1 4 := (zz_w (b := h0) (j := 4) w6 (fun q9 => absurd q9.2 (by decide))).trans t4
  replace t5 : σ6 h0 5 = σ h1 5 := zz_w1 w6
  replace t6 : σ6 h1 0 = σ h1 0 := (zz_w (b := h1) (j := 0) w6 (by omega)).trans t6
  replace t7 : σ6 h1 1 = σ h1 1 := (zz_w (b := h1) (j := 1) w6 (by omega)).trans t7
  replace t8 : σ6 h1 2 = σ h1 2 := (zz_w (b := h1) (j := 2) w6 (by omega)).trans t8
  replace t9 : σ6 h1 3 = σ h1 3 := (zz_w (b := h1) (j := 3) w6 (by omega)).trans t9
  replace t10 : σ6 h1 4 = σ h1 4 := (zz_w (b := h1) (j := 4) w6 (by omega)).trans t10
  replace t11 : σ6 h1 5 = σ h1 5 := (zz_w (b := h1) (j := 5) w6 (by omega)).trans t11
  exact zz_vret hx hb hr hlocks hK hP hS dX0_take_48 (by exact ⟨hC, zz_six t0 t1 t2 t3 t4 t5⟩)
set_option maxHeartbeats 4000000 in
set_option maxRecDepth 100000 in
theorem c_X1_take (l : Launch) (E : zz_E) (σ : zz_S) (h0 : Nat) (h1 : Nat) (g0 : zz_Pn E h0) (g_h1 : zz_Pn E h1) (hap : h1 ≠ h0) : Met l yX1_take wzX1_take ({ frames := 0, cells := 0, slots := 0, locals := 0 }) (va_Pc [.ref h0, .ref h1] (zz_B E σ)) (va_Qv (fun σ1 => zz_ch (fun a k => a = h0) σ σ1 ∧ (∀ f : Nat, f < 2 → σ1 h0 f = σ h1 f)) (zz_B E) (zz_A E)) 0 0 (zz_A E) := by
  refine zz_met (cc := cX1_take) (maxL := 2) (ret := none) (by decide) rfl (Nat.le_of_ble_eq_true rfl) ?_
  intro p e s m args below meth c ls hx hb hr hts hown hlocks hml hK hP hS hl
  have hl : lv_has ls 2 [(0, .ref h0), (1, .ref h1)] := hl
  have hown : s.vm.findClass RX1 = some m.cls := hown
  have hi1 : ∀ w ∈ wsX10, w ∈ wzX1_take := fun w h => List.mem_cons_of_mem _ (hbw1 w h)
  replace t0 : σ h0 0 = σ h0 0 := rfl
  replace t1 : σ h0 1 = σ h0 1 := rfl
  replace t2 : σ h1 0 = σ h1 0 := rfl
  replace t3 : σ h1 1 = σ h1 1 := rfl
  have hC : zz_ch (fun a k => a = h0) σ σ := zz_ch.rf σ
  refine lv_aload_n hx hb dX1_take_0 rfl (lv_at hl 0 rfl) ?_
  refine lv_aload_n hx hb dX1_take_1 rfl (lv_at hl 1 rfl) ?_
  refine zz_geti hx hb hts hi1 hown hK hP (g_h1) rfl 0 (by decide) (hts (.fieldLink RX1 7 "NoonLaw$Person" "wont" "I") (List.mem_cons_of_mem _ bm_967)) rfl rfl t2 dX1_take_2 ?_
  refine zz_puti (v := σ h1 0) (ty := .int) hx hb hts hi1 tyX1 tyX1_ok nmX1 hown hK hP hS (g0) rfl 0 (by decide) (hts (.fieldLink RX1 7 "NoonLaw$Person" "wont" "I") (List.mem_cons_of_mem _ bm_967)) rfl rfl (by decide +kernel) rfl rfl rfl dX1_take_5 (fun σ1 H locs w1 hP1 hS1 => ?_)
  replace hP := hP1
  replace hS := hS1
  clear hP1 hS1
  replace hC := hC.u w1 (dS7_2 h0)
  replace t0 : σ1 h0 0 = σ h1 0 := zz_w1 w1
  replace t1 : σ1 h0 1 = σ h0 1 := (zz_w (b := h0) (j := 1) w1 (fun q9 => absurd q9.2 (by decide))).trans t1
  replace t2 : σ1 h1 0 = σ h1 0 := (zz_w (b := h1) (j := 0) w1 (by omega)).trans t2
  replace t3 : σ1 h1 1 = σ h1 1 := (zz_w (b := h1) (j := 1) w1 (by omega)).trans t3
  refine lv_aload_n hx hb dX1_take_8 rfl (lv_at hl 0 rfl) ?_
  refine lv_aload_n hx hb dX1_take_9 rfl (lv_at hl 1 rfl) ?_
  refine zz_geti hx hb hts hi1 hown hK hP (g_h1) rfl 1 (by decide) (hts (.fieldLink RX1 13 "NoonLaw$Person" "fined" "I") (List.mem_cons_of_mem _ bm_968)) rfl rfl t3 dX1_take_10 ?_
  refine zz_puti (v := σ h1 1) (ty := .int) hx hb hts hi1 tyX1 tyX1_ok nmX1 hown hK hP hS (g0) rfl 1 (by decide) (hts (.fieldLink RX1 13 "NoonLaw$Person" "fined" "I") (List.mem_cons_of_mem _ bm_968)) rfl rfl (by decide +kernel) rfl rfl rfl dX1_take_13 (fun σ2 H locs w2 hP1 hS1 => ?_)
  replace hP := hP1
  replace hS := hS1
  clear hP1 hS1
  replace hC := hC.u w2 (dS7_2 h0)
  replace t0 : σ2 h0 0 = σ h1 0 := (zz_w (b := h0) (j := 0) w2 (fun q9 => absurd q9.2 (by decide))).trans t0
  replace t1 : σ2 h0 1 = σ h1 1 := zz_w1 w2
  replace t2 : σ2 h1 0 = σ h1 0 := (zz_w (b := h1) (j := 0) w2 (by omega)).trans t2
  replace t3 : σ2 h1 1 = σ h1 1 := (zz_w (b := h1) (j := 1) w2 (by omega)).trans t3
  exact zz_vret hx hb hr hlocks hK hP hS dX1_take_16 (by exact ⟨hC, zz_two t0 t1⟩)
theorem dS7_3 (x0 : Nat) : (x0) = x0 ∨ (x0) = x0 + 1 := by omega
set_option maxHeartbeats 4000000 in
set_option maxRecDepth 100000 in
theorem c_X6_take (l : Launch) (E : zz_E) (σ : zz_S) (h0 : Nat) (h1 : Nat) (cnt : Int32) (g0 : zz_Tx E h0) (g_h1 : E.2.2.1 h1 = some (.inr (0, 60, none))) : Met l yX6_take wzX6_take ({ frames := 1, cells := 0, slots := 0, locals := 40 }) (va_Pc [.ref h0, .ref h1, .int cnt] (zz_B E σ)) (va_Qv (fun σ1 => zz_ch (fun a k => a = h0 ∨ a = h0 + 1) σ σ1 ∧ ((0 ≤ (σ1 h0 1).toInt ∧ (σ1 h0 1).toInt ≤ 60) ∧ (0 ≤ cnt.toInt ∧ cnt.toInt ≤ 60 → (σ1 h0 1).toInt = cnt.toInt ∧ ∀ k : Nat, (k : Int) < cnt.toInt → σ1 (h0 + 1) k = σ h1 k) ∧ (σ1 h0 0).toInt = 1)) (zz_B E) (zz_A E)) 0 0 (zz_A E) := by
  refine zz_met (cc := cX6_take) (maxL := 4) (ret := none) (by decide) rfl (Nat.le_of_ble_eq_true rfl) ?_
  intro p e s m args below meth c ls hx hb hr hts hown hlocks hml hK hP hS hl
  have hl : lv_has ls 4 [(0, .ref h0), (1, .ref h1), (2, .int cnt)] := hl
  have hown : s.vm.findClass RX6 = some m.cls := hown
  have hi6 : ∀ w ∈ wsX60, w ∈ wzX6_take := fun w h => List.mem_cons_of_mem _ (hbw6 w h)
  have k_0 : (0 : Int32).toInt = 0 := by decide +kernel
  have k_1 : (1 : Int32).toInt = 1 := by decide +kernel
  have k_60 : (60 : Int32).toInt = 60 := by decide +kernel
  replace t0 : σ h0 1 = σ h0 1 := rfl
  replace t1 : σ h0 0 = σ h0 0 := rfl
  have hC : zz_ch (fun a k => a = h0 ∨ a = h0 + 1) σ σ := zz_ch.rf σ
  refine lv_iconst (v := 0) hx hb dX6_take_0 (by decide) ?_
  refine lv_iload_n hx hb dX6_take_1 rfl (lv_at hl 2 rfl) ?_
  refine lv_aload_n hx hb dX6_take_2 rfl (lv_at hl 1 rfl) ?_
  refine zz_alen hx hb hK hP (g_h1) rfl (v := 60) (by decide) dX6_take_3 ?_
  refine lv_bipush (v := 60) hx hb dX6_take_4 (by decide) ?_
  refine va_mmin hx hb (hml.trans hl.1.symm) hown (hts (.methodLink RX6 18 Lib.Math.min.name) (List.mem_cons_of_mem _ bm_502)) (hts (.static Lib.Math.min.name) (List.mem_cons_of_mem _ bm_226)) (hts (.initialized "java/lang/Math") (List.mem_cons_of_mem _ bm_227)) (hts (.code Lib.Math.min.name Lib.Math.min.code 2 (some .int)) (List.mem_cons_of_mem _ bm_228)) (Nat.le_of_ble_eq_true rfl) (Nat.le_of_ble_eq_true rfl) (Nat.zero_le _) (Nat.zero_le _) dX6_take_6 ?_
  refine lv_topi (fun n1 e1 => ?_)
  have f1 := zz_minT e1
  refine va_mmin hx hb (hml.trans hl.1.symm) hown (hts (.methodLink RX6 18 Lib.Math.min.name) (List.mem_cons_of_mem _ bm_502)) (hts (.static Lib.Math.min.name) (List.mem_cons_of_mem _ bm_226)) (hts (.initialized "java/lang/Math") (List.mem_cons_of_mem _ bm_227)) (hts (.code Lib.Math.min.name Lib.Math.min.code 2 (some .int)) (List.mem_cons_of_mem _ bm_228)) (Nat.le_of_ble_eq_true rfl) (Nat.le_of_ble_eq_true rfl) (Nat.zero_le _) (Nat.zero_le _) dX6_take_9 ?_
  refine lv_topi (fun n2 e2 => ?_)
  have f2 := zz_minT e2
  refine va_mmax hx hb (hml.trans hl.1.symm) hown (hts (.methodLink RX6 24 Lib.Math.max.name) (List.mem_cons_of_mem _ bm_503)) (hts (.static Lib.Math.max.name) (List.mem_cons_of_mem _ bm_230)) (hts (.initialized "java/lang/Math") (List.mem_cons_of_mem _ bm_227)) (hts (.code Lib.Math.max.name Lib.Math.max.code 2 (some .int)) (List.mem_cons_of_mem _ bm_231)) (Nat.le_of_ble_eq_true rfl) (Nat.le_of_ble_eq_true rfl) (Nat.zero_le _) (Nat.zero_le _) dX6_take_12 ?_
  refine lv_topi (fun n3 e3 => ?_)
  have f3 := zz_maxT e3
  refine lv_istore_n (lv' := [(3, .int n3), (0, .ref h0), (1, .ref h1), (2, .int cnt)]) hx hb dX6_take_15 rfl hl (by decide) rfl (fun ls hl => ?_)
  refine lv_aload_n hx hb dX6_take_16 rfl (lv_at hl 2 rfl) ?_
  refine lv_iconst (v := 0) hx hb dX6_take_17 (by decide) ?_
  refine lv_aload_n hx hb dX6_take_18 rfl (lv_at hl 1 rfl) ?_
  refine zz_getr hx hb hts hi6 hown hK hP (g0.1) rfl 2 (by decide) (hts (.fieldLink RX6 9 "NoonLaw$Text" "codes" "[I") (List.mem_cons_of_mem _ bm_68)) rfl rfl dX6_take_19 ?_
  refine lv_iconst (v := 0) hx hb dX6_take_22 (by decide) ?_
  refine lv_iload_n hx hb dX6_take_23 rfl (lv_at hl 0 rfl) ?_
  refine zz_copy hx hb (hml.trans hl.1.symm) hown (hts (.methodLink RX6 27 arraycopyName) (List.mem_cons_of_mem _ bm_504)) (hts (.native arraycopyName) (List.mem_cons_of_mem _ bm_454)) (hts (.static arraycopyName) (List.mem_cons_of_mem _ bm_455)) (hts (.initialized "java/lang/System") (List.mem_cons_of_mem _ bm_456)) hK hP hS 0 rfl rfl (g_h1) (g0.2.1) (by omega) (by omega) (by omega) (by omega) (by omega) (fun _ _ => rfl) (Nat.le_of_ble_eq_true rfl) (Nat.le_of_ble_eq_true rfl) dX6_take_24 (fun σ4 H locs w4 hP1 hS1 => ?_)
  replace hP := hP1
  replace hS := hS1
  clear hP1 hS1
  replace hC := hC.cp w4 (by intro k; first | (dsimp only; omega) | omega | (dsimp only; done))
  replace t0 : σ4 h0 1 = σ h0 1 := (by rw [w4, zz_cpb (by omega)] : σ4 h0 1 = σ h0 1).trans t0
  replace t1 : σ4 h0 0 = σ h0 0 := (by rw [w4, zz_cpb (by omega)] : σ4 h0 0 = σ h0 0).trans t1
  refine lv_aload_n hx hb dX6_take_27 rfl (lv_at hl 1 rfl) ?_
  refine lv_iload_n hx hb dX6_take_28 rfl (lv_at hl 0 rfl) ?_
  refine zz_puti (v := n3) (ty := .int) hx hb hts hi6 tyX6 tyX6_ok nmX6 hown hK hP hS (g0.1) rfl 1 (by decide) (hts (.fieldLink RX6 33 "NoonLaw$Text" "length" "I") (List.mem_cons_of_mem _ bm_215)) rfl rfl (by decide +kernel) rfl rfl rfl dX6_take_29 (fun σ5 H locs w5 hP1 hS1 => ?_)
  replace hP := hP1
  replace hS := hS1
  clear hP1 hS1
  replace hC := hC.u w5 (dS7_3 h0)
  replace t0 : σ5 h0 1 = n3 := zz_w1 w5
  replace t1 : σ5 h0 0 = σ h0 0 := (zz_w (b := h0) (j := 0) w5 (fun q9 => absurd q9.2 (by decide))).trans t1
  refine lv_aload_n hx hb dX6_take_32 rfl (lv_at hl 1 rfl) ?_
  refine lv_iconst (v := 1) hx hb dX6_take_33 (by decide) ?_
  refine zz_puti (v := 1) (ty := .boolean) hx hb hts hi6 tyX6 tyX6_ok nmX6 hown hK hP hS (g0.1) rfl 0 (by decide) (hts (.fieldLink RX6 37 "NoonLaw$Text" "stands" "Z") (List.mem_cons_of_mem _ bm_505)) rfl rfl (by decide +kernel) (zz_nz (by omega)) (zz_fz (by omega)) rfl dX6_take_34 (fun σ6 H locs w6 hP1 hS1 => ?_)
  replace hP := hP1
  replace hS := hS1
  clear hP1 hS1
  replace hC := hC.u w6 (dS7_3 h0)
  replace t0 : σ6 h0 1 = n3 := (zz_w (b := h0) (j := 1) w6 (fun q9 => absurd q9.2 (by decide))).trans t0
  replace t1 : σ6 h0 0 = 1 := zz_w1 w6
  exact zz_vret hx hb hr hlocks hK hP hS dX6_take_37 (by exact ⟨hC, by rw [t0]; omega, fun hq => ⟨by rw [t0]; omega, fun k hk => by rw [w6, zz_un (by omega), w5, zz_un (by omega)]; exact zz_cpk w4 k_0 k_0 (by omega)⟩, by rw [t1]; exact k_1⟩)
set_option maxHeartbeats 4000000 in
set_option maxRecDepth 100000 in
theorem c_X6_named (l : Launch) (E : zz_E) (σ : zz_S) (pl : Int32) (x1 : Int32) (x2 : Int32) (x3 : Int32)  : Met l yX6_named wzX6_named ({ frames := 0, cells := 0, slots := 0, locals := 0 }) (va_Pc [.int pl, .int x1, .int x2, .int x3] (zz_B E σ)) (va_Qi (fun r σ1 => σ1 = σ ∧ (r = (if pl.toInt = 0 then x1 else if pl.toInt = 1 then x2 else x3))) (zz_B E) (zz_A E)) 0 0 (zz_A E) := by
  refine zz_met (cc := cX6_named) (maxL := 4) (ret := (some .int)) (by decide) rfl (Nat.le_of_ble_eq_true rfl) ?_
  intro p e s m args below meth c ls hx hb hr hts hown hlocks hml hK hP hS hl
  have hl : lv_has ls 4 [(0, .int pl), (1, .int x1), (2, .int x2), (3, .int x3)] := hl
  have hown : s.vm.findClass RX6 = some m.cls := hown
  have k_0 : (0 : Int32).toInt = 0 := by decide +kernel
  have k_1 : (1 : Int32).toInt = 1 := by decide +kernel
  refine lv_iload_n hx hb dX6_named_0 rfl (lv_at hl 0 rfl) ?_
  refine lv_if_ne (tgt := 6) hx hb dX6_named_1 (by decide) (fun c1 => ?_) (fun c1 => ?_)
  · have c1 := zz_neT c1
    refine lv_iload_n hx hb dX6_named_6 rfl (lv_at hl 0 rfl) ?_
    refine lv_iconst (v := 1) hx hb dX6_named_7 (by decide) ?_
    refine lv_icmp_ne (tgt := 15) hx hb dX6_named_8 (by decide) (fun c2 => ?_) (fun c2 => ?_)
    · have c2 := zz_neT c2
      refine lv_iload_n hx hb dX6_named_15 rfl (lv_at hl 3 rfl) ?_
      exact zz_iret hx hb hr hlocks hK hP hS dX6_named_16 (by refine ⟨rfl, ?_⟩; rw [if_neg (by omega), if_neg (by omega)])
    · have c2 := zz_eqT c2
      refine lv_iload_n hx hb dX6_named_11 rfl (lv_at hl 2 rfl) ?_
      refine lv_goto (tgt := 16) hx hb dX6_named_12 (by decide) ?_
      exact zz_iret hx hb hr hlocks hK hP hS dX6_named_16 (by refine ⟨rfl, ?_⟩; rw [if_neg (by omega), if_pos (by omega)])
  · have c1 := zz_eqT c1
    refine lv_iload_n hx hb dX6_named_4 rfl (lv_at hl 1 rfl) ?_
    exact zz_iret hx hb hr hlocks hK hP hS dX6_named_5 (by refine ⟨rfl, ?_⟩; rw [if_pos (by omega)])
set_option maxHeartbeats 4000000 in
set_option maxRecDepth 100000 in
theorem c_X6_joined (l : Launch) (E : zz_E) (σ : zz_S) (sg : Int32) (x1 : Int32) (x2 : Int32) (hsg : sg.toInt = 124 ∨ sg.toInt = 38 ∨ sg.toInt = 60 ∨ sg.toInt = 61 ∨ sg.toInt = 62 ∨ sg.toInt = 43 ∨ sg.toInt = 45 ∨ sg.toInt = 42 ∨ sg.toInt = 47 ∨ sg.toInt = 37) : Met l yX6_joined wzX6_joined ({ frames := 0, cells := 0, slots := 0, locals := 0 }) (va_Pc [.int sg, .int x1, .int x2] (zz_B E σ)) (va_Qi (fun r σ1 => σ1 = σ ∧ (zz_jp sg.toInt x1 x2 r)) (zz_B E) (zz_A E)) 0 0 (zz_A E) := by
  refine zz_met (cc := cX6_joined) (maxL := 3) (ret := (some .int)) (by decide) rfl (Nat.le_of_ble_eq_true rfl) ?_
  intro p e s m args below meth c ls hx hb hr hts hown hlocks hml hK hP hS hl
  have hl : lv_has ls 3 [(0, .int sg), (1, .int x1), (2, .int x2)] := hl
  have hown : s.vm.findClass RX6 = some m.cls := hown
  have k_0 : (0 : Int32).toInt = 0 := by decide +kernel
  have k_1 : (1 : Int32).toInt = 1 := by decide +kernel
  refine lv_iload_n hx hb dX6_joined_0 rfl (lv_at hl 0 rfl) ?_
  by_cases c1 : (sg).toInt = 38
  · refine lv_lookup (off := 97) (tgt := 98) hx hb dX6_joined_1 (by decide) (by rw [c1]; decide) (by decide) ?_
    refine lv_iload_n hx hb dX6_joined_98 rfl (lv_at hl 1 rfl) ?_
    refine lv_if_eq (tgt := 110) hx hb dX6_joined_99 (by decide) (fun c2 => ?_) (fun c2 => ?_)
    · have c2 := zz_eqT c2
      refine lv_iconst (v := 0) hx hb dX6_joined_110 (by decide) ?_
      exact zz_iret hx hb hr hlocks hK hP hS dX6_joined_111 (by exact ⟨rfl, zz_jp_an0 (by omega) (by omega) rfl⟩)
    · have c2 := zz_neT c2
      refine lv_iload_n hx hb dX6_joined_102 rfl (lv_at hl 2 rfl) ?_
      refine lv_if_eq (tgt := 110) hx hb dX6_joined_103 (by decide) (fun c3 => ?_) (fun c3 => ?_)
      · have c3 := zz_eqT c3
        refine lv_iconst (v := 0) hx hb dX6_joined_110 (by decide) ?_
        exact zz_iret hx hb hr hlocks hK hP hS dX6_joined_111 (by exact ⟨rfl, zz_jp_an0 (by omega) (by omega) rfl⟩)
      · have c3 := zz_neT c3
        refine lv_iconst (v := 1) hx hb dX6_joined_106 (by decide) ?_
        refine lv_goto (tgt := 111) hx hb dX6_joined_107 (by decide) ?_
        exact zz_iret hx hb hr hlocks hK hP hS dX6_joined_111 (by exact ⟨rfl, zz_jp_an1 (by omega) (by omega) rfl⟩)
  by_cases c4 : (sg).toInt = 42
  · refine lv_lookup (off := 152) (tgt := 153) hx hb dX6_joined_1 (by decide) (by rw [c4]; decide) (by decide) ?_
    refine lv_iload_n hx hb dX6_joined_153 rfl (lv_at hl 1 rfl) ?_
    refine lv_iload_n hx hb dX6_joined_154 rfl (lv_at hl 2 rfl) ?_
    refine lv_imul hx hb dX6_joined_155 ?_
    refine lv_topi (fun n5 e5 => ?_)
    exact zz_iret hx hb hr hlocks hK hP hS dX6_joined_156 (by exact ⟨rfl, zz_jp_mu (by omega) e5⟩)
  by_cases c6 : (sg).toInt = 43
  · refine lv_lookup (off := 144) (tgt := 145) hx hb dX6_joined_1 (by decide) (by rw [c6]; decide) (by decide) ?_
    refine lv_iload_n hx hb dX6_joined_145 rfl (lv_at hl 1 rfl) ?_
    refine lv_iload_n hx hb dX6_joined_146 rfl (lv_at hl 2 rfl) ?_
    refine lv_iadd hx hb dX6_joined_147 ?_
    refine lv_topi (fun n7 e7 => ?_)
    exact zz_iret hx hb hr hlocks hK hP hS dX6_joined_148 (by exact ⟨rfl, zz_jp_ad (by omega) e7⟩)
  by_cases c8 : (sg).toInt = 45
  · refine lv_lookup (off := 148) (tgt := 149) hx hb dX6_joined_1 (by decide) (by rw [c8]; decide) (by decide) ?_
    refine lv_iload_n hx hb dX6_joined_149 rfl (lv_at hl 1 rfl) ?_
    refine lv_iload_n hx hb dX6_joined_150 rfl (lv_at hl 2 rfl) ?_
    refine lv_isub hx hb dX6_joined_151 ?_
    refine lv_topi (fun n9 e9 => ?_)
    exact zz_iret hx hb hr hlocks hK hP hS dX6_joined_152 (by exact ⟨rfl, zz_jp_su (by omega) e9⟩)
  by_cases c10 : (sg).toInt = 47
  · refine lv_lookup (off := 156) (tgt := 157) hx hb dX6_joined_1 (by decide) (by rw [c10]; decide) (by decide) ?_
    refine lv_iload_n hx hb dX6_joined_157 rfl (lv_at hl 2 rfl) ?_
    refine lv_if_ne (tgt := 165) hx hb dX6_joined_158 (by decide) (fun c11 => ?_) (fun c11 => ?_)
    · have c11 := zz_neT c11
      refine lv_iload_n hx hb dX6_joined_165 rfl (lv_at hl 1 rfl) ?_
      refine lv_iload_n hx hb dX6_joined_166 rfl (lv_at hl 2 rfl) ?_
      refine lv_idiv hx hb dX6_joined_167 (zz_ne0 (by omega)) ?_
      refine lv_topi (fun n12 e12 => ?_)
      exact zz_iret hx hb hr hlocks hK hP hS dX6_joined_168 (by exact ⟨rfl, zz_jp_dv (by omega) (by omega) e12⟩)
    · have c11 := zz_eqT c11
      refine lv_iconst (v := 0) hx hb dX6_joined_161 (by decide) ?_
      refine lv_goto (tgt := 168) hx hb dX6_joined_162 (by decide) ?_
      exact zz_iret hx hb hr hlocks hK hP hS dX6_joined_168 (by exact ⟨rfl, zz_jp_dv0 (by omega) (by omega) rfl⟩)
  by_cases c13 : (sg).toInt = 60
  · refine lv_lookup (off := 111) (tgt := 112) hx hb dX6_joined_1 (by decide) (by rw [c13]; decide) (by decide) ?_
    refine lv_iload_n hx hb dX6_joined_112 rfl (lv_at hl 1 rfl) ?_
    refine lv_iload_n hx hb dX6_joined_113 rfl (lv_at hl 2 rfl) ?_
    refine lv_icmp_ge (tgt := 121) hx hb dX6_joined_114 (by decide) (fun c14 => ?_) (fun c14 => ?_)
    · have c14 := zz_leT c14
      refine lv_iconst (v := 0) hx hb dX6_joined_121 (by decide) ?_
      exact zz_iret hx hb hr hlocks hK hP hS dX6_joined_122 (by exact ⟨rfl, zz_jp_lt0 (by omega) (by omega) rfl⟩)
    · have c14 := zz_nleT c14
      refine lv_iconst (v := 1) hx hb dX6_joined_117 (by decide) ?_
      refine lv_goto (tgt := 122) hx hb dX6_joined_118 (by decide) ?_
      exact zz_iret hx hb hr hlocks hK hP hS dX6_joined_122 (by exact ⟨rfl, zz_jp_lt1 (by omega) (by omega) rfl⟩)
  by_cases c15 : (sg).toInt = 61
  · refine lv_lookup (off := 122) (tgt := 123) hx hb dX6_joined_1 (by decide) (by rw [c15]; decide) (by decide) ?_
    refine lv_iload_n hx hb dX6_joined_123 rfl (lv_at hl 1 rfl) ?_
    refine lv_iload_n hx hb dX6_joined_124 rfl (lv_at hl 2 rfl) ?_
    refine lv_icmp_ne (tgt := 132) hx hb dX6_joined_125 (by decide) (fun c16 => ?_) (fun c16 => ?_)
    · have c16 := zz_neT c16
      refine lv_iconst (v := 0) hx hb dX6_joined_132 (by decide) ?_
      exact zz_iret hx hb hr hlocks hK hP hS dX6_joined_133 (by exact ⟨rfl, zz_jp_eq0 (by omega) (by omega) rfl⟩)
    · have c16 := zz_eqT c16
      refine lv_iconst (v := 1) hx hb dX6_joined_128 (by decide) ?_
      refine lv_goto (tgt := 133) hx hb dX6_joined_129 (by decide) ?_
      exact zz_iret hx hb hr hlocks hK hP hS dX6_joined_133 (by exact ⟨rfl, zz_jp_eq1 (by omega) (by omega) rfl⟩)
  by_cases c17 : (sg).toInt = 62
  · refine lv_lookup (off := 133) (tgt := 134) hx hb dX6_joined_1 (by decide) (by rw [c17]; decide) (by decide) ?_
    refine lv_iload_n hx hb dX6_joined_134 rfl (lv_at hl 1 rfl) ?_
    refine lv_iload_n hx hb dX6_joined_135 rfl (lv_at hl 2 rfl) ?_
    refine lv_icmp_le (tgt := 143) hx hb dX6_joined_136 (by decide) (fun c18 => ?_) (fun c18 => ?_)
    · have c18 := zz_leT c18
      refine lv_iconst (v := 0) hx hb dX6_joined_143 (by decide) ?_
      exact zz_iret hx hb hr hlocks hK hP hS dX6_joined_144 (by exact ⟨rfl, zz_jp_gt0 (by omega) (by omega) rfl⟩)
    · have c18 := zz_nleT c18
      refine lv_iconst (v := 1) hx hb dX6_joined_139 (by decide) ?_
      refine lv_goto (tgt := 144) hx hb dX6_joined_140 (by decide) ?_
      exact zz_iret hx hb hr hlocks hK hP hS dX6_joined_144 (by exact ⟨rfl, zz_jp_gt1 (by omega) (by omega) rfl⟩)
  by_cases c19 : (sg).toInt = 124
  · refine lv_lookup (off := 83) (tgt := 84) hx hb dX6_joined_1 (by decide) (by rw [c19]; decide) (by decide) ?_
    refine lv_iload_n hx hb dX6_joined_84 rfl (lv_at hl 1 rfl) ?_
    refine lv_if_ne (tgt := 92) hx hb dX6_joined_85 (by decide) (fun c20 => ?_) (fun c20 => ?_)
    · have c20 := zz_neT c20
      refine lv_iconst (v := 1) hx hb dX6_joined_92 (by decide) ?_
      refine lv_goto (tgt := 97) hx hb dX6_joined_93 (by decide) ?_
      exact zz_iret hx hb hr hlocks hK hP hS dX6_joined_97 (by exact ⟨rfl, zz_jp_or1 (by omega) (by omega) rfl⟩)
    · have c20 := zz_eqT c20
      refine lv_iload_n hx hb dX6_joined_88 rfl (lv_at hl 2 rfl) ?_
      refine lv_if_eq (tgt := 96) hx hb dX6_joined_89 (by decide) (fun c21 => ?_) (fun c21 => ?_)
      · have c21 := zz_eqT c21
        refine lv_iconst (v := 0) hx hb dX6_joined_96 (by decide) ?_
        exact zz_iret hx hb hr hlocks hK hP hS dX6_joined_97 (by exact ⟨rfl, zz_jp_or0 (by omega) (by omega) rfl⟩)
      · have c21 := zz_neT c21
        refine lv_iconst (v := 1) hx hb dX6_joined_92 (by decide) ?_
        refine lv_goto (tgt := 97) hx hb dX6_joined_93 (by decide) ?_
        exact zz_iret hx hb hr hlocks hK hP hS dX6_joined_97 (by exact ⟨rfl, zz_jp_or1 (by omega) (by omega) rfl⟩)
  refine lv_lookup (off := 168) (tgt := 169) hx hb dX6_joined_1 (by decide) (by rw [Op.lookupswitch.offset_cons, if_neg (by omega)]; rw [Op.lookupswitch.offset_cons, if_neg (by omega)]; rw [Op.lookupswitch.offset_cons, if_neg (by omega)]; rw [Op.lookupswitch.offset_cons, if_neg (by omega)]; rw [Op.lookupswitch.offset_cons, if_neg (by omega)]; rw [Op.lookupswitch.offset_cons, if_neg (by omega)]; rw [Op.lookupswitch.offset_cons, if_neg (by omega)]; rw [Op.lookupswitch.offset_cons, if_neg (by omega)]; rw [Op.lookupswitch.offset_cons, if_neg (by omega)]; rfl) (by decide) ?_
  refine lv_iload_n hx hb dX6_joined_169 rfl (lv_at hl 2 rfl) ?_
  refine lv_if_ne (tgt := 177) hx hb dX6_joined_170 (by decide) (fun c22 => ?_) (fun c22 => ?_)
  · have c22 := zz_neT c22
    refine lv_iload_n hx hb dX6_joined_177 rfl (lv_at hl 1 rfl) ?_
    refine lv_iload_n hx hb dX6_joined_178 rfl (lv_at hl 2 rfl) ?_
    refine lv_irem hx hb dX6_joined_179 (zz_ne0 (by omega)) ?_
    refine lv_topi (fun n23 e23 => ?_)
    exact zz_iret hx hb hr hlocks hK hP hS dX6_joined_180 (by exact ⟨rfl, zz_jp_rm (by omega) (by omega) e23⟩)
  · have c22 := zz_eqT c22
    refine lv_iconst (v := 0) hx hb dX6_joined_173 (by decide) ?_
    refine lv_goto (tgt := 180) hx hb dX6_joined_174 (by decide) ?_
    exact zz_iret hx hb hr hlocks hK hP hS dX6_joined_180 (by exact ⟨rfl, zz_jp_rm0 (by omega) (by omega) rfl⟩)
theorem gX6_value_X6_named : GoodIn wzX6_value (va_wsS RX6 41 yX6_named wzX6_named) := wz_co bm_216 (wz_co bm_217 (wz_co bm_58 (wz_in bm_218)))
theorem gX6_value_X6_joined : GoodIn wzX6_value (va_wsS RX6 45 yX6_joined wzX6_joined) := wz_co bm_219 (wz_co bm_220 (wz_co bm_58 (wz_in bm_221)))
theorem dS7_4 (x0 : Nat) : (x0 + 2) = x0 + 2 := by omega
set_option maxHeartbeats 4000000 in
set_option maxRecDepth 100000 in
theorem c_X6_value (l : Launch) (E : zz_E) (σ : zz_S) (h0 : Nat) (x1 : Int32) (x2 : Int32) (x3 : Int32) (g0 : zz_Tx E h0) (hl1 : 0 ≤ (σ h0 1).toInt ∧ (σ h0 1).toInt ≤ 60) (A9 : Nat → Int) (V9 : Nat → Int) (hcd : ∀ k : Nat, (k : Int) < (σ h0 1).toInt → (σ (h0 + 1) k).toInt = zz_enc (A9 k, V9 k)) (hwI : zz_wI A9 V9 (σ h0 1).toInt) (h19 : 1 ≤ (σ h0 1).toInt) : Met l yX6_value wzX6_value ({ frames := 1, cells := 0, slots := 0, locals := 23 }) (va_Pc [.ref h0, .int x1, .int x2, .int x3] (zz_B E σ)) (va_Qi (fun r σ1 => zz_ch (fun a k => a = h0 + 2) σ σ1 ∧ (zz_rv r A9 V9 (σ h0 1).toInt x1 x2 x3)) (zz_B E) (zz_A E)) 0 0 (zz_A E) := by
  refine zz_met (cc := cX6_value) (maxL := 7) (ret := (some .int)) (by decide) rfl (Nat.le_of_ble_eq_true rfl) ?_
  intro p e s m args below meth c ls hx hb hr hts hown hlocks hml hK hP hS hl
  have hl : lv_has ls 7 [(0, .ref h0), (1, .int x1), (2, .int x2), (3, .int x3)] := hl
  have hown : s.vm.findClass RX6 = some m.cls := hown
  have hi6 : ∀ w ∈ wsX60, w ∈ wzX6_value := fun w h => List.mem_cons_of_mem _ (hbw6 w h)
  have k_m1 : ((-1) : Int32).toInt = -1 := by decide +kernel
  have k_0 : (0 : Int32).toInt = 0 := by decide +kernel
  have k_1 : (1 : Int32).toInt = 1 := by decide +kernel
  have k_2 : (2 : Int32).toInt = 2 := by decide +kernel
  have k_60 : (60 : Int32).toInt = 60 := by decide +kernel
  have k_10000 : (10000 : Int32).toInt = 10000 := by decide +kernel
  have k_20000 : (20000 : Int32).toInt = 20000 := by decide +kernel
  have k_20033 : (20033 : Int32).toInt = 20033 := by decide +kernel
  replace t0 : σ h0 1 = σ h0 1 := rfl
  have hC : zz_ch (fun a k => a = h0 + 2) σ σ := zz_ch.rf σ
  refine lv_iconst (v := 0) hx hb dX6_value_0 (by decide) ?_
  refine lv_istore (lv' := [(4, .int 0), (0, .ref h0), (1, .int x1), (2, .int x2), (3, .int x3)]) hx hb dX6_value_1 hl (by decide) rfl (fun ls hl => ?_)
  refine lv_iconst (v := 0) hx hb dX6_value_3 (by decide) ?_
  refine lv_istore (lv' := [(5, .int 0), (4, .int 0), (0, .ref h0), (1, .int x1), (2, .int x2), (3, .int x3)]) hx hb dX6_value_4 hl (by decide) rfl (fun ls hl => ?_)
  have J6 : ∀ (n : Nat) (top : Int32) (ii : Int32) (σa : zz_S) (H : Heap) (locs : List Loc) (ls : Array Slot), ((60 - ii.toInt).toNat) < n → (zz_ch (fun a k => a = h0 + 2) σ σa) → (0 ≤ top.toInt ∧ top.toInt ≤ 60) → (0 ≤ ii.toInt ∧ ii.toInt ≤ (σ h0 1).toInt) → (zz_pl σa (h0 + 2) top.toInt (zz_run A9 V9 x1 x2 x3 ii.toInt.toNat)) → (σa h0 1 = σ h0 1) → zz_P E σa H → va_S (zz_A E) s.heap H locs → lv_has ls 7 [(5, .int ii), (4, .int top), (0, .ref h0), (1, .int x1), (2, .int x2), (3, .int x3)] → W p l e (headSpec wzX6_value ({ frames := 1, cells := 0, slots := 0, locals := 23 })).room s m args below meth c H locs 0 0 (MQ below (va_Qi (fun r σ1 => zz_ch (fun a k => a = h0 + 2) σ σ1 ∧ (zz_rv r A9 V9 (σ h0 1).toInt x1 x2 x3)) (zz_B E) (zz_A E)) args s 0 0 (zz_A E)) (F0 m 6 ls []) := by
    intro n
    induction n with
    | zero => intro top ii σa H locs ls hm; exact absurd hm (Nat.not_lt_zero _)
    | succ n ih6 =>
      intro top ii σa H locs ls hm hC f6_0 f6_1 f6_2 t0 hP hS hl
      refine lv_iload hx hb dX6_value_6 (lv_at hl 0 rfl) ?_
      refine lv_aload_n hx hb dX6_value_8 rfl (lv_at hl 2 rfl) ?_
      refine zz_geti hx hb hts hi6 hown hK hP (g0.1) rfl 1 (by decide) (hts (.fieldLink RX6 33 "NoonLaw$Text" "length" "I") (List.mem_cons_of_mem _ bm_215)) rfl rfl t0 dX6_value_9 ?_
      refine lv_icmp_ge (tgt := 169) hx hb dX6_value_12 (by decide) (fun c1 => ?_) (fun c1 => ?_)
      · have c1 := zz_leT c1
        have htop := hwI.top x1 x2 x3 (k := ii.toInt.toNat) (by omega) (by omega)
        rw [← f6_2.1] at htop
        refine lv_iload hx hb dX6_value_169 (lv_at hl 1 rfl) ?_
        refine lv_if_le (tgt := 183) hx hb dX6_value_171 (by decide) (fun c2 => ?_) (fun c2 => ?_)
        · have c2 := zz_leT c2
          refine lv_iconst (v := 0) hx hb dX6_value_183 (by decide) ?_
          exact zz_iret hx hb hr hlocks hK hP hS dX6_value_184 (by exfalso; omega)
        · have c2 := zz_nleT c2
          refine lv_aload_n hx hb dX6_value_174 rfl (lv_at hl 2 rfl) ?_
          refine zz_getr hx hb hts hi6 hown hK hP (g0.1) rfl 3 (by decide) (hts (.fieldLink RX6 15 "NoonLaw$Text" "stack" "[I") (List.mem_cons_of_mem _ bm_69)) rfl rfl dX6_value_175 ?_
          refine lv_iconst (v := 0) hx hb dX6_value_178 (by decide) ?_
          refine zz_ialc hx hb hK hP (g0.2.2) 0 (by decide) (by decide) rfl dX6_value_179 ?_
          refine lv_goto (tgt := 184) hx hb dX6_value_180 (by decide) ?_
          exact zz_iret hx hb hr hlocks hK hP hS dX6_value_184 (by exact ⟨hC, f6_2.val (k := ii.toInt.toNat) (by omega) (by omega) rfl⟩)
      · have c1 := zz_nleT c1
        refine lv_aload_n hx hb dX6_value_15 rfl (lv_at hl 2 rfl) ?_
        refine zz_getr hx hb hts hi6 hown hK hP (g0.1) rfl 2 (by decide) (hts (.fieldLink RX6 9 "NoonLaw$Text" "codes" "[I") (List.mem_cons_of_mem _ bm_68)) rfl rfl dX6_value_16 ?_
        refine lv_iload hx hb dX6_value_19 (lv_at hl 0 rfl) ?_
        refine zz_iald hx hb hK hP (g0.2.1) (by omega) (by omega) dX6_value_21 (fun j4 q4 r4 => ?_)
        have hk9 : ((ii.toInt.toNat : Nat) : Int) < (σ h0 1).toInt := by omega
        have hx9 : (σa (h0 + 1) j4).toInt = zz_enc (A9 ii.toInt.toNat, V9 ii.toInt.toNat) := by rw [hC _ _ (by first | (dsimp only; omega) | omega), show j4 = ii.toInt.toNat from by omega]; exact hcd _ hk9
        obtain ⟨hok, hd3, hd2⟩ := hwI.at x1 x2 x3 hk9
        have hen := zz_enc_c hok hx9
        have htp := f6_2.1
        have hle := zz_run_le A9 V9 x1 x2 x3 ii.toInt.toNat
        clear hx9 hok
        revert hd3 hd2 htp hle
        generalize (zz_run A9 V9 x1 x2 x3 ii.toInt.toNat).1 = rh
        intro hd3 hd2 htp hle
        refine lv_istore (lv' := [(6, .int (σa (h0 + 1) j4)), (5, .int ii), (4, .int top), (0, .ref h0), (1, .int x1), (2, .int x2), (3, .int x3)]) hx hb dX6_value_22 hl (by decide) rfl (fun ls hl => ?_)
        refine lv_iload hx hb dX6_value_24 (lv_at hl 0 rfl) ?_
        refine lv_sipush (v := 20000) hx hb dX6_value_26 (by decide) ?_
        refine lv_icmp_ge (tgt := 77) hx hb dX6_value_29 (by decide) (fun c5 => ?_) (fun c5 => ?_)
        · have c5 := zz_leT c5
          refine lv_iload hx hb dX6_value_77 (lv_at hl 0 rfl) ?_
          refine lv_sipush (v := 20033) hx hb dX6_value_79 (by decide) ?_
          refine lv_icmp_ne (tgt := 120) hx hb dX6_value_82 (by decide) (fun c6 => ?_) (fun c6 => ?_)
          · have c6 := zz_neT c6
            refine lv_iload hx hb dX6_value_120 (lv_at hl 2 rfl) ?_
            refine lv_iconst (v := 2) hx hb dX6_value_122 (by decide) ?_
            refine lv_icmp_lt (tgt := 163) hx hb dX6_value_123 (by decide) (fun c7 => ?_) (fun c7 => ?_)
            · have c7 := zz_ltT c7
              obtain ⟨n8, e8⟩ : ∃ y : Int32, y = ii + 1 := ⟨_, rfl⟩
              have f8 : n8.toInt = (ii).toInt + (1) := by have h9 := zz_addT e8 (by omega) (by omega); omega
              refine lv_iinc (v := n8) (lv' := [(5, .int n8), (6, .int (σa (h0 + 1) j4)), (4, .int top), (0, .ref h0), (1, .int x1), (2, .int x2), (3, .int x3)]) hx hb dX6_value_163 hl (k := 1) rfl (by rw [e8]; rfl) (by decide) rfl (fun ls hl => ?_)
              refine lv_goto (tgt := 6) hx hb dX6_value_166 (by decide) ?_
              exact ih6 top n8 σa _ _ _ (by omega) hC (by omega) (by omega) (by exfalso; omega) t0 hP hS (lv_sub hl [0, 2, 3, 4, 5, 6] rfl)
            · have c7 := zz_nltT c7
              obtain ⟨n9, e9⟩ : ∃ y : Int32, y = top + (-1) := ⟨_, rfl⟩
              have f9 : n9.toInt = (top).toInt + (-1) := by have h9 := zz_addT e9 (by omega) (by omega); omega
              refine lv_iinc (v := n9) (lv' := [(4, .int n9), (6, .int (σa (h0 + 1) j4)), (5, .int ii), (0, .ref h0), (1, .int x1), (2, .int x2), (3, .int x3)]) hx hb dX6_value_126 hl (k := 2) rfl (by rw [e9]; rfl) (by decide) rfl (fun ls hl => ?_)
              refine lv_aload_n hx hb dX6_value_129 rfl (lv_at hl 3 rfl) ?_
              refine zz_getr hx hb hts hi6 hown hK hP (g0.1) rfl 3 (by decide) (hts (.fieldLink RX6 15 "NoonLaw$Text" "stack" "[I") (List.mem_cons_of_mem _ bm_69)) rfl rfl dX6_value_130 ?_
              refine lv_iload hx hb dX6_value_133 (lv_at hl 0 rfl) ?_
              refine lv_iconst (v := 1) hx hb dX6_value_135 (by decide) ?_
              refine lv_isub hx hb dX6_value_136 ?_
              refine lv_topi (fun n10 e10 => ?_)
              have f10 : n10.toInt = (n9).toInt - (1 : Int32).toInt := zz_subT e10 (by omega) (by omega)
              refine lv_iload hx hb dX6_value_137 (lv_at hl 1 rfl) ?_
              refine lv_sipush (v := 20000) hx hb dX6_value_139 (by decide) ?_
              refine lv_isub hx hb dX6_value_142 ?_
              refine lv_topi (fun n11 e11 => ?_)
              have f11 : n11.toInt = (σa (h0 + 1) j4).toInt - (20000 : Int32).toInt := zz_subT e11 (by omega) (by omega)
              refine lv_aload_n hx hb dX6_value_143 rfl (lv_at hl 3 rfl) ?_
              refine zz_getr hx hb hts hi6 hown hK hP (g0.1) rfl 3 (by decide) (hts (.fieldLink RX6 15 "NoonLaw$Text" "stack" "[I") (List.mem_cons_of_mem _ bm_69)) rfl rfl dX6_value_144 ?_
              refine lv_iload hx hb dX6_value_147 (lv_at hl 0 rfl) ?_
              refine lv_iconst (v := 1) hx hb dX6_value_149 (by decide) ?_
              refine lv_isub hx hb dX6_value_150 ?_
              refine lv_topi (fun n12 e12 => ?_)
              have f12 : n12.toInt = (n9).toInt - (1 : Int32).toInt := zz_subT e12 (by omega) (by omega)
              refine zz_iald hx hb hK hP (g0.2.2) (by omega) (by omega) dX6_value_151 (fun j13 q13 r13 => ?_)
              refine lv_aload_n hx hb dX6_value_152 rfl (lv_at hl 3 rfl) ?_
              refine zz_getr hx hb hts hi6 hown hK hP (g0.1) rfl 3 (by decide) (hts (.fieldLink RX6 15 "NoonLaw$Text" "stack" "[I") (List.mem_cons_of_mem _ bm_69)) rfl rfl dX6_value_153 ?_
              refine lv_iload hx hb dX6_value_156 (lv_at hl 0 rfl) ?_
              refine zz_iald hx hb hK hP (g0.2.2) (by omega) (by omega) dX6_value_158 (fun j14 q14 r14 => ?_)
              skip
              refine zz_callSp (As := [.int n11, .int (σa (h0 + 2) j13), .int (σa (h0 + 2) j14)]) (rest := [.int n10, .ref (h0 + 2)]) ⟨hx, hb, hml, hown, hts⟩ hK hP hS (c_X6_joined l E σa n11 (σa (h0 + 2) j13) (σa (h0 + 2) j14) (by omega)) (va_cwS 3 hts gX6_value_X6_joined rfl rfl rfl (by decide +kernel) ⟨Nat.le_of_ble_eq_true rfl, Nat.le_of_ble_eq_true rfl⟩) rfl hl.1 rfl (Nat.le_of_ble_eq_true rfl) dX6_value_159 ⟨Nat.zero_le _, Nat.zero_le _⟩ (fun r15 H locs f15 hP1 hS1 => ?_)
              replace hP := hP1
              replace hS := hS1
              clear hP1 hS1
              refine zz_iast hx hb hK hP hS (g0.2.2) (by omega) (by omega) dX6_value_162 (fun j16 σ16 H locs q16 r16 w16 hP1 hS1 => ?_)
              replace hP := hP1
              replace hS := hS1
              clear hP1 hS1
              replace hC := hC.u w16 (dS7_4 h0)
              replace t0 : σ16 h0 1 = σ h0 1 := (zz_w (b := h0) (j := 1) w16 (fun q9 => zz_na (a := h0) (i := 0) (j := 2) (by decide) q9.1)).trans t0
              obtain ⟨n17, e17⟩ : ∃ y : Int32, y = ii + 1 := ⟨_, rfl⟩
              have f17 : n17.toInt = (ii).toInt + (1) := by have h9 := zz_addT e17 (by omega) (by omega); omega
              refine lv_iinc (v := n17) (lv' := [(5, .int n17), (4, .int n9), (6, .int (σa (h0 + 1) j4)), (0, .ref h0), (1, .int x1), (2, .int x2), (3, .int x3)]) hx hb dX6_value_163 hl (k := 2) rfl (by rw [e17]; rfl) (by decide) rfl (fun ls hl => ?_)
              refine lv_goto (tgt := 6) hx hb dX6_value_166 (by decide) ?_
              exact ih6 n9 n17 σ16 _ _ _ (by omega) hC (by omega) (by omega) (by rw [show n17.toInt.toNat = ii.toInt.toNat + 1 from by omega]; exact f6_2.bin w16 (by omega) (by omega : (j14 : Int) = _) (by omega) (by omega) (by omega) (by omega) (by rw [show A9 ii.toInt.toNat = n11.toInt from by omega, show j16 = j13 from by omega]; exact f15)) t0 hP hS (lv_sub hl [0, 1, 3, 4, 5, 6] rfl)
          · have c6 := zz_eqT c6
            refine lv_iload hx hb dX6_value_85 (lv_at hl 2 rfl) ?_
            refine lv_iconst (v := 1) hx hb dX6_value_87 (by decide) ?_
            refine lv_icmp_lt (tgt := 163) hx hb dX6_value_88 (by decide) (fun c18 => ?_) (fun c18 => ?_)
            · have c18 := zz_ltT c18
              obtain ⟨n19, e19⟩ : ∃ y : Int32, y = ii + 1 := ⟨_, rfl⟩
              have f19 : n19.toInt = (ii).toInt + (1) := by have h9 := zz_addT e19 (by omega) (by omega); omega
              refine lv_iinc (v := n19) (lv' := [(5, .int n19), (6, .int (σa (h0 + 1) j4)), (4, .int top), (0, .ref h0), (1, .int x1), (2, .int x2), (3, .int x3)]) hx hb dX6_value_163 hl (k := 1) rfl (by rw [e19]; rfl) (by decide) rfl (fun ls hl => ?_)
              refine lv_goto (tgt := 6) hx hb dX6_value_166 (by decide) ?_
              exact ih6 top n19 σa _ _ _ (by omega) hC (by omega) (by omega) (by exfalso; omega) t0 hP hS (lv_sub hl [0, 2, 3, 4, 5, 6] rfl)
            · have c18 := zz_nltT c18
              refine lv_aload_n hx hb dX6_value_91 rfl (lv_at hl 3 rfl) ?_
              refine zz_getr hx hb hts hi6 hown hK hP (g0.1) rfl 3 (by decide) (hts (.fieldLink RX6 15 "NoonLaw$Text" "stack" "[I") (List.mem_cons_of_mem _ bm_69)) rfl rfl dX6_value_92 ?_
              refine lv_iload hx hb dX6_value_95 (lv_at hl 2 rfl) ?_
              refine lv_iconst (v := 1) hx hb dX6_value_97 (by decide) ?_
              refine lv_isub hx hb dX6_value_98 ?_
              refine lv_topi (fun n20 e20 => ?_)
              have f20 : n20.toInt = (top).toInt - (1 : Int32).toInt := zz_subT e20 (by omega) (by omega)
              refine lv_aload_n hx hb dX6_value_99 rfl (lv_at hl 3 rfl) ?_
              refine zz_getr hx hb hts hi6 hown hK hP (g0.1) rfl 3 (by decide) (hts (.fieldLink RX6 15 "NoonLaw$Text" "stack" "[I") (List.mem_cons_of_mem _ bm_69)) rfl rfl dX6_value_100 ?_
              refine lv_iload hx hb dX6_value_103 (lv_at hl 2 rfl) ?_
              refine lv_iconst (v := 1) hx hb dX6_value_105 (by decide) ?_
              refine lv_isub hx hb dX6_value_106 ?_
              refine lv_topi (fun n21 e21 => ?_)
              have f21 : n21.toInt = (top).toInt - (1 : Int32).toInt := zz_subT e21 (by omega) (by omega)
              refine zz_iald hx hb hK hP (g0.2.2) (by omega) (by omega) dX6_value_107 (fun j22 q22 r22 => ?_)
              skip
              refine lv_if_ne (tgt := 115) hx hb dX6_value_108 (by decide) (fun c23 => ?_) (fun c23 => ?_)
              · have c23 := zz_neT c23
                refine lv_iconst (v := 0) hx hb dX6_value_115 (by decide) ?_
                refine zz_iast hx hb hK hP hS (g0.2.2) (by omega) (by omega) dX6_value_116 (fun j24 σ24 H locs q24 r24 w24 hP1 hS1 => ?_)
                replace hP := hP1
                replace hS := hS1
                clear hP1 hS1
                replace hC := hC.u w24 (dS7_4 h0)
                replace t0 : σ24 h0 1 = σ h0 1 := (zz_w (b := h0) (j := 1) w24 (fun q9 => zz_na (a := h0) (i := 0) (j := 2) (by decide) q9.1)).trans t0
                refine lv_goto (tgt := 163) hx hb dX6_value_117 (by decide) ?_
                obtain ⟨n25, e25⟩ : ∃ y : Int32, y = ii + 1 := ⟨_, rfl⟩
                have f25 : n25.toInt = (ii).toInt + (1) := by have h9 := zz_addT e25 (by omega) (by omega); omega
                refine lv_iinc (v := n25) (lv' := [(5, .int n25), (6, .int (σa (h0 + 1) j4)), (4, .int top), (0, .ref h0), (1, .int x1), (2, .int x2), (3, .int x3)]) hx hb dX6_value_163 hl (k := 1) rfl (by rw [e25]; rfl) (by decide) rfl (fun ls hl => ?_)
                refine lv_goto (tgt := 6) hx hb dX6_value_166 (by decide) ?_
                exact ih6 top n25 σ24 _ _ _ (by omega) hC (by omega) (by omega) (by rw [show n25.toInt.toNat = ii.toInt.toNat + 1 from by omega]; exact f6_2.deny w24 (by omega) (by omega) (by omega) (Or.inr ⟨by rw [show j24 = j22 from by omega]; omega, rfl⟩)) t0 hP hS (lv_sub hl [0, 2, 3, 4, 5, 6] rfl)
              · have c23 := zz_eqT c23
                refine lv_iconst (v := 1) hx hb dX6_value_111 (by decide) ?_
                refine lv_goto (tgt := 116) hx hb dX6_value_112 (by decide) ?_
                refine zz_iast hx hb hK hP hS (g0.2.2) (by omega) (by omega) dX6_value_116 (fun j26 σ26 H locs q26 r26 w26 hP1 hS1 => ?_)
                replace hP := hP1
                replace hS := hS1
                clear hP1 hS1
                replace hC := hC.u w26 (dS7_4 h0)
                replace t0 : σ26 h0 1 = σ h0 1 := (zz_w (b := h0) (j := 1) w26 (fun q9 => zz_na (a := h0) (i := 0) (j := 2) (by decide) q9.1)).trans t0
                refine lv_goto (tgt := 163) hx hb dX6_value_117 (by decide) ?_
                obtain ⟨n27, e27⟩ : ∃ y : Int32, y = ii + 1 := ⟨_, rfl⟩
                have f27 : n27.toInt = (ii).toInt + (1) := by have h9 := zz_addT e27 (by omega) (by omega); omega
                refine lv_iinc (v := n27) (lv' := [(5, .int n27), (6, .int (σa (h0 + 1) j4)), (4, .int top), (0, .ref h0), (1, .int x1), (2, .int x2), (3, .int x3)]) hx hb dX6_value_163 hl (k := 1) rfl (by rw [e27]; rfl) (by decide) rfl (fun ls hl => ?_)
                refine lv_goto (tgt := 6) hx hb dX6_value_166 (by decide) ?_
                exact ih6 top n27 σ26 _ _ _ (by omega) hC (by omega) (by omega) (by rw [show n27.toInt.toNat = ii.toInt.toNat + 1 from by omega]; exact f6_2.deny w26 (by omega) (by omega) (by omega) (Or.inl ⟨by rw [show j26 = j22 from by omega]; omega, rfl⟩)) t0 hP hS (lv_sub hl [0, 2, 3, 4, 5, 6] rfl)
        · have c5 := zz_nleT c5
          refine lv_iload hx hb dX6_value_32 (lv_at hl 2 rfl) ?_
          refine lv_bipush (v := 60) hx hb dX6_value_34 (by decide) ?_
          refine lv_icmp_ge (tgt := 163) hx hb dX6_value_36 (by decide) (fun c28 => ?_) (fun c28 => ?_)
          · have c28 := zz_leT c28
            obtain ⟨n29, e29⟩ : ∃ y : Int32, y = ii + 1 := ⟨_, rfl⟩
            have f29 : n29.toInt = (ii).toInt + (1) := by have h9 := zz_addT e29 (by omega) (by omega); omega
            refine lv_iinc (v := n29) (lv' := [(5, .int n29), (6, .int (σa (h0 + 1) j4)), (4, .int top), (0, .ref h0), (1, .int x1), (2, .int x2), (3, .int x3)]) hx hb dX6_value_163 hl (k := 1) rfl (by rw [e29]; rfl) (by decide) rfl (fun ls hl => ?_)
            refine lv_goto (tgt := 6) hx hb dX6_value_166 (by decide) ?_
            exact ih6 top n29 σa _ _ _ (by omega) hC (by omega) (by omega) (by exfalso; omega) t0 hP hS (lv_sub hl [0, 2, 3, 4, 5, 6] rfl)
          · have c28 := zz_nleT c28
            refine lv_aload_n hx hb dX6_value_39 rfl (lv_at hl 3 rfl) ?_
            refine zz_getr hx hb hts hi6 hown hK hP (g0.1) rfl 3 (by decide) (hts (.fieldLink RX6 15 "NoonLaw$Text" "stack" "[I") (List.mem_cons_of_mem _ bm_69)) rfl rfl dX6_value_40 ?_
            refine lv_iload hx hb dX6_value_43 (lv_at hl 2 rfl) ?_
            refine lv_iload hx hb dX6_value_45 (lv_at hl 0 rfl) ?_
            refine lv_sipush (v := 10000) hx hb dX6_value_47 (by decide) ?_
            refine lv_icmp_ge (tgt := 58) hx hb dX6_value_50 (by decide) (fun c30 => ?_) (fun c30 => ?_)
            · have c30 := zz_leT c30
              skip
              refine lv_iload hx hb dX6_value_58 (lv_at hl 0 rfl) ?_
              refine lv_sipush (v := 10000) hx hb dX6_value_60 (by decide) ?_
              refine lv_isub hx hb dX6_value_63 ?_
              refine lv_topi (fun n31 e31 => ?_)
              have f31 : n31.toInt = (σa (h0 + 1) j4).toInt - (10000 : Int32).toInt := zz_subT e31 (by omega) (by omega)
              refine lv_iload_n hx hb dX6_value_64 rfl (lv_at hl 4 rfl) ?_
              refine lv_iload_n hx hb dX6_value_65 rfl (lv_at hl 5 rfl) ?_
              refine lv_iload_n hx hb dX6_value_66 rfl (lv_at hl 6 rfl) ?_
              refine zz_callSp (As := [.int n31, .int x1, .int x2, .int x3]) (rest := [.int top, .ref (h0 + 2)]) ⟨hx, hb, hml, hown, hts⟩ hK hP hS (c_X6_named l E σa n31 x1 x2 x3) (va_cwS 4 hts gX6_value_X6_named rfl rfl rfl (by decide +kernel) ⟨Nat.le_of_ble_eq_true rfl, Nat.le_of_ble_eq_true rfl⟩) rfl hl.1 rfl (Nat.le_of_ble_eq_true rfl) dX6_value_67 ⟨Nat.zero_le _, Nat.zero_le _⟩ (fun r32 H locs f32 hP1 hS1 => ?_)
              replace hP := hP1
              replace hS := hS1
              clear hP1 hS1
              refine zz_iast hx hb hK hP hS (g0.2.2) (by omega) (by omega) dX6_value_70 (fun j33 σ33 H locs q33 r33 w33 hP1 hS1 => ?_)
              replace hP := hP1
              replace hS := hS1
              clear hP1 hS1
              replace hC := hC.u w33 (dS7_4 h0)
              replace t0 : σ33 h0 1 = σ h0 1 := (zz_w (b := h0) (j := 1) w33 (fun q9 => zz_na (a := h0) (i := 0) (j := 2) (by decide) q9.1)).trans t0
              obtain ⟨n34, e34⟩ : ∃ y : Int32, y = top + 1 := ⟨_, rfl⟩
              have f34 : n34.toInt = (top).toInt + (1) := by have h9 := zz_addT e34 (by omega) (by omega); omega
              refine lv_iinc (v := n34) (lv' := [(4, .int n34), (6, .int (σa (h0 + 1) j4)), (5, .int ii), (0, .ref h0), (1, .int x1), (2, .int x2), (3, .int x3)]) hx hb dX6_value_71 hl (k := 2) rfl (by rw [e34]; rfl) (by decide) rfl (fun ls hl => ?_)
              refine lv_goto (tgt := 163) hx hb dX6_value_74 (by decide) ?_
              obtain ⟨n35, e35⟩ : ∃ y : Int32, y = ii + 1 := ⟨_, rfl⟩
              have f35 : n35.toInt = (ii).toInt + (1) := by have h9 := zz_addT e35 (by omega) (by omega); omega
              refine lv_iinc (v := n35) (lv' := [(5, .int n35), (4, .int n34), (6, .int (σa (h0 + 1) j4)), (0, .ref h0), (1, .int x1), (2, .int x2), (3, .int x3)]) hx hb dX6_value_163 hl (k := 2) rfl (by rw [e35]; rfl) (by decide) rfl (fun ls hl => ?_)
              refine lv_goto (tgt := 6) hx hb dX6_value_166 (by decide) ?_
              exact ih6 n34 n35 σ33 _ _ _ (by omega) hC (by omega) (by omega) (by rw [show n35.toInt.toNat = ii.toInt.toNat + 1 from by omega]; exact f6_2.push w33 (by omega) (by omega) (by omega) (zz_pv_2 (by omega) (by omega) f32)) t0 hP hS (lv_sub hl [0, 1, 3, 4, 5, 6] rfl)
            · have c30 := zz_nleT c30
              skip
              refine lv_iload hx hb dX6_value_53 (lv_at hl 0 rfl) ?_
              refine lv_goto (tgt := 70) hx hb dX6_value_55 (by decide) ?_
              refine zz_iast hx hb hK hP hS (g0.2.2) (by omega) (by omega) dX6_value_70 (fun j36 σ36 H locs q36 r36 w36 hP1 hS1 => ?_)
              replace hP := hP1
              replace hS := hS1
              clear hP1 hS1
              replace hC := hC.u w36 (dS7_4 h0)
              replace t0 : σ36 h0 1 = σ h0 1 := (zz_w (b := h0) (j := 1) w36 (fun q9 => zz_na (a := h0) (i := 0) (j := 2) (by decide) q9.1)).trans t0
              obtain ⟨n37, e37⟩ : ∃ y : Int32, y = top + 1 := ⟨_, rfl⟩
              have f37 : n37.toInt = (top).toInt + (1) := by have h9 := zz_addT e37 (by omega) (by omega); omega
              refine lv_iinc (v := n37) (lv' := [(4, .int n37), (6, .int (σa (h0 + 1) j4)), (5, .int ii), (0, .ref h0), (1, .int x1), (2, .int x2), (3, .int x3)]) hx hb dX6_value_71 hl (k := 2) rfl (by rw [e37]; rfl) (by decide) rfl (fun ls hl => ?_)
              refine lv_goto (tgt := 163) hx hb dX6_value_74 (by decide) ?_
              obtain ⟨n38, e38⟩ : ∃ y : Int32, y = ii + 1 := ⟨_, rfl⟩
              have f38 : n38.toInt = (ii).toInt + (1) := by have h9 := zz_addT e38 (by omega) (by omega); omega
              refine lv_iinc (v := n38) (lv' := [(5, .int n38), (4, .int n37), (6, .int (σa (h0 + 1) j4)), (0, .ref h0), (1, .int x1), (2, .int x2), (3, .int x3)]) hx hb dX6_value_163 hl (k := 2) rfl (by rw [e38]; rfl) (by decide) rfl (fun ls hl => ?_)
              refine lv_goto (tgt := 6) hx hb dX6_value_166 (by decide) ?_
              exact ih6 n37 n38 σ36 _ _ _ (by omega) hC (by omega) (by omega) (by rw [show n38.toInt.toNat = ii.toInt.toNat + 1 from by omega]; exact f6_2.push w36 (by omega) (by omega) (by omega) (zz_pv_1 (by omega) (by omega))) t0 hP hS (lv_sub hl [0, 1, 3, 4, 5, 6] rfl)
  exact J6 _ 0 0 σ _ _ _ (Nat.lt_succ_self _) hC (by omega) (by omega) (by exact zz_pl.start (by omega) k_0) t0 hP hS (lv_sub hl [0, 1, 2, 3, 4, 5] rfl)
set_option maxHeartbeats 4000000 in
set_option maxRecDepth 100000 in
theorem c_X2_held (l : Launch) (E : zz_E) (σ : zz_S) (v : Int32) (lo : Int32) (hi : Int32) (hlh : lo.toInt ≤ hi.toInt) : Met l yX2_held wzX2_held ({ frames := 1, cells := 0, slots := 0, locals := 21 }) (va_Pc [.int v, .int lo, .int hi] (zz_B E σ)) (va_Qi (fun r σ1 => σ1 = σ ∧ (r.toInt = zz_cl v.toInt lo.toInt hi.toInt)) (zz_B E) (zz_A E)) 0 0 (zz_A E) := by
  refine zz_met (cc := cX2_held) (maxL := 3) (ret := (some .int)) (by decide) rfl (Nat.le_of_ble_eq_true rfl) ?_
  intro p e s m args below meth c ls hx hb hr hts hown hlocks hml hK hP hS hl
  have hl : lv_has ls 3 [(0, .int v), (1, .int lo), (2, .int hi)] := hl
  have hown : s.vm.findClass RX2 = some m.cls := hown
  refine lv_iload_n hx hb dX2_held_0 rfl (lv_at hl 1 rfl) ?_
  refine lv_iload_n hx hb dX2_held_1 rfl (lv_at hl 2 rfl) ?_
  refine lv_iload_n hx hb dX2_held_2 rfl (lv_at hl 0 rfl) ?_
  refine va_mmin hx hb (hml.trans hl.1.symm) hown (hts (.methodLink RX2 119 Lib.Math.min.name) (List.mem_cons_of_mem _ bm_225)) (hts (.static Lib.Math.min.name) (List.mem_cons_of_mem _ bm_226)) (hts (.initialized "java/lang/Math") (List.mem_cons_of_mem _ bm_227)) (hts (.code Lib.Math.min.name Lib.Math.min.code 2 (some .int)) (List.mem_cons_of_mem _ bm_228)) (Nat.le_of_ble_eq_true rfl) (Nat.le_of_ble_eq_true rfl) (Nat.zero_le _) (Nat.zero_le _) dX2_held_3 ?_
  refine lv_topi (fun n1 e1 => ?_)
  have f1 := zz_minT e1
  refine va_mmax hx hb (hml.trans hl.1.symm) hown (hts (.methodLink RX2 125 Lib.Math.max.name) (List.mem_cons_of_mem _ bm_229)) (hts (.static Lib.Math.max.name) (List.mem_cons_of_mem _ bm_230)) (hts (.initialized "java/lang/Math") (List.mem_cons_of_mem _ bm_227)) (hts (.code Lib.Math.max.name Lib.Math.max.code 2 (some .int)) (List.mem_cons_of_mem _ bm_231)) (Nat.le_of_ble_eq_true rfl) (Nat.le_of_ble_eq_true rfl) (Nat.zero_le _) (Nat.zero_le _) dX2_held_6 ?_
  refine lv_topi (fun n2 e2 => ?_)
  have f2 := zz_maxT e2
  exact zz_iret hx hb hr hlocks hK hP hS dX2_held_9 (by exact ⟨rfl, zz_cl_of hlh (by omega)⟩)
theorem gX2_gives_X6_value : GoodIn wzX2_gives (wsV RX2 112 RX6 yX6_value wzX6_value) := wz_co bm_211 (wz_co bm_212 (wz_co bm_213 (wz_co bm_58 (wz_in bm_214))))
theorem gX2_gives_X2_held : GoodIn wzX2_gives (va_wsS RX2 116 yX2_held wzX2_held) := wz_co bm_222 (wz_co bm_223 (wz_co bm_15 (wz_in bm_224)))
set_option maxHeartbeats 4000000 in
set_option maxRecDepth 100000 in
theorem c_X2_gives (l : Launch) (E : zz_E) (σ : zz_S) (h0 : Nat) (use : Int32) (x1 : Int32) (x2 : Int32) (x3 : Int32) (g0 : zz_R E h0) (hu : 0 ≤ use.toInt ∧ use.toInt ≤ 1) (ht : ∀ j : Nat, j < 2 → 0 ≤ (σ (h0 + 21 + 3 * j) 1).toInt ∧ (σ (h0 + 21 + 3 * j) 1).toInt ≤ 60) (K : zy_W) (hW : zy_XW σ h0 K) : Met l yX2_gives wzX2_gives ({ frames := 2, cells := 0, slots := 0, locals := 49 }) (va_Pc [.ref h0, .int use, .int x1, .int x2, .int x3] (zz_B E σ)) (va_Qi (fun r σ1 => zz_ch (fun a k => a = h0 + 23 ∨ a = h0 + 26) σ σ1 ∧ (zy_gC r.toInt use.toInt K.1 x1 x2 x3)) (zz_B E) (zz_A E)) 0 0 (zz_A E) := by
  refine zz_met (cc := cX2_gives) (maxL := 6) (ret := (some .int)) (by decide) rfl (Nat.le_of_ble_eq_true rfl) ?_
  intro p e s m args below meth c ls hx hb hr hts hown hlocks hml hK hP hS hl
  have hl : lv_has ls 6 [(0, .ref h0), (1, .int use), (2, .int x1), (3, .int x2), (4, .int x3)] := hl
  have hown : s.vm.findClass RX2 = some m.cls := hown
  have hi2 : ∀ w ∈ wsX20, w ∈ wzX2_gives := fun w h => List.mem_cons_of_mem _ (hbw2 w h)
  have hi6 : ∀ w ∈ wsX60, w ∈ wzX2_gives := fun w h => List.mem_cons_of_mem _ (hbw6 w h)
  have k_m99 : ((-99) : Int32).toInt = -99 := by decide +kernel
  have k_0 : (0 : Int32).toInt = 0 := by decide +kernel
  have k_99 : (99 : Int32).toInt = 99 := by decide +kernel
  have hC : zz_ch (fun a k => a = h0 + 23 ∨ a = h0 + 26) σ σ := zz_ch.rf σ
  refine lv_aload_n hx hb dX2_gives_0 rfl (lv_at hl 0 rfl) ?_
  refine zz_getr hx hb hts hi2 hown hK hP (g0.1) rfl 7 (by decide) (hts (.fieldLink RX2 32 "NoonLaw$Realm" "texts" "[LNoonLaw$Text;") (List.mem_cons_of_mem _ bm_49)) rfl rfl dX2_gives_1 ?_
  refine lv_iload_n hx hb dX2_gives_4 rfl (lv_at hl 1 rfl) ?_
  refine zz_aald hx hb hK hP (g0.2.2.2.1) rfl (by omega) (by omega) dX2_gives_5 (fun j1 q1 r1 => ?_)
  refine lv_astore (lv' := [(5, .ref (h0 + 21 + 3 * j1)), (0, .ref h0), (1, .int use), (2, .int x1), (3, .int x2), (4, .int x3)]) hx hb dX2_gives_6 hl (by decide) rfl (fun ls hl => ?_)
  refine lv_iload_n hx hb dX2_gives_8 rfl (lv_at hl 2 rfl) ?_
  refine lv_if_ne (tgt := 40) hx hb dX2_gives_9 (by decide) (fun c2 => ?_) (fun c2 => ?_)
  · have c2 := zz_neT c2
    refine lv_aload hx hb dX2_gives_40 (lv_at hl 0 rfl) ?_
    refine zz_geti hx hb hts hi6 hown hK hP ((g0.2.2.2.2.2.2.2.2 j1 r1).1) rfl 0 (by decide) (hts (.fieldLink RX2 72 "NoonLaw$Text" "stands" "Z") (List.mem_cons_of_mem _ bm_210)) rfl rfl rfl dX2_gives_42 ?_
    skip
    refine lv_if_eq (tgt := 67) hx hb dX2_gives_45 (by decide) (fun c3 => ?_) (fun c3 => ?_)
    · have c3 := zz_eqT c3
      refine lv_iload_n hx hb dX2_gives_67 rfl (lv_at hl 4 rfl) ?_
      exact zz_iret hx hb hr hlocks hK hP hS dX2_gives_68 (by exact ⟨hC, zy_gC.n1 (by omega) (by omega : j1 = 1) (hW.2.2.2.1.none r1 (by omega)) rfl⟩)
    · have c3 := zz_neT c3
      refine lv_aload hx hb dX2_gives_48 (lv_at hl 0 rfl) ?_
      refine lv_iload_n hx hb dX2_gives_50 rfl (lv_at hl 3 rfl) ?_
      refine lv_iload_n hx hb dX2_gives_51 rfl (lv_at hl 4 rfl) ?_
      refine lv_iload hx hb dX2_gives_52 (lv_at hl 5 rfl) ?_
      obtain ⟨y1, y2, y3, y4⟩ := hW.2.2.2.1.go hW.2.2.2.2.1 r1 (by omega)
      refine zz_callVi (As := [.int x1, .int x2, .int x3]) (rest := []) ⟨hx, hb, hml, hown, hts⟩ hK hP hS (c_X6_value l E σ (h0 + 21 + 3 * j1) x1 x2 x3 (g0.2.2.2.2.2.2.2.2 j1 r1) (by exact ht j1 r1) (K.1 j1).2.1 (K.1 j1).2.2 (by exact y3) (by exact y4) (by exact y2)) (cwV 3 hts gX2_gives_X6_value rfl rfl rfl (by decide +kernel) ⟨Nat.le_of_ble_eq_true rfl, Nat.le_of_ble_eq_true rfl⟩) ((g0.2.2.2.2.2.2.2.2 j1 r1).1) rfl rfl hl.1 rfl (Nat.le_of_ble_eq_true rfl) dX2_gives_54 ⟨Nat.zero_le _, Nat.zero_le _⟩ (fun r4 σ4 H locs q4 hP1 hS1 => ?_)
      replace hP := hP1
      replace hS := hS1
      clear hP1 hS1
      try dsimp only at q4
      obtain ⟨w4, f4⟩ := q4
      replace hC := hC.tr (w4.mono (by intro a k h; first | (dsimp only at h ⊢; omega) | omega | (dsimp only at h; omega) | (dsimp only; omega)))
      refine lv_bipush (v := (-99)) hx hb dX2_gives_57 (by decide) ?_
      refine lv_bipush (v := 99) hx hb dX2_gives_59 (by decide) ?_
      refine zz_callSp (As := [.int r4, .int (-99), .int 99]) (rest := []) ⟨hx, hb, hml, hown, hts⟩ hK hP hS (c_X2_held l E σ4 r4 (-99) 99 (by omega)) (va_cwS 3 hts gX2_gives_X2_held rfl rfl rfl (by decide +kernel) ⟨Nat.le_of_ble_eq_true rfl, Nat.le_of_ble_eq_true rfl⟩) rfl hl.1 rfl (Nat.le_of_ble_eq_true rfl) dX2_gives_61 ⟨Nat.zero_le _, Nat.zero_le _⟩ (fun r5 H locs f5 hP1 hS1 => ?_)
      replace hP := hP1
      replace hS := hS1
      clear hP1 hS1
      refine lv_goto (tgt := 68) hx hb dX2_gives_64 (by decide) ?_
      exact zz_iret hx hb hr hlocks hK hP hS dX2_gives_68 (by exact ⟨hC, zy_gC.t1 (by omega) (by omega : j1 = 1) y1 y2 f4 (by rw [f5, k_m99, k_99])⟩)
  · have c2 := zz_eqT c2
    refine lv_aload hx hb dX2_gives_12 (lv_at hl 0 rfl) ?_
    refine zz_geti hx hb hts hi6 hown hK hP ((g0.2.2.2.2.2.2.2.2 j1 r1).1) rfl 0 (by decide) (hts (.fieldLink RX2 72 "NoonLaw$Text" "stands" "Z") (List.mem_cons_of_mem _ bm_210)) rfl rfl rfl dX2_gives_14 ?_
    skip
    refine lv_if_eq (tgt := 32) hx hb dX2_gives_17 (by decide) (fun c6 => ?_) (fun c6 => ?_)
    · have c6 := zz_eqT c6
      refine lv_iload_n hx hb dX2_gives_32 rfl (lv_at hl 3 rfl) ?_
      refine lv_iconst (v := 0) hx hb dX2_gives_33 (by decide) ?_
      refine lv_bipush (v := 99) hx hb dX2_gives_34 (by decide) ?_
      refine zz_callSp (As := [.int x1, .int 0, .int 99]) (rest := []) ⟨hx, hb, hml, hown, hts⟩ hK hP hS (c_X2_held l E σ x1 0 99 (by omega)) (va_cwS 3 hts gX2_gives_X2_held rfl rfl rfl (by decide +kernel) ⟨Nat.le_of_ble_eq_true rfl, Nat.le_of_ble_eq_true rfl⟩) rfl hl.1 rfl (Nat.le_of_ble_eq_true rfl) dX2_gives_36 ⟨Nat.zero_le _, Nat.zero_le _⟩ (fun r7 H locs f7 hP1 hS1 => ?_)
      replace hP := hP1
      replace hS := hS1
      clear hP1 hS1
      exact zz_iret hx hb hr hlocks hK hP hS dX2_gives_39 (by exact ⟨hC, zy_gC.n0 (by omega) (by omega : j1 = 0) (hW.2.2.2.1.none r1 (by omega)) (by rw [f7, k_0, k_99])⟩)
    · have c6 := zz_neT c6
      refine lv_aload hx hb dX2_gives_20 (lv_at hl 0 rfl) ?_
      refine lv_iload_n hx hb dX2_gives_22 rfl (lv_at hl 3 rfl) ?_
      refine lv_iload_n hx hb dX2_gives_23 rfl (lv_at hl 4 rfl) ?_
      refine lv_iload hx hb dX2_gives_24 (lv_at hl 5 rfl) ?_
      obtain ⟨y1, y2, y3, y4⟩ := hW.2.2.2.1.go hW.2.2.2.2.1 r1 (by omega)
      refine zz_callVi (As := [.int x1, .int x2, .int x3]) (rest := []) ⟨hx, hb, hml, hown, hts⟩ hK hP hS (c_X6_value l E σ (h0 + 21 + 3 * j1) x1 x2 x3 (g0.2.2.2.2.2.2.2.2 j1 r1) (by exact ht j1 r1) (K.1 j1).2.1 (K.1 j1).2.2 (by exact y3) (by exact y4) (by exact y2)) (cwV 3 hts gX2_gives_X6_value rfl rfl rfl (by decide +kernel) ⟨Nat.le_of_ble_eq_true rfl, Nat.le_of_ble_eq_true rfl⟩) ((g0.2.2.2.2.2.2.2.2 j1 r1).1) rfl rfl hl.1 rfl (Nat.le_of_ble_eq_true rfl) dX2_gives_26 ⟨Nat.zero_le _, Nat.zero_le _⟩ (fun r8 σ8 H locs q8 hP1 hS1 => ?_)
      replace hP := hP1
      replace hS := hS1
      clear hP1 hS1
      try dsimp only at q8
      obtain ⟨w8, f8⟩ := q8
      replace hC := hC.tr (w8.mono (by intro a k h; first | (dsimp only at h ⊢; omega) | omega | (dsimp only at h; omega) | (dsimp only; omega)))
      refine lv_goto (tgt := 33) hx hb dX2_gives_29 (by decide) ?_
      refine lv_iconst (v := 0) hx hb dX2_gives_33 (by decide) ?_
      refine lv_bipush (v := 99) hx hb dX2_gives_34 (by decide) ?_
      refine zz_callSp (As := [.int r8, .int 0, .int 99]) (rest := []) ⟨hx, hb, hml, hown, hts⟩ hK hP hS (c_X2_held l E σ8 r8 0 99 (by omega)) (va_cwS 3 hts gX2_gives_X2_held rfl rfl rfl (by decide +kernel) ⟨Nat.le_of_ble_eq_true rfl, Nat.le_of_ble_eq_true rfl⟩) rfl hl.1 rfl (Nat.le_of_ble_eq_true rfl) dX2_gives_36 ⟨Nat.zero_le _, Nat.zero_le _⟩ (fun r9 H locs f9 hP1 hS1 => ?_)
      replace hP := hP1
      replace hS := hS1
      clear hP1 hS1
      exact zz_iret hx hb hr hlocks hK hP hS dX2_gives_39 (by exact ⟨hC, zy_gC.t0 (by omega) (by omega : j1 = 0) y1 y2 f8 (by rw [f9, k_0, k_99])⟩)
theorem gX2_weight_X0_daysOn : GoodIn wzX2_weight (wsV RX2 128 RX0 yX0_daysOn wzX0_daysOn) := wz_co bm_205 (wz_co bm_181 (wz_co bm_182 (wz_co bm_54 (wz_in bm_183))))
theorem gX2_weight_X2_gives : GoodIn wzX2_weight (wsV RX2 132 RX2 yX2_gives wzX2_gives) := wz_co bm_206 (wz_co bm_207 (wz_co bm_208 (wz_co bm_15 (wz_in bm_209))))
theorem dS7_5 (x0 : Nat) : ∀ a k : Nat, (a = (x0) + 23 ∨ a = (x0) + 26) → (a = x0 + 23 ∨ a = x0 + 26) := by intro a k h; omega
set_option maxHeartbeats 4000000 in
set_option maxRecDepth 100000 in
theorem c_X2_weight (l : Launch) (E : zz_E) (σ : zz_S) (h0 : Nat) (h1 : Nat) (hr0 : Int32) (g0 : zz_R E h0) (g_h1 : zz_Dr E h1) (ht : ∀ j : Nat, j < 2 → 0 ≤ (σ (h0 + 21 + 3 * j) 1).toInt ∧ (σ (h0 + 21 + 3 * j) 1).toInt ≤ 60) (K : zy_W) (hW : zy_XW σ h0 K) (hmb : 0 ≤ (σ h1 1).toInt ∧ (σ h1 1).toInt ≤ 9) (hdb : 0 ≤ (σ h1 4).toInt ∧ (σ h1 4).toInt ≤ 99) (hhr : 0 ≤ hr0.toInt ∧ hr0.toInt ≤ 20000) : Met l yX2_weight wzX2_weight ({ frames := 3, cells := 0, slots := 0, locals := 74 }) (va_Pc [.ref h0, .ref h1, .int hr0] (zz_B E σ)) (va_Qi (fun r σ1 => zz_ch (fun a k => a = h0 + 23 ∨ a = h0 + 26) σ σ1 ∧ (r.toInt = zz_gv K.1 1 (σ h1 0) (σ h1 1) (Int32.ofInt (hr0.toInt / 24 - (σ h1 4).toInt)))) (zz_B E) (zz_A E)) 0 0 (zz_A E) := by
  refine zz_met (cc := cX2_weight) (maxL := 3) (ret := (some .int)) (by decide) rfl (Nat.le_of_ble_eq_true rfl) ?_
  intro p e s m args below meth c ls hx hb hr hts hown hlocks hml hK hP hS hl
  have hl : lv_has ls 3 [(0, .ref h0), (1, .ref h1), (2, .int hr0)] := hl
  have hown : s.vm.findClass RX2 = some m.cls := hown
  have hi0 : ∀ w ∈ wsX00, w ∈ wzX2_weight := fun w h => List.mem_cons_of_mem _ (hbw0 w h)
  have k_1 : (1 : Int32).toInt = 1 := by decide +kernel
  have hC : zz_ch (fun a k => a = h0 + 23 ∨ a = h0 + 26) σ σ := zz_ch.rf σ
  refine lv_aload_n hx hb dX2_weight_0 rfl (lv_at hl 0 rfl) ?_
  refine lv_iconst (v := 1) hx hb dX2_weight_1 (by decide) ?_
  refine lv_aload_n hx hb dX2_weight_2 rfl (lv_at hl 1 rfl) ?_
  refine zz_geti hx hb hts hi0 hown hK hP (g_h1) rfl 0 (by decide) (hts (.fieldLink RX2 88 "NoonLaw$Dream" "kind" "I") (List.mem_cons_of_mem _ bm_128)) rfl rfl rfl dX2_weight_3 ?_
  refine lv_aload_n hx hb dX2_weight_6 rfl (lv_at hl 1 rfl) ?_
  refine zz_geti hx hb hts hi0 hown hK hP (g_h1) rfl 1 (by decide) (hts (.fieldLink RX2 91 "NoonLaw$Dream" "m" "I") (List.mem_cons_of_mem _ bm_129)) rfl rfl rfl dX2_weight_7 ?_
  refine lv_aload_n hx hb dX2_weight_10 rfl (lv_at hl 1 rfl) ?_
  refine lv_iload_n hx hb dX2_weight_11 rfl (lv_at hl 2 rfl) ?_
  refine zz_callVp (As := [.int hr0]) (rest := [.int (σ h1 1), .int (σ h1 0), .int 1, .ref h0]) ⟨hx, hb, hml, hown, hts⟩ hK hP hS (c_X0_daysOn l E σ h1 hr0 g_h1 (by omega) (by exact hhr)) (cwV 1 hts gX2_weight_X0_daysOn rfl rfl rfl (by decide +kernel) ⟨Nat.le_of_ble_eq_true rfl, Nat.le_of_ble_eq_true rfl⟩) (g_h1) rfl rfl hl.1 rfl (Nat.le_of_ble_eq_true rfl) dX2_weight_12 ⟨Nat.zero_le _, Nat.zero_le _⟩ (fun r1 H locs f1 hP1 hS1 => ?_)
  replace hP := hP1
  replace hS := hS1
  clear hP1 hS1
  skip
  refine zz_callVi (As := [.int 1, .int (σ h1 0), .int (σ h1 1), .int r1]) (rest := []) ⟨hx, hb, hml, hown, hts⟩ hK hP hS (c_X2_gives l E σ h0 1 (σ h1 0) (σ h1 1) r1 g0 (by omega) (by exact ht) K (by exact hW)) (cwV 4 hts gX2_weight_X2_gives rfl rfl rfl (by decide +kernel) ⟨Nat.le_of_ble_eq_true rfl, Nat.le_of_ble_eq_true rfl⟩) (g0.1) rfl rfl hl.1 rfl (Nat.le_of_ble_eq_true rfl) dX2_weight_15 ⟨Nat.zero_le _, Nat.zero_le _⟩ (fun r2 σ2 H locs q2 hP1 hS1 => ?_)
  replace hP := hP1
  replace hS := hS1
  clear hP1 hS1
  try dsimp only at q2
  obtain ⟨w2, f2⟩ := q2
  replace hC := hC.tr (w2.mono (dS7_5 h0))
  exact zz_iret hx hb hr hlocks hK hP hS dX2_weight_18 (by exact ⟨hC, by rw [← zz_ofI f1]; exact f2.2 k_1 (by omega) (by omega)⟩)
