set_option maxHeartbeats 4000000 in
set_option maxRecDepth 100000 in
theorem c_X9_in (l : Launch) (E : zz_E) (σ : zz_S) (v : Int32) (lo : Int32) (hi : Int32)  : Met l yX9_in wzX9_in ({ frames := 0, cells := 0, slots := 0, locals := 0 }) (va_Pc [.int v, .int lo, .int hi] (zz_B E σ)) (va_Qi (fun r σ1 => σ1 = σ ∧ ((r.toInt = 1 ∧ lo.toInt ≤ v.toInt ∧ v.toInt ≤ hi.toInt) ∨ (r.toInt = 0 ∧ (v.toInt < lo.toInt ∨ hi.toInt < v.toInt)))) (zz_B E) (zz_A E)) 0 0 (zz_A E) := by
  refine zz_met (cc := cX9_in) (maxL := 3) (ret := (some .boolean)) (by decide) rfl (Nat.le_of_ble_eq_true rfl) ?_
  intro p e s m args below meth c ls hx hb hr hts hown hlocks hml hK hP hS hl
  have hl : lv_has ls 3 [(0, .int v), (1, .int lo), (2, .int hi)] := hl
  have hown : s.vm.findClass RX9 = some m.cls := hown
  have k_0 : (0 : Int32).toInt = 0 := by decide +kernel
  have k_1 : (1 : Int32).toInt = 1 := by decide +kernel
  refine lv_iload_n hx hb dX9_in_0 rfl (lv_at hl 0 rfl) ?_
  refine lv_iload_n hx hb dX9_in_1 rfl (lv_at hl 1 rfl) ?_
  refine lv_icmp_lt (tgt := 14) hx hb dX9_in_2 (by decide) (fun c1 => ?_) (fun c1 => ?_)
  · have c1 := zz_ltT c1
    refine lv_iconst (v := 0) hx hb dX9_in_14 (by decide) ?_
    exact zz_zret hx hb hr hlocks hK hP hS dX9_in_15 (zz_01 (by omega)) (by refine ⟨rfl, ?_⟩; omega)
  · have c1 := zz_nltT c1
    refine lv_iload_n hx hb dX9_in_5 rfl (lv_at hl 0 rfl) ?_
    refine lv_iload_n hx hb dX9_in_6 rfl (lv_at hl 2 rfl) ?_
    refine lv_icmp_gt (tgt := 14) hx hb dX9_in_7 (by decide) (fun c2 => ?_) (fun c2 => ?_)
    · have c2 := zz_ltT c2
      refine lv_iconst (v := 0) hx hb dX9_in_14 (by decide) ?_
      exact zz_zret hx hb hr hlocks hK hP hS dX9_in_15 (zz_01 (by omega)) (by refine ⟨rfl, ?_⟩; omega)
    · have c2 := zz_nltT c2
      refine lv_iconst (v := 1) hx hb dX9_in_10 (by decide) ?_
      refine lv_goto (tgt := 15) hx hb dX9_in_11 (by decide) ?_
      exact zz_zret hx hb hr hlocks hK hP hS dX9_in_15 (zz_01 (by omega)) (by refine ⟨rfl, ?_⟩; omega)
set_option maxHeartbeats 4000000 in
set_option maxRecDepth 100000 in
theorem c_X9_held (l : Launch) (E : zz_E) (σ : zz_S) (v : Int32) (lo : Int32) (hi : Int32) (hlh : lo.toInt ≤ hi.toInt) : Met l yX9_held wzX9_held ({ frames := 0, cells := 0, slots := 0, locals := 0 }) (va_Pc [.int v, .int lo, .int hi] (zz_B E σ)) (va_Qi (fun r σ1 => σ1 = σ ∧ (r.toInt = zz_cl v.toInt lo.toInt hi.toInt)) (zz_B E) (zz_A E)) 0 0 (zz_A E) := by
  refine zz_met (cc := cX9_held) (maxL := 3) (ret := (some .int)) (by decide) rfl (Nat.le_of_ble_eq_true rfl) ?_
  intro p e s m args below meth c ls hx hb hr hts hown hlocks hml hK hP hS hl
  have hl : lv_has ls 3 [(0, .int v), (1, .int lo), (2, .int hi)] := hl
  have hown : s.vm.findClass RX9 = some m.cls := hown
  refine lv_iload_n hx hb dX9_held_0 rfl (lv_at hl 0 rfl) ?_
  refine lv_iload_n hx hb dX9_held_1 rfl (lv_at hl 1 rfl) ?_
  refine lv_icmp_ge (tgt := 9) hx hb dX9_held_2 (by decide) (fun c1 => ?_) (fun c1 => ?_)
  · have c1 := zz_leT c1
    refine lv_iload_n hx hb dX9_held_9 rfl (lv_at hl 0 rfl) ?_
    refine lv_iload_n hx hb dX9_held_10 rfl (lv_at hl 2 rfl) ?_
    refine lv_icmp_le (tgt := 18) hx hb dX9_held_11 (by decide) (fun c2 => ?_) (fun c2 => ?_)
    · have c2 := zz_leT c2
      refine lv_iload_n hx hb dX9_held_18 rfl (lv_at hl 0 rfl) ?_
      exact zz_iret hx hb hr hlocks hK hP hS dX9_held_19 (by exact ⟨rfl, zz_cl_of hlh (by omega)⟩)
    · have c2 := zz_nleT c2
      refine lv_iload_n hx hb dX9_held_14 rfl (lv_at hl 2 rfl) ?_
      refine lv_goto (tgt := 19) hx hb dX9_held_15 (by decide) ?_
      exact zz_iret hx hb hr hlocks hK hP hS dX9_held_19 (by exact ⟨rfl, zz_cl_of hlh (by omega)⟩)
  · have c1 := zz_nleT c1
    refine lv_iload_n hx hb dX9_held_5 rfl (lv_at hl 1 rfl) ?_
    refine lv_goto (tgt := 19) hx hb dX9_held_6 (by decide) ?_
    exact zz_iret hx hb hr hlocks hK hP hS dX9_held_19 (by exact ⟨rfl, zz_cl_of hlh (by omega)⟩)
theorem gX9_isMatter_X9_in : GoodIn wzX9_isMatter (va_wsS RX9 47 yX9_in wzX9_in) := wz_co bm_143 (wz_co bm_144 (wz_co bm_5 (wz_in bm_145)))
set_option maxHeartbeats 4000000 in
set_option maxRecDepth 100000 in
theorem c_X9_isMatter (l : Launch) (E : zz_E) (σ : zz_S) (v : Int32)  : Met l yX9_isMatter wzX9_isMatter ({ frames := 1, cells := 0, slots := 0, locals := 22 }) (va_Pc [.int v] (zz_B E σ)) (va_Qi (fun r σ1 => σ1 = σ ∧ ((r.toInt = 1 ∧ 0 ≤ v.toInt ∧ v.toInt ≤ 9) ∨ (r.toInt = 0 ∧ (v.toInt < 0 ∨ 9 < v.toInt)))) (zz_B E) (zz_A E)) 0 0 (zz_A E) := by
  refine zz_met (cc := cX9_isMatter) (maxL := 1) (ret := (some .boolean)) (by decide) rfl (Nat.le_of_ble_eq_true rfl) ?_
  intro p e s m args below meth c ls hx hb hr hts hown hlocks hml hK hP hS hl
  have hl : lv_has ls 1 [(0, .int v)] := hl
  have hown : s.vm.findClass RX9 = some m.cls := hown
  have k_0 : (0 : Int32).toInt = 0 := by decide +kernel
  have k_9 : (9 : Int32).toInt = 9 := by decide +kernel
  refine lv_iload_n hx hb dX9_isMatter_0 rfl (lv_at hl 0 rfl) ?_
  refine lv_iconst (v := 0) hx hb dX9_isMatter_1 (by decide) ?_
  refine lv_bipush (v := 9) hx hb dX9_isMatter_2 (by decide) ?_
  refine zz_callSp (As := [.int v, .int 0, .int 9]) (rest := []) ⟨hx, hb, hml, hown, hts⟩ hK hP hS (c_X9_in l E σ v 0 9) (va_cwS 3 hts gX9_isMatter_X9_in rfl rfl rfl (by decide +kernel) ⟨Nat.le_of_ble_eq_true rfl, Nat.le_of_ble_eq_true rfl⟩) rfl hl.1 rfl (Nat.le_of_ble_eq_true rfl) dX9_isMatter_4 ⟨Nat.zero_le _, Nat.zero_le _⟩ (fun r1 H locs f1 hP1 hS1 => ?_)
  replace hP := hP1
  replace hS := hS1
  clear hP1 hS1
  exact zz_zret hx hb hr hlocks hK hP hS dX9_isMatter_7 (zz_01 (by omega)) (by refine ⟨rfl, ?_⟩; omega)
theorem gX9_isKm_X9_in : GoodIn wzX9_isKm (va_wsS RX9 47 yX9_in wzX9_in) := wz_co bm_143 (wz_co bm_144 (wz_co bm_5 (wz_in bm_145)))
set_option maxHeartbeats 4000000 in
set_option maxRecDepth 100000 in
theorem c_X9_isKm (l : Launch) (E : zz_E) (σ : zz_S) (v : Int32)  : Met l yX9_isKm wzX9_isKm ({ frames := 1, cells := 0, slots := 0, locals := 22 }) (va_Pc [.int v] (zz_B E σ)) (va_Qi (fun r σ1 => σ1 = σ ∧ ((r.toInt = 1 ∧ 0 ≤ v.toInt ∧ v.toInt ≤ 69) ∨ (r.toInt = 0 ∧ (v.toInt < 0 ∨ 69 < v.toInt)))) (zz_B E) (zz_A E)) 0 0 (zz_A E) := by
  refine zz_met (cc := cX9_isKm) (maxL := 1) (ret := (some .boolean)) (by decide) rfl (Nat.le_of_ble_eq_true rfl) ?_
  intro p e s m args below meth c ls hx hb hr hts hown hlocks hml hK hP hS hl
  have hl : lv_has ls 1 [(0, .int v)] := hl
  have hown : s.vm.findClass RX9 = some m.cls := hown
  have k_0 : (0 : Int32).toInt = 0 := by decide +kernel
  have k_69 : (69 : Int32).toInt = 69 := by decide +kernel
  refine lv_iload_n hx hb dX9_isKm_0 rfl (lv_at hl 0 rfl) ?_
  refine lv_iconst (v := 0) hx hb dX9_isKm_1 (by decide) ?_
  refine lv_bipush (v := 69) hx hb dX9_isKm_2 (by decide) ?_
  refine zz_callSp (As := [.int v, .int 0, .int 69]) (rest := []) ⟨hx, hb, hml, hown, hts⟩ hK hP hS (c_X9_in l E σ v 0 69) (va_cwS 3 hts gX9_isKm_X9_in rfl rfl rfl (by decide +kernel) ⟨Nat.le_of_ble_eq_true rfl, Nat.le_of_ble_eq_true rfl⟩) rfl hl.1 rfl (Nat.le_of_ble_eq_true rfl) dX9_isKm_4 ⟨Nat.zero_le _, Nat.zero_le _⟩ (fun r1 H locs f1 hP1 hS1 => ?_)
  replace hP := hP1
  replace hS := hS1
  clear hP1 hS1
  exact zz_zret hx hb hr hlocks hK hP hS dX9_isKm_7 (zz_01 (by omega)) (by refine ⟨rfl, ?_⟩; omega)
theorem gX9_isSheet_X9_in : GoodIn wzX9_isSheet (va_wsS RX9 47 yX9_in wzX9_in) := wz_co bm_143 (wz_co bm_144 (wz_co bm_5 (wz_in bm_145)))
set_option maxHeartbeats 4000000 in
set_option maxRecDepth 100000 in
theorem c_X9_isSheet (l : Launch) (E : zz_E) (σ : zz_S) (v : Int32)  : Met l yX9_isSheet wzX9_isSheet ({ frames := 1, cells := 0, slots := 0, locals := 22 }) (va_Pc [.int v] (zz_B E σ)) (va_Qi (fun r σ1 => σ1 = σ ∧ ((r.toInt = 1 ∧ 0 ≤ v.toInt ∧ v.toInt ≤ 3) ∨ (r.toInt = 0 ∧ (v.toInt < 0 ∨ 3 < v.toInt)))) (zz_B E) (zz_A E)) 0 0 (zz_A E) := by
  refine zz_met (cc := cX9_isSheet) (maxL := 1) (ret := (some .boolean)) (by decide) rfl (Nat.le_of_ble_eq_true rfl) ?_
  intro p e s m args below meth c ls hx hb hr hts hown hlocks hml hK hP hS hl
  have hl : lv_has ls 1 [(0, .int v)] := hl
  have hown : s.vm.findClass RX9 = some m.cls := hown
  have k_0 : (0 : Int32).toInt = 0 := by decide +kernel
  have k_3 : (3 : Int32).toInt = 3 := by decide +kernel
  refine lv_iload_n hx hb dX9_isSheet_0 rfl (lv_at hl 0 rfl) ?_
  refine lv_iconst (v := 0) hx hb dX9_isSheet_1 (by decide) ?_
  refine lv_iconst (v := 3) hx hb dX9_isSheet_2 (by decide) ?_
  refine zz_callSp (As := [.int v, .int 0, .int 3]) (rest := []) ⟨hx, hb, hml, hown, hts⟩ hK hP hS (c_X9_in l E σ v 0 3) (va_cwS 3 hts gX9_isSheet_X9_in rfl rfl rfl (by decide +kernel) ⟨Nat.le_of_ble_eq_true rfl, Nat.le_of_ble_eq_true rfl⟩) rfl hl.1 rfl (Nat.le_of_ble_eq_true rfl) dX9_isSheet_3 ⟨Nat.zero_le _, Nat.zero_le _⟩ (fun r1 H locs f1 hP1 hS1 => ?_)
  replace hP := hP1
  replace hS := hS1
  clear hP1 hS1
  exact zz_zret hx hb hr hlocks hK hP hS dX9_isSheet_6 (zz_01 (by omega)) (by refine ⟨rfl, ?_⟩; omega)
theorem gX9_isDream_X9_in : GoodIn wzX9_isDream (va_wsS RX9 47 yX9_in wzX9_in) := wz_co bm_143 (wz_co bm_144 (wz_co bm_5 (wz_in bm_145)))
set_option maxHeartbeats 4000000 in
set_option maxRecDepth 100000 in
theorem c_X9_isDream (l : Launch) (E : zz_E) (σ : zz_S) (h0 : Nat) (v : Int32) (g0 : zz_M E h0) (hd : 0 ≤ (σ (h0 + 1) 2).toInt ∧ (σ (h0 + 1) 2).toInt ≤ 9) : Met l yX9_isDream wzX9_isDream ({ frames := 1, cells := 0, slots := 0, locals := 22 }) (va_Pc [.ref h0, .int v] (zz_B E σ)) (va_Qi (fun r σ1 => σ1 = σ ∧ ((r.toInt = 1 ∧ 0 ≤ v.toInt ∧ v.toInt ≤ (σ (h0 + 1) 2).toInt - 1) ∨ (r.toInt = 0 ∧ (v.toInt < 0 ∨ (σ (h0 + 1) 2).toInt - 1 < v.toInt)))) (zz_B E) (zz_A E)) 0 0 (zz_A E) := by
  refine zz_met (cc := cX9_isDream) (maxL := 2) (ret := (some .boolean)) (by decide) rfl (Nat.le_of_ble_eq_true rfl) ?_
  intro p e s m args below meth c ls hx hb hr hts hown hlocks hml hK hP hS hl
  have hl : lv_has ls 2 [(0, .ref h0), (1, .int v)] := hl
  have hown : s.vm.findClass RX9 = some m.cls := hown
  have hi9 : ∀ w ∈ wsX90, w ∈ wzX9_isDream := fun w h => List.mem_cons_of_mem _ (hbw9 w h)
  have k_0 : (0 : Int32).toInt = 0 := by decide +kernel
  have k_1 : (1 : Int32).toInt = 1 := by decide +kernel
  have k_2 : (2 : Int32).toInt = 2 := by decide +kernel
  refine lv_iload_n hx hb dX9_isDream_0 rfl (lv_at hl 1 rfl) ?_
  refine lv_iconst (v := 0) hx hb dX9_isDream_1 (by decide) ?_
  refine lv_aload_n hx hb dX9_isDream_2 rfl (lv_at hl 0 rfl) ?_
  refine zz_getr hx hb hts hi9 hown hK hP (g0.1) rfl 0 (by decide) (hts (.fieldLink RX9 9 "NoonLawModel" "row" "[I") (List.mem_cons_of_mem _ bm_93)) rfl rfl dX9_isDream_3 ?_
  refine lv_iconst (v := 2) hx hb dX9_isDream_6 (by decide) ?_
  refine zz_ialc hx hb hK hP (g0.2.1) 2 (by decide) (by decide) rfl dX9_isDream_7 ?_
  refine lv_iconst (v := 1) hx hb dX9_isDream_8 (by decide) ?_
  refine lv_isub hx hb dX9_isDream_9 ?_
  refine lv_topi (fun n2 e2 => ?_)
  have f2 : n2.toInt = (σ (h0 + 1) 2).toInt - (1 : Int32).toInt := zz_subT e2 (by omega) (by omega)
  refine zz_callSp (As := [.int v, .int 0, .int n2]) (rest := []) ⟨hx, hb, hml, hown, hts⟩ hK hP hS (c_X9_in l E σ v 0 n2) (va_cwS 3 hts gX9_isDream_X9_in rfl rfl rfl (by decide +kernel) ⟨Nat.le_of_ble_eq_true rfl, Nat.le_of_ble_eq_true rfl⟩) rfl hl.1 rfl (Nat.le_of_ble_eq_true rfl) dX9_isDream_10 ⟨Nat.zero_le _, Nat.zero_le _⟩ (fun r3 H locs f3 hP1 hS1 => ?_)
  replace hP := hP1
  replace hS := hS1
  clear hP1 hS1
  exact zz_zret hx hb hr hlocks hK hP hS dX9_isDream_13 (zz_01 (by omega)) (by refine ⟨rfl, ?_⟩; omega)
theorem gX9_isPerson_X9_in : GoodIn wzX9_isPerson (va_wsS RX9 47 yX9_in wzX9_in) := wz_co bm_143 (wz_co bm_144 (wz_co bm_5 (wz_in bm_145)))
set_option maxHeartbeats 4000000 in
set_option maxRecDepth 100000 in
theorem c_X9_isPerson (l : Launch) (E : zz_E) (σ : zz_S) (h0 : Nat) (v : Int32) (g0 : zz_M E h0) (hp : 0 ≤ (σ (h0 + 1) 3).toInt ∧ (σ (h0 + 1) 3).toInt ≤ 6) : Met l yX9_isPerson wzX9_isPerson ({ frames := 1, cells := 0, slots := 0, locals := 22 }) (va_Pc [.ref h0, .int v] (zz_B E σ)) (va_Qi (fun r σ1 => σ1 = σ ∧ ((r.toInt = 1 ∧ 0 ≤ v.toInt ∧ v.toInt ≤ (σ (h0 + 1) 3).toInt - 1) ∨ (r.toInt = 0 ∧ (v.toInt < 0 ∨ (σ (h0 + 1) 3).toInt - 1 < v.toInt)))) (zz_B E) (zz_A E)) 0 0 (zz_A E) := by
  refine zz_met (cc := cX9_isPerson) (maxL := 2) (ret := (some .boolean)) (by decide) rfl (Nat.le_of_ble_eq_true rfl) ?_
  intro p e s m args below meth c ls hx hb hr hts hown hlocks hml hK hP hS hl
  have hl : lv_has ls 2 [(0, .ref h0), (1, .int v)] := hl
  have hown : s.vm.findClass RX9 = some m.cls := hown
  have hi9 : ∀ w ∈ wsX90, w ∈ wzX9_isPerson := fun w h => List.mem_cons_of_mem _ (hbw9 w h)
  have k_0 : (0 : Int32).toInt = 0 := by decide +kernel
  have k_1 : (1 : Int32).toInt = 1 := by decide +kernel
  have k_3 : (3 : Int32).toInt = 3 := by decide +kernel
  refine lv_iload_n hx hb dX9_isPerson_0 rfl (lv_at hl 1 rfl) ?_
  refine lv_iconst (v := 0) hx hb dX9_isPerson_1 (by decide) ?_
  refine lv_aload_n hx hb dX9_isPerson_2 rfl (lv_at hl 0 rfl) ?_
  refine zz_getr hx hb hts hi9 hown hK hP (g0.1) rfl 0 (by decide) (hts (.fieldLink RX9 9 "NoonLawModel" "row" "[I") (List.mem_cons_of_mem _ bm_93)) rfl rfl dX9_isPerson_3 ?_
  refine lv_iconst (v := 3) hx hb dX9_isPerson_6 (by decide) ?_
  refine zz_ialc hx hb hK hP (g0.2.1) 3 (by decide) (by decide) rfl dX9_isPerson_7 ?_
  refine lv_iconst (v := 1) hx hb dX9_isPerson_8 (by decide) ?_
  refine lv_isub hx hb dX9_isPerson_9 ?_
  refine lv_topi (fun n2 e2 => ?_)
  have f2 : n2.toInt = (σ (h0 + 1) 3).toInt - (1 : Int32).toInt := zz_subT e2 (by omega) (by omega)
  refine zz_callSp (As := [.int v, .int 0, .int n2]) (rest := []) ⟨hx, hb, hml, hown, hts⟩ hK hP hS (c_X9_in l E σ v 0 n2) (va_cwS 3 hts gX9_isPerson_X9_in rfl rfl rfl (by decide +kernel) ⟨Nat.le_of_ble_eq_true rfl, Nat.le_of_ble_eq_true rfl⟩) rfl hl.1 rfl (Nat.le_of_ble_eq_true rfl) dX9_isPerson_10 ⟨Nat.zero_le _, Nat.zero_le _⟩ (fun r3 H locs f3 hP1 hS1 => ?_)
  replace hP := hP1
  replace hS := hS1
  clear hP1 hS1
  exact zz_zret hx hb hr hlocks hK hP hS dX9_isPerson_13 (zz_01 (by omega)) (by refine ⟨rfl, ?_⟩; omega)
set_option maxHeartbeats 4000000 in
set_option maxRecDepth 100000 in
theorem c_X9_bits (l : Launch) (E : zz_E) (σ : zz_S) (v : Int32) (hvr : 0 ≤ v.toInt ∧ v.toInt < 1024) : Met l yX9_bits wzX9_bits ({ frames := 0, cells := 0, slots := 0, locals := 0 }) (va_Pc [.int v] (zz_B E σ)) (va_Qi (fun r σ1 => σ1 = σ ∧ (r.toInt = zy_pc v ∧ r.toInt ≤ 10 ∧ 0 ≤ r.toInt)) (zz_B E) (zz_A E)) 0 0 (zz_A E) := by
  refine zz_met (cc := cX9_bits) (maxL := 3) (ret := (some .int)) (by decide) rfl (Nat.le_of_ble_eq_true rfl) ?_
  intro p e s m args below meth c ls hx hb hr hts hown hlocks hml hK hP hS hl
  have hl : lv_has ls 3 [(0, .int v)] := hl
  have hown : s.vm.findClass RX9 = some m.cls := hown
  have k_0 : (0 : Int32).toInt = 0 := by decide +kernel
  have k_1 : (1 : Int32).toInt = 1 := by decide +kernel
  refine lv_iconst (v := 0) hx hb dX9_bits_0 (by decide) ?_
  refine lv_istore_n (lv' := [(1, .int 0), (0, .int v)]) hx hb dX9_bits_1 rfl hl (by decide) rfl (fun ls hl => ?_)
  refine lv_iload_n hx hb dX9_bits_2 rfl (lv_at hl 1 rfl) ?_
  refine lv_istore_n (lv' := [(2, .int v), (1, .int 0), (0, .int v)]) hx hb dX9_bits_3 rfl hl (by decide) rfl (fun ls hl => ?_)
  have J4 : ∀ (n : Nat) (nn : Int32) (re : Int32) (H : Heap) (locs : List Loc) (ls : Array Slot), (re.toBitVec.toNat) < n → (nn.toInt + zy_pc re = zy_pc v) → (0 ≤ nn.toInt) → (0 ≤ re.toInt ∧ re.toInt < 1024) → zz_P E σ H → va_S (zz_A E) s.heap H locs → lv_has ls 3 [(2, .int re), (1, .int nn), (0, .int v)] → W p l e (headSpec wzX9_bits ({ frames := 0, cells := 0, slots := 0, locals := 0 })).room s m args below meth c H locs 0 0 (MQ below (va_Qi (fun r σ1 => σ1 = σ ∧ (r.toInt = zy_pc v ∧ r.toInt ≤ 10 ∧ 0 ≤ r.toInt)) (zz_B E) (zz_A E)) args s 0 0 (zz_A E)) (F0 m 4 ls []) := by
    intro n
    induction n with
    | zero => intro nn re H locs ls hm; exact absurd hm (Nat.not_lt_zero _)
    | succ n ih4 =>
      intro nn re H locs ls hm f4_0 f4_1 f4_2 hP hS hl
      have hb8 := zy_pc_rng hvr
      have hb7 := zy_pc_rng f4_2
      refine lv_iload_n hx hb dX9_bits_4 rfl (lv_at hl 0 rfl) ?_
      refine lv_if_eq (tgt := 20) hx hb dX9_bits_5 (by decide) (fun c1 => ?_) (fun c1 => ?_)
      · have c1 := zz_eqT c1
        refine lv_iload_n hx hb dX9_bits_20 rfl (lv_at hl 1 rfl) ?_
        have hz9 := zy_pc_0 (x := re) (by omega)
        exact zz_iret hx hb hr hlocks hK hP hS dX9_bits_21 (by exact ⟨rfl, by omega, by omega, by omega⟩)
      · have c1 := zz_neT c1
        obtain ⟨n2, e2⟩ : ∃ y : Int32, y = nn + 1 := ⟨_, rfl⟩
        have f2 : n2.toInt = (nn).toInt + (1) := by have h9 := zz_addT e2 (by omega) (by omega); omega
        refine lv_iinc (v := n2) (lv' := [(1, .int n2), (2, .int re), (0, .int v)]) hx hb dX9_bits_8 hl (k := 1) rfl (by rw [e2]; rfl) (by decide) rfl (fun ls hl => ?_)
        refine lv_iload_n hx hb dX9_bits_11 rfl (lv_at hl 1 rfl) ?_
        refine lv_iload_n hx hb dX9_bits_12 rfl (lv_at hl 1 rfl) ?_
        refine lv_iconst (v := 1) hx hb dX9_bits_13 (by decide) ?_
        refine lv_isub hx hb dX9_bits_14 ?_
        refine lv_topi (fun n3 e3 => ?_)
        have f3 : n3.toInt = (re).toInt - (1 : Int32).toInt := zz_subT e3 (by omega) (by omega)
        refine lv_iand hx hb dX9_bits_15 ?_
        refine lv_topi (fun n4 e4 => ?_)
        skip
        refine lv_istore_n (lv' := [(2, .int n4), (1, .int n2), (0, .int v)]) hx hb dX9_bits_16 rfl hl (by decide) rfl (fun ls hl => ?_)
        refine lv_goto (tgt := 4) hx hb dX9_bits_17 (by decide) ?_
        exact ih4 n2 n4 _ _ _ (by have hb9 := zz_bits c1 e3 e4; omega) (by have hs9 := zy_pc_s (x := re) c1 e3 e4; omega) (by omega) (by exact zy_and_rng f4_2 e4) hP hS (lv_sub hl [0, 1, 2] rfl)
  exact J4 _ 0 v _ _ _ (Nat.lt_succ_self _) (by omega) (by omega) (by exact hvr) hP hS (lv_sub hl [0, 1, 2] rfl)
theorem dS20_1 (x0 : Nat) : (x0 + 3) = x0 + 3 := by omega
set_option maxHeartbeats 4000000 in
set_option maxRecDepth 100000 in
theorem c_X9_error (l : Launch) (E : zz_E) (σ : zz_S) (h0 : Nat) (er : Int32) (g0 : zz_M E h0) (he : -1000000006 ≤ er.toInt ∧ er.toInt ≤ -1000000001) : Met l yX9_error wzX9_error ({ frames := 0, cells := 0, slots := 0, locals := 0 }) (va_Pc [.ref h0, .int er] (zz_B E σ)) (va_Qi (fun r σ1 => zz_ch (fun a k => a = h0 + 3) σ σ1 ∧ (r.toInt = er.toInt)) (zz_B E) (zz_A E)) 0 0 (zz_A E) := by
  refine zz_met (cc := cX9_error) (maxL := 2) (ret := (some .int)) (by decide) rfl (Nat.le_of_ble_eq_true rfl) ?_
  intro p e s m args below meth c ls hx hb hr hts hown hlocks hml hK hP hS hl
  have hl : lv_has ls 2 [(0, .ref h0), (1, .int er)] := hl
  have hown : s.vm.findClass RX9 = some m.cls := hown
  have hi9 : ∀ w ∈ wsX90, w ∈ wzX9_error := fun w h => List.mem_cons_of_mem _ (hbw9 w h)
  have k_m1000000000 : ((-1000000000) : Int32).toInt = -1000000000 := by decide +kernel
  have k_1 : (1 : Int32).toInt = 1 := by decide +kernel
  have hC : zz_ch (fun a k => a = h0 + 3) σ σ := zz_ch.rf σ
  refine lv_aload_n hx hb dX9_error_0 rfl (lv_at hl 0 rfl) ?_
  refine zz_getr hx hb hts hi9 hown hK hP (g0.1) rfl 3 (by decide) (hts (.fieldLink RX9 16 "NoonLawModel" "errors" "[I") (List.mem_cons_of_mem _ bm_95)) rfl rfl dX9_error_1 ?_
  refine lv_ldc (v := (-1000000000)) hx hb hown (hts (.constant RX9 46 (-1000000000)) (List.mem_cons_of_mem _ bm_150)) dX9_error_4 ?_
  refine lv_iload_n hx hb dX9_error_6 rfl (lv_at hl 1 rfl) ?_
  refine lv_isub hx hb dX9_error_7 ?_
  refine lv_topi (fun n1 e1 => ?_)
  have f1 : n1.toInt = ((-1000000000) : Int32).toInt - (er).toInt := zz_subT e1 (by omega) (by omega)
  refine lv_dup2_11 hx hb dX9_error_8 rfl rfl ?_
  refine zz_iald hx hb hK hP (g0.2.2.2.1) (by omega) (by omega) dX9_error_9 (fun j2 q2 r2 => ?_)
  refine lv_iconst (v := 1) hx hb dX9_error_10 (by decide) ?_
  refine lv_iadd hx hb dX9_error_11 ?_
  refine lv_topi (fun n3 e3 => ?_)
  refine zz_iast hx hb hK hP hS (g0.2.2.2.1) (by omega) (by omega) dX9_error_12 (fun j4 σ4 H locs q4 r4 w4 hP1 hS1 => ?_)
  replace hP := hP1
  replace hS := hS1
  clear hP1 hS1
  replace hC := hC.u w4 (dS20_1 h0)
  refine lv_iload_n hx hb dX9_error_13 rfl (lv_at hl 1 rfl) ?_
  exact zz_iret hx hb hr hlocks hK hP hS dX9_error_14 (by exact ⟨hC, rfl⟩)
set_option maxHeartbeats 4000000 in
set_option maxRecDepth 100000 in
theorem c_X9_becomes (l : Launch) (E : zz_E) (σ : zz_S) (h0 : Nat) (sp : Int32) (v : Int32) (g0 : zz_M E h0) (hs : 0 ≤ sp.toInt ∧ sp.toInt < 399) : Met l yX9_becomes wzX9_becomes ({ frames := 0, cells := 0, slots := 0, locals := 0 }) (va_Pc [.ref h0, .int sp, .int v] (zz_B E σ)) (va_Qi (fun r σ1 => zz_ch (fun a k => a = h0 + 1 ∧ k = sp.toInt.toNat) σ σ1 ∧ (r = σ (h0 + 1) sp.toInt.toNat ∧ σ1 (h0 + 1) sp.toInt.toNat = v ∧ σ1 = zz_u σ (h0 + 1) sp.toInt.toNat v)) (zz_B E) (zz_A E)) 0 0 (zz_A E) := by
  refine zz_met (cc := cX9_becomes) (maxL := 4) (ret := (some .int)) (by decide) rfl (Nat.le_of_ble_eq_true rfl) ?_
  intro p e s m args below meth c ls hx hb hr hts hown hlocks hml hK hP hS hl
  have hl : lv_has ls 4 [(0, .ref h0), (1, .int sp), (2, .int v)] := hl
  have hown : s.vm.findClass RX9 = some m.cls := hown
  have hi9 : ∀ w ∈ wsX90, w ∈ wzX9_becomes := fun w h => List.mem_cons_of_mem _ (hbw9 w h)
  have hC : zz_ch (fun a k => a = h0 + 1 ∧ k = sp.toInt.toNat) σ σ := zz_ch.rf σ
  refine lv_aload_n hx hb dX9_becomes_0 rfl (lv_at hl 0 rfl) ?_
  refine zz_getr hx hb hts hi9 hown hK hP (g0.1) rfl 0 (by decide) (hts (.fieldLink RX9 9 "NoonLawModel" "row" "[I") (List.mem_cons_of_mem _ bm_93)) rfl rfl dX9_becomes_1 ?_
  refine lv_iload_n hx hb dX9_becomes_4 rfl (lv_at hl 1 rfl) ?_
  refine zz_iald hx hb hK hP (g0.2.1) (by omega) (by omega) dX9_becomes_5 (fun j1 q1 r1 => ?_)
  refine lv_istore_n (lv' := [(3, .int (σ (h0 + 1) j1)), (0, .ref h0), (1, .int sp), (2, .int v)]) hx hb dX9_becomes_6 rfl hl (by decide) rfl (fun ls hl => ?_)
  refine lv_aload_n hx hb dX9_becomes_7 rfl (lv_at hl 1 rfl) ?_
  refine zz_getr hx hb hts hi9 hown hK hP (g0.1) rfl 0 (by decide) (hts (.fieldLink RX9 9 "NoonLawModel" "row" "[I") (List.mem_cons_of_mem _ bm_93)) rfl rfl dX9_becomes_8 ?_
  refine lv_iload_n hx hb dX9_becomes_11 rfl (lv_at hl 2 rfl) ?_
  refine lv_iload_n hx hb dX9_becomes_12 rfl (lv_at hl 3 rfl) ?_
  refine zz_iast hx hb hK hP hS (g0.2.1) (by omega) (by omega) dX9_becomes_13 (fun j2 σ2 H locs q2 r2 w2 hP1 hS1 => ?_)
  replace hP := hP1
  replace hS := hS1
  clear hP1 hS1
  replace hC := hC.u w2 (by first | (dsimp only; omega) | omega | (dsimp only; done))
  refine lv_iload_n hx hb dX9_becomes_14 rfl (lv_at hl 0 rfl) ?_
  exact zz_iret hx hb hr hlocks hK hP hS dX9_becomes_15 (by exact ⟨hC, by rw [show sp.toInt.toNat = j1 from by omega], by rw [show sp.toInt.toNat = j2 from by omega, w2]; exact zz_us _ _ _ _, by rw [show sp.toInt.toNat = j2 from by omega]; exact w2⟩)
set_option maxHeartbeats 4000000 in
set_option maxRecDepth 100000 in
theorem c_X9_of (l : Launch) (E : zz_E) (σ : zz_S) (h0 : Nat) (dd : Int32) (wh : Int32) (g0 : zz_M E h0) (hx : (0 ≤ dd.toInt ∧ dd.toInt ≤ 8) ∧ 0 ≤ wh.toInt ∧ wh.toInt ≤ 5) : Met l yX9_of wzX9_of ({ frames := 0, cells := 0, slots := 0, locals := 0 }) (va_Pc [.ref h0, .int dd, .int wh] (zz_B E σ)) (va_Qi (fun r σ1 => σ1 = σ ∧ (r = σ (h0 + 1) (7 + 6 * dd.toInt + wh.toInt).toNat)) (zz_B E) (zz_A E)) 0 0 (zz_A E) := by
  refine zz_met (cc := cX9_of) (maxL := 3) (ret := (some .int)) (by decide) rfl (Nat.le_of_ble_eq_true rfl) ?_
  intro p e s m args below meth c ls hx hb hr hts hown hlocks hml hK hP hS hl
  have hl : lv_has ls 3 [(0, .ref h0), (1, .int dd), (2, .int wh)] := hl
  have hown : s.vm.findClass RX9 = some m.cls := hown
  have hi9 : ∀ w ∈ wsX90, w ∈ wzX9_of := fun w h => List.mem_cons_of_mem _ (hbw9 w h)
  have k_6 : (6 : Int32).toInt = 6 := by decide +kernel
  have k_7 : (7 : Int32).toInt = 7 := by decide +kernel
  refine lv_aload_n hx hb dX9_of_0 rfl (lv_at hl 0 rfl) ?_
  refine zz_getr hx hb hts hi9 hown hK hP (g0.1) rfl 0 (by decide) (hts (.fieldLink RX9 9 "NoonLawModel" "row" "[I") (List.mem_cons_of_mem _ bm_93)) rfl rfl dX9_of_1 ?_
  refine lv_bipush (v := 7) hx hb dX9_of_4 (by decide) ?_
  refine lv_bipush (v := 6) hx hb dX9_of_6 (by decide) ?_
  refine lv_iload_n hx hb dX9_of_8 rfl (lv_at hl 1 rfl) ?_
  refine lv_imul hx hb dX9_of_9 ?_
  refine lv_topi (fun n1 e1 => ?_)
  have f1 : n1.toInt = 6 * (dd).toInt := zz_mulL 6 e1 (by decide) (by omega) (by omega)
  refine lv_iadd hx hb dX9_of_10 ?_
  refine lv_topi (fun n2 e2 => ?_)
  have f2 : n2.toInt = (7 : Int32).toInt + (n1).toInt := zz_addT e2 (by omega) (by omega)
  refine lv_iload_n hx hb dX9_of_11 rfl (lv_at hl 2 rfl) ?_
  refine lv_iadd hx hb dX9_of_12 ?_
  refine lv_topi (fun n3 e3 => ?_)
  have f3 : n3.toInt = (n2).toInt + (wh).toInt := zz_addT e3 (by omega) (by omega)
  refine zz_iald hx hb hK hP (g0.2.1) (by omega) (by omega) dX9_of_13 (fun j4 q4 r4 => ?_)
  exact zz_iret hx hb hr hlocks hK hP hS dX9_of_14 (by refine ⟨rfl, ?_⟩; rw [show (7 + 6 * dd.toInt + wh.toInt).toNat = j4 from by omega])
set_option maxHeartbeats 4000000 in
set_option maxRecDepth 100000 in
theorem c_X9_about (l : Launch) (E : zz_E) (σ : zz_S) (h0 : Nat) (pp : Int32) (wh : Int32) (g0 : zz_M E h0) (hx : (0 ≤ pp.toInt ∧ pp.toInt ≤ 5) ∧ 0 ≤ wh.toInt ∧ wh.toInt ≤ 1) : Met l yX9_about wzX9_about ({ frames := 0, cells := 0, slots := 0, locals := 0 }) (va_Pc [.ref h0, .int pp, .int wh] (zz_B E σ)) (va_Qi (fun r σ1 => σ1 = σ ∧ (r = σ (h0 + 1) (61 + 2 * pp.toInt + wh.toInt).toNat)) (zz_B E) (zz_A E)) 0 0 (zz_A E) := by
  refine zz_met (cc := cX9_about) (maxL := 3) (ret := (some .int)) (by decide) rfl (Nat.le_of_ble_eq_true rfl) ?_
  intro p e s m args below meth c ls hx hb hr hts hown hlocks hml hK hP hS hl
  have hl : lv_has ls 3 [(0, .ref h0), (1, .int pp), (2, .int wh)] := hl
  have hown : s.vm.findClass RX9 = some m.cls := hown
  have hi9 : ∀ w ∈ wsX90, w ∈ wzX9_about := fun w h => List.mem_cons_of_mem _ (hbw9 w h)
  have k_2 : (2 : Int32).toInt = 2 := by decide +kernel
  have k_61 : (61 : Int32).toInt = 61 := by decide +kernel
  refine lv_aload_n hx hb dX9_about_0 rfl (lv_at hl 0 rfl) ?_
  refine zz_getr hx hb hts hi9 hown hK hP (g0.1) rfl 0 (by decide) (hts (.fieldLink RX9 9 "NoonLawModel" "row" "[I") (List.mem_cons_of_mem _ bm_93)) rfl rfl dX9_about_1 ?_
  refine lv_bipush (v := 61) hx hb dX9_about_4 (by decide) ?_
  refine lv_iconst (v := 2) hx hb dX9_about_6 (by decide) ?_
  refine lv_iload_n hx hb dX9_about_7 rfl (lv_at hl 1 rfl) ?_
  refine lv_imul hx hb dX9_about_8 ?_
  refine lv_topi (fun n1 e1 => ?_)
  have f1 : n1.toInt = 2 * (pp).toInt := zz_mulL 2 e1 (by decide) (by omega) (by omega)
  refine lv_iadd hx hb dX9_about_9 ?_
  refine lv_topi (fun n2 e2 => ?_)
  have f2 : n2.toInt = (61 : Int32).toInt + (n1).toInt := zz_addT e2 (by omega) (by omega)
  refine lv_iload_n hx hb dX9_about_10 rfl (lv_at hl 2 rfl) ?_
  refine lv_iadd hx hb dX9_about_11 ?_
  refine lv_topi (fun n3 e3 => ?_)
  have f3 : n3.toInt = (n2).toInt + (wh).toInt := zz_addT e3 (by omega) (by omega)
  refine zz_iald hx hb hK hP (g0.2.1) (by omega) (by omega) dX9_about_12 (fun j4 q4 r4 => ?_)
  exact zz_iret hx hb hr hlocks hK hP hS dX9_about_13 (by refine ⟨rfl, ?_⟩; rw [show (61 + 2 * pp.toInt + wh.toInt).toNat = j4 from by omega])
theorem gX9_daysOn_X9_of : GoodIn wzX9_daysOn (wsV RX9 51 RX9 yX9_of wzX9_of) := wz_co bm_240 (wz_co bm_241 (wz_co bm_242 (wz_co bm_5 (wz_in bm_243))))
set_option maxHeartbeats 4000000 in
set_option maxRecDepth 100000 in
theorem c_X9_daysOn (l : Launch) (E : zz_E) (σ : zz_S) (h0 : Nat) (dd : Int32) (ho : Int32) (g0 : zz_M E h0) (hx : 0 ≤ dd.toInt ∧ dd.toInt ≤ 8) (hhr : 0 ≤ ho.toInt ∧ ho.toInt ≤ 20000) (K : zy_W) (hW : zy_YW σ (h0 + 1) K) : Met l yX9_daysOn wzX9_daysOn ({ frames := 1, cells := 0, slots := 0, locals := 22 }) (va_Pc [.ref h0, .int dd, .int ho] (zz_B E σ)) (va_Qi (fun r σ1 => σ1 = σ ∧ (r.toInt = ho.toInt / 24 - K.2.1 dd.toInt.toNat 4)) (zz_B E) (zz_A E)) 0 0 (zz_A E) := by
  refine zz_met (cc := cX9_daysOn) (maxL := 3) (ret := (some .int)) (by decide) rfl (Nat.le_of_ble_eq_true rfl) ?_
  intro p e s m args below meth c ls hx hb hr hts hown hlocks hml hK hP hS hl
  have hl : lv_has ls 3 [(0, .ref h0), (1, .int dd), (2, .int ho)] := hl
  have hown : s.vm.findClass RX9 = some m.cls := hown
  have k_4 : (4 : Int32).toInt = 4 := by decide +kernel
  have k_24 : (24 : Int32).toInt = 24 := by decide +kernel
  have hcb := hW.2.2.2.2.2.1 dd.toInt.toNat (by omega)
  refine lv_iload_n hx hb dX9_daysOn_0 rfl (lv_at hl 2 rfl) ?_
  refine lv_bipush (v := 24) hx hb dX9_daysOn_1 (by decide) ?_
  refine lv_idiv hx hb dX9_daysOn_3 (by decide) ?_
  refine lv_topi (fun n1 e1 => ?_)
  have f1 : n1.toInt = (ho).toInt / 24 := zz_divT 24 e1 (by decide) (by omega)
  refine lv_aload_n hx hb dX9_daysOn_4 rfl (lv_at hl 0 rfl) ?_
  refine lv_iload_n hx hb dX9_daysOn_5 rfl (lv_at hl 1 rfl) ?_
  refine lv_iconst (v := 4) hx hb dX9_daysOn_6 (by decide) ?_
  refine zz_callVp (As := [.int dd, .int 4]) (rest := [.int n1]) ⟨hx, hb, hml, hown, hts⟩ hK hP hS (c_X9_of l E σ h0 dd 4 g0 (by omega)) (cwV 2 hts gX9_daysOn_X9_of rfl rfl rfl (by decide +kernel) ⟨Nat.le_of_ble_eq_true rfl, Nat.le_of_ble_eq_true rfl⟩) (g0.1) rfl rfl hl.1 rfl (Nat.le_of_ble_eq_true rfl) dX9_daysOn_7 ⟨Nat.zero_le _, Nat.zero_le _⟩ (fun r2 H locs f2 hP1 hS1 => ?_)
  replace hP := hP1
  replace hS := hS1
  clear hP1 hS1
  have yo4 : r2.toInt = K.2.1 dd.toInt.toNat 4 := by rw [f2]; exact (congrArg (fun q => (σ (h0 + 1) q).toInt) (by omega)).trans (hW.at (j := dd.toInt.toNat) (f := 4) (by omega) (by decide))
  refine lv_isub hx hb dX9_daysOn_10 ?_
  refine lv_topi (fun n3 e3 => ?_)
  have f3 : n3.toInt = (n1).toInt - (r2).toInt := zz_subT e3 (by omega) (by omega)
  exact zz_iret hx hb hr hlocks hK hP hS dX9_daysOn_11 (by exact ⟨rfl, by omega⟩)
theorem gX9_isInForce_X9_of : GoodIn wzX9_isInForce (wsV RX9 51 RX9 yX9_of wzX9_of) := wz_co bm_240 (wz_co bm_241 (wz_co bm_242 (wz_co bm_5 (wz_in bm_243))))
theorem gX9_isInForce_X9_daysOn : GoodIn wzX9_isInForce (wsV RX9 55 RX9 yX9_daysOn wzX9_daysOn) := wz_co bm_248 (wz_co bm_249 (wz_co bm_250 (wz_co bm_5 (wz_in bm_251))))
set_option maxHeartbeats 4000000 in
set_option maxRecDepth 100000 in
theorem c_X9_isInForce (l : Launch) (E : zz_E) (σ : zz_S) (h0 : Nat) (dd : Int32) (ho : Int32) (g0 : zz_M E h0) (hx : 0 ≤ dd.toInt ∧ dd.toInt ≤ 8) (hhr : 0 ≤ ho.toInt ∧ ho.toInt ≤ 20000) (K : zy_W) (hW : zy_YW σ (h0 + 1) K) : Met l yX9_isInForce wzX9_isInForce ({ frames := 2, cells := 0, slots := 0, locals := 44 }) (va_Pc [.ref h0, .int dd, .int ho] (zz_B E σ)) (va_Qi (fun r σ1 => σ1 = σ ∧ (zy_bt r.toInt (zy_F K ho.toInt dd.toInt.toNat))) (zz_B E) (zz_A E)) 0 0 (zz_A E) := by
  refine zz_met (cc := cX9_isInForce) (maxL := 9) (ret := (some .boolean)) (by decide) rfl (Nat.le_of_ble_eq_true rfl) ?_
  intro p e s m args below meth c ls hx hb hr hts hown hlocks hml hK hP hS hl
  have hl : lv_has ls 9 [(0, .ref h0), (1, .int dd), (2, .int ho)] := hl
  have hown : s.vm.findClass RX9 = some m.cls := hown
  have hi9 : ∀ w ∈ wsX90, w ∈ wzX9_isInForce := fun w h => List.mem_cons_of_mem _ (hbw9 w h)
  have k_0 : (0 : Int32).toInt = 0 := by decide +kernel
  have k_1 : (1 : Int32).toInt = 1 := by decide +kernel
  have k_4 : (4 : Int32).toInt = 4 := by decide +kernel
  have k_5 : (5 : Int32).toInt = 5 := by decide +kernel
  have k_9 : (9 : Int32).toInt = 9 := by decide +kernel
  have k_12 : (12 : Int32).toInt = 12 := by decide +kernel
  have k_14 : (14 : Int32).toInt = 14 := by decide +kernel
  have k_24 : (24 : Int32).toInt = 24 := by decide +kernel
  have hcb := hW.2.2.2.2.2.1 dd.toInt.toNat (by omega)
  have hs7 := hW.2.2.1
  have hs8 := hW.2.2.2.2.2.2.2
  refine lv_aload_n hx hb dX9_isInForce_0 rfl (lv_at hl 0 rfl) ?_
  refine lv_iload_n hx hb dX9_isInForce_1 rfl (lv_at hl 1 rfl) ?_
  refine lv_iconst (v := 5) hx hb dX9_isInForce_2 (by decide) ?_
  refine zz_callVp (As := [.int dd, .int 5]) (rest := []) ⟨hx, hb, hml, hown, hts⟩ hK hP hS (c_X9_of l E σ h0 dd 5 g0 (by omega)) (cwV 2 hts gX9_isInForce_X9_of rfl rfl rfl (by decide +kernel) ⟨Nat.le_of_ble_eq_true rfl, Nat.le_of_ble_eq_true rfl⟩) (g0.1) rfl rfl hl.1 rfl (Nat.le_of_ble_eq_true rfl) dX9_isInForce_3 ⟨Nat.zero_le _, Nat.zero_le _⟩ (fun r1 H locs f1 hP1 hS1 => ?_)
  replace hP := hP1
  replace hS := hS1
  clear hP1 hS1
  have yo5 : r1.toInt = K.2.1 dd.toInt.toNat 5 := by rw [f1]; exact (congrArg (fun q => (σ (h0 + 1) q).toInt) (by omega)).trans (hW.at (j := dd.toInt.toNat) (f := 5) (by omega) (by decide))
  refine lv_iconst (v := 1) hx hb dX9_isInForce_6 (by decide) ?_
  refine lv_icmp_ne (tgt := 12) hx hb dX9_isInForce_7 (by decide) (fun c2 => ?_) (fun c2 => ?_)
  · have c2 := zz_neT c2
    refine lv_aload_n hx hb dX9_isInForce_12 rfl (lv_at hl 0 rfl) ?_
    refine lv_iload_n hx hb dX9_isInForce_13 rfl (lv_at hl 1 rfl) ?_
    refine lv_iconst (v := 1) hx hb dX9_isInForce_14 (by decide) ?_
    refine zz_callVp (As := [.int dd, .int 1]) (rest := []) ⟨hx, hb, hml, hown, hts⟩ hK hP hS (c_X9_of l E σ h0 dd 1 g0 (by omega)) (cwV 2 hts gX9_isInForce_X9_of rfl rfl rfl (by decide +kernel) ⟨Nat.le_of_ble_eq_true rfl, Nat.le_of_ble_eq_true rfl⟩) (g0.1) rfl rfl hl.1 rfl (Nat.le_of_ble_eq_true rfl) dX9_isInForce_15 ⟨Nat.zero_le _, Nat.zero_le _⟩ (fun r3 H locs f3 hP1 hS1 => ?_)
    replace hP := hP1
    replace hS := hS1
    clear hP1 hS1
    have yo1 : r3.toInt = K.2.1 dd.toInt.toNat 1 := by rw [f3]; exact (congrArg (fun q => (σ (h0 + 1) q).toInt) (by omega)).trans (hW.at (j := dd.toInt.toNat) (f := 1) (by omega) (by decide))
    refine lv_istore_n (lv' := [(3, .int r3), (0, .ref h0), (1, .int dd), (2, .int ho)]) hx hb dX9_isInForce_18 rfl hl (by decide) rfl (fun ls hl => ?_)
    refine lv_aload_n hx hb dX9_isInForce_19 rfl (lv_at hl 1 rfl) ?_
    refine lv_iload_n hx hb dX9_isInForce_20 rfl (lv_at hl 2 rfl) ?_
    refine lv_iload_n hx hb dX9_isInForce_21 rfl (lv_at hl 3 rfl) ?_
    refine zz_callVp (As := [.int dd, .int ho]) (rest := []) ⟨hx, hb, hml, hown, hts⟩ hK hP hS (c_X9_daysOn l E σ h0 dd ho g0 (by omega) (by exact hhr) K (by exact hW)) (cwV 2 hts gX9_isInForce_X9_daysOn rfl rfl rfl (by decide +kernel) ⟨Nat.le_of_ble_eq_true rfl, Nat.le_of_ble_eq_true rfl⟩) (g0.1) rfl rfl hl.1 rfl (Nat.le_of_ble_eq_true rfl) dX9_isInForce_22 ⟨Nat.zero_le _, Nat.zero_le _⟩ (fun r4 H locs f4 hP1 hS1 => ?_)
    replace hP := hP1
    replace hS := hS1
    clear hP1 hS1
    refine lv_istore (lv' := [(4, .int r4), (3, .int r3), (0, .ref h0), (1, .int dd), (2, .int ho)]) hx hb dX9_isInForce_25 hl (by decide) rfl (fun ls hl => ?_)
    refine lv_iload_n hx hb dX9_isInForce_27 rfl (lv_at hl 4 rfl) ?_
    refine lv_bipush (v := 24) hx hb dX9_isInForce_28 (by decide) ?_
    refine lv_irem hx hb dX9_isInForce_30 (by decide) ?_
    refine lv_topi (fun n5 e5 => ?_)
    have f5 : n5.toInt = (ho).toInt % 24 := zz_remT 24 e5 (by decide) (by omega)
    skip
    refine lv_istore (lv' := [(5, .int n5), (4, .int r4), (3, .int r3), (0, .ref h0), (1, .int dd), (2, .int ho)]) hx hb dX9_isInForce_31 hl (by decide) rfl (fun ls hl => ?_)
    have J56 : ∀ (na : Int32) (H : Heap) (locs : List Loc) (ls : Array Slot),  ((na.toInt = 1 ∧ 12 ≤ n5.toInt ∧ n5.toInt < K.2.2.2) ∨ (na.toInt = 0 ∧ ¬ (12 ≤ n5.toInt ∧ n5.toInt < K.2.2.2))) → zz_P E σ H → va_S (zz_A E) s.heap H locs → lv_has ls 9 [(5, .int n5), (4, .int r4), (3, .int r3), (0, .ref h0), (1, .int dd), (2, .int ho)] → W p l e (headSpec wzX9_isInForce ({ frames := 2, cells := 0, slots := 0, locals := 44 })).room s m args below meth c H locs 0 0 (MQ below (va_Qi (fun r σ1 => σ1 = σ ∧ (zy_bt r.toInt (zy_F K ho.toInt dd.toInt.toNat))) (zz_B E) (zz_A E)) args s 0 0 (zz_A E)) (F0 m 56 ls [.int na]) := by
      intro na H locs ls f56_0 hP hS hl
      refine lv_istore (lv' := [(6, .int na), (5, .int n5), (4, .int r4), (3, .int r3), (0, .ref h0), (1, .int dd), (2, .int ho)]) hx hb dX9_isInForce_56 hl (by decide) rfl (fun ls hl => ?_)
      have J86 : ∀ (nb : Int32) (H : Heap) (locs : List Loc) (ls : Array Slot),  ((nb.toInt = 1 ∧ r4.toInt = 0 ∧ 12 ≤ n5.toInt ∧ n5.toInt < K.2.2.2 ∧ n5.toInt < K.2.2.2 - K.2.1 dd.toInt.toNat 1) ∨ (nb.toInt = 0 ∧ ¬ (r4.toInt = 0 ∧ 12 ≤ n5.toInt ∧ n5.toInt < K.2.2.2 ∧ n5.toInt < K.2.2.2 - K.2.1 dd.toInt.toNat 1))) → zz_P E σ H → va_S (zz_A E) s.heap H locs → lv_has ls 9 [(6, .int na), (5, .int n5), (4, .int r4), (3, .int r3), (0, .ref h0), (1, .int dd), (2, .int ho)] → W p l e (headSpec wzX9_isInForce ({ frames := 2, cells := 0, slots := 0, locals := 44 })).room s m args below meth c H locs 0 0 (MQ below (va_Qi (fun r σ1 => σ1 = σ ∧ (zy_bt r.toInt (zy_F K ho.toInt dd.toInt.toNat))) (zz_B E) (zz_A E)) args s 0 0 (zz_A E)) (F0 m 86 ls [.int nb]) := by
        intro nb H locs ls f86_0 hP hS hl
        refine lv_istore (lv' := [(7, .int nb), (6, .int na), (5, .int n5), (4, .int r4), (3, .int r3), (0, .ref h0), (1, .int dd), (2, .int ho)]) hx hb dX9_isInForce_86 hl (by decide) rfl (fun ls hl => ?_)
        have J114 : ∀ (nc : Int32) (H : Heap) (locs : List Loc) (ls : Array Slot),  ((nc.toInt = 1 ∧ r4.toInt = 0 ∧ 14 ≤ n5.toInt ∧ n5.toInt < 14 + K.2.1 dd.toInt.toNat 1) ∨ (nc.toInt = 0 ∧ ¬ (r4.toInt = 0 ∧ 14 ≤ n5.toInt ∧ n5.toInt < 14 + K.2.1 dd.toInt.toNat 1))) → zz_P E σ H → va_S (zz_A E) s.heap H locs → lv_has ls 9 [(7, .int nb), (6, .int na), (5, .int n5), (4, .int r4), (3, .int r3), (0, .ref h0), (1, .int dd), (2, .int ho)] → W p l e (headSpec wzX9_isInForce ({ frames := 2, cells := 0, slots := 0, locals := 44 })).room s m args below meth c H locs 0 0 (MQ below (va_Qi (fun r σ1 => σ1 = σ ∧ (zy_bt r.toInt (zy_F K ho.toInt dd.toInt.toNat))) (zz_B E) (zz_A E)) args s 0 0 (zz_A E)) (F0 m 114 ls [.int nc]) := by
          intro nc H locs ls f114_0 hP hS hl
          refine lv_istore (lv' := [(8, .int nc), (7, .int nb), (6, .int na), (5, .int n5), (4, .int r4), (3, .int r3), (0, .ref h0), (1, .int dd), (2, .int ho)]) hx hb dX9_isInForce_114 hl (by decide) rfl (fun ls hl => ?_)
          refine lv_aload_n hx hb dX9_isInForce_116 rfl (lv_at hl 6 rfl) ?_
          refine lv_iload_n hx hb dX9_isInForce_117 rfl (lv_at hl 7 rfl) ?_
          refine lv_iconst (v := 0) hx hb dX9_isInForce_118 (by decide) ?_
          refine zz_callVp (As := [.int dd, .int 0]) (rest := []) ⟨hx, hb, hml, hown, hts⟩ hK hP hS (c_X9_of l E σ h0 dd 0 g0 (by omega)) (cwV 2 hts gX9_isInForce_X9_of rfl rfl rfl (by decide +kernel) ⟨Nat.le_of_ble_eq_true rfl, Nat.le_of_ble_eq_true rfl⟩) (g0.1) rfl rfl hl.1 rfl (Nat.le_of_ble_eq_true rfl) dX9_isInForce_119 ⟨Nat.zero_le _, Nat.zero_le _⟩ (fun r6 H locs f6 hP1 hS1 => ?_)
          replace hP := hP1
          replace hS := hS1
          clear hP1 hS1
          have yo0 : r6.toInt = K.2.1 dd.toInt.toNat 0 := by rw [f6]; exact (congrArg (fun q => (σ (h0 + 1) q).toInt) (by omega)).trans (hW.at (j := dd.toInt.toNat) (f := 0) (by omega) (by decide))
          by_cases c7 : (r6).toInt = 1
          · refine lv_tableIn (off := 38) (tgt := 160) hx hb dX9_isInForce_122 (by omega) (by omega) (by rw [show ((r6).toInt - (1)).toNat = 0 from by omega]; rfl) (by decide) ?_
            refine lv_iload hx hb dX9_isInForce_160 (lv_at hl 1 rfl) ?_
            exact zz_zret hx hb hr hlocks hK hP hS dX9_isInForce_162 (zz_01 (by omega)) (by exact ⟨rfl, zy_Fc.mk (x := r4.toInt) (y := n5.toInt) (by omega) (by omega) (by omega) (zy_Fo_1 (by omega) (by unfold zy_bt; omega))⟩)
          by_cases c8 : (r6).toInt = 2
          · refine lv_tableIn (off := 41) (tgt := 163) hx hb dX9_isInForce_122 (by omega) (by omega) (by rw [show ((r6).toInt - (1)).toNat = 1 from by omega]; rfl) (by decide) ?_
            refine lv_iload hx hb dX9_isInForce_163 (lv_at hl 0 rfl) ?_
            exact zz_zret hx hb hr hlocks hK hP hS dX9_isInForce_165 (zz_01 (by omega)) (by exact ⟨rfl, zy_Fc.mk (x := r4.toInt) (y := n5.toInt) (by omega) (by omega) (by omega) (zy_Fo_2 (by omega) (by unfold zy_bt; omega))⟩)
          by_cases c9 : (r6).toInt = 3
          · refine lv_tableIn (off := 44) (tgt := 166) hx hb dX9_isInForce_122 (by omega) (by omega) (by rw [show ((r6).toInt - (1)).toNat = 2 from by omega]; rfl) (by decide) ?_
            refine lv_iload hx hb dX9_isInForce_166 (lv_at hl 4 rfl) ?_
            refine lv_if_lt (tgt := 189) hx hb dX9_isInForce_168 (by decide) (fun c10 => ?_) (fun c10 => ?_)
            · have c10 := zz_ltT c10
              refine lv_iconst (v := 0) hx hb dX9_isInForce_189 (by decide) ?_
              exact zz_zret hx hb hr hlocks hK hP hS dX9_isInForce_190 (zz_01 (by omega)) (by exact ⟨rfl, zy_Fc.mk (x := r4.toInt) (y := n5.toInt) (by omega) (by omega) (by omega) (zy_Fo_3 (by omega) (by unfold zy_bt; omega))⟩)
            · have c10 := zz_nltT c10
              refine lv_iload hx hb dX9_isInForce_171 (lv_at hl 4 rfl) ?_
              refine lv_iload_n hx hb dX9_isInForce_173 rfl (lv_at hl 5 rfl) ?_
              refine lv_iconst (v := 1) hx hb dX9_isInForce_174 (by decide) ?_
              refine lv_iadd hx hb dX9_isInForce_175 ?_
              refine lv_topi (fun n11 e11 => ?_)
              have f11 : n11.toInt = (r3).toInt + (1 : Int32).toInt := zz_addT e11 (by omega) (by omega)
              refine lv_irem hx hb dX9_isInForce_176 (zz_ne0 (by omega)) ?_
              refine lv_topi (fun n12 e12 => ?_)
              have g9 := zz_remT (K.2.1 dd.toInt.toNat 1 + 1) e12 ⟨by omega, by omega⟩ (by omega)
              refine lv_if_ne (tgt := 189) hx hb dX9_isInForce_177 (by decide) (fun c13 => ?_) (fun c13 => ?_)
              · have c13 := zz_neT c13
                refine lv_iconst (v := 0) hx hb dX9_isInForce_189 (by decide) ?_
                exact zz_zret hx hb hr hlocks hK hP hS dX9_isInForce_190 (zz_01 (by omega)) (by exact ⟨rfl, zy_Fc.mk (x := r4.toInt) (y := n5.toInt) (by omega) (by omega) (by omega) (zy_Fo_3 (by omega) (by unfold zy_bt; omega))⟩)
              · have c13 := zz_eqT c13
                refine lv_iload hx hb dX9_isInForce_180 (lv_at hl 2 rfl) ?_
                refine lv_if_eq (tgt := 189) hx hb dX9_isInForce_182 (by decide) (fun c14 => ?_) (fun c14 => ?_)
                · have c14 := zz_eqT c14
                  refine lv_iconst (v := 0) hx hb dX9_isInForce_189 (by decide) ?_
                  exact zz_zret hx hb hr hlocks hK hP hS dX9_isInForce_190 (zz_01 (by omega)) (by exact ⟨rfl, zy_Fc.mk (x := r4.toInt) (y := n5.toInt) (by omega) (by omega) (by omega) (zy_Fo_3 (by omega) (by unfold zy_bt; omega))⟩)
                · have c14 := zz_neT c14
                  refine lv_iconst (v := 1) hx hb dX9_isInForce_185 (by decide) ?_
                  refine lv_goto (tgt := 190) hx hb dX9_isInForce_186 (by decide) ?_
                  exact zz_zret hx hb hr hlocks hK hP hS dX9_isInForce_190 (zz_01 (by omega)) (by exact ⟨rfl, zy_Fc.mk (x := r4.toInt) (y := n5.toInt) (by omega) (by omega) (by omega) (zy_Fo_3 (by omega) (by unfold zy_bt; omega))⟩)
          by_cases c15 : (r6).toInt = 4
          · refine lv_tableIn (off := 69) (tgt := 191) hx hb dX9_isInForce_122 (by omega) (by omega) (by rw [show ((r6).toInt - (1)).toNat = 3 from by omega]; rfl) (by decide) ?_
            refine lv_iload hx hb dX9_isInForce_191 (lv_at hl 1 rfl) ?_
            refine lv_if_ne (tgt := 217) hx hb dX9_isInForce_193 (by decide) (fun c16 => ?_) (fun c16 => ?_)
            · have c16 := zz_neT c16
              refine lv_iconst (v := 1) hx hb dX9_isInForce_217 (by decide) ?_
              refine lv_goto (tgt := 222) hx hb dX9_isInForce_218 (by decide) ?_
              exact zz_zret hx hb hr hlocks hK hP hS dX9_isInForce_222 (zz_01 (by omega)) (by exact ⟨rfl, zy_Fc.mk (x := r4.toInt) (y := n5.toInt) (by omega) (by omega) (by omega) (zy_Fo_4 (by omega) (by unfold zy_bt; omega))⟩)
            · have c16 := zz_eqT c16
              refine lv_iload hx hb dX9_isInForce_196 (lv_at hl 4 rfl) ?_
              refine lv_if_ne (tgt := 221) hx hb dX9_isInForce_198 (by decide) (fun c17 => ?_) (fun c17 => ?_)
              · have c17 := zz_neT c17
                refine lv_iconst (v := 0) hx hb dX9_isInForce_221 (by decide) ?_
                exact zz_zret hx hb hr hlocks hK hP hS dX9_isInForce_222 (zz_01 (by omega)) (by exact ⟨rfl, zy_Fc.mk (x := r4.toInt) (y := n5.toInt) (by omega) (by omega) (by omega) (zy_Fo_4 (by omega) (by unfold zy_bt; omega))⟩)
              · have c17 := zz_eqT c17
                refine lv_iload hx hb dX9_isInForce_201 (lv_at hl 3 rfl) ?_
                refine lv_bipush (v := 12) hx hb dX9_isInForce_203 (by decide) ?_
                refine lv_icmp_ge (tgt := 221) hx hb dX9_isInForce_205 (by decide) (fun c18 => ?_) (fun c18 => ?_)
                · have c18 := zz_leT c18
                  refine lv_iconst (v := 0) hx hb dX9_isInForce_221 (by decide) ?_
                  exact zz_zret hx hb hr hlocks hK hP hS dX9_isInForce_222 (zz_01 (by omega)) (by exact ⟨rfl, zy_Fc.mk (x := r4.toInt) (y := n5.toInt) (by omega) (by omega) (by omega) (zy_Fo_4 (by omega) (by unfold zy_bt; omega))⟩)
                · have c18 := zz_nleT c18
                  refine lv_iload hx hb dX9_isInForce_208 (lv_at hl 3 rfl) ?_
                  refine lv_bipush (v := 12) hx hb dX9_isInForce_210 (by decide) ?_
                  refine lv_iload_n hx hb dX9_isInForce_212 rfl (lv_at hl 5 rfl) ?_
                  refine lv_isub hx hb dX9_isInForce_213 ?_
                  refine lv_topi (fun n19 e19 => ?_)
                  have f19 : n19.toInt = (12 : Int32).toInt - (r3).toInt := zz_subT e19 (by omega) (by omega)
                  refine lv_icmp_lt (tgt := 221) hx hb dX9_isInForce_214 (by decide) (fun c20 => ?_) (fun c20 => ?_)
                  · have c20 := zz_ltT c20
                    refine lv_iconst (v := 0) hx hb dX9_isInForce_221 (by decide) ?_
                    exact zz_zret hx hb hr hlocks hK hP hS dX9_isInForce_222 (zz_01 (by omega)) (by exact ⟨rfl, zy_Fc.mk (x := r4.toInt) (y := n5.toInt) (by omega) (by omega) (by omega) (zy_Fo_4 (by omega) (by unfold zy_bt; omega))⟩)
                  · have c20 := zz_nltT c20
                    refine lv_iconst (v := 1) hx hb dX9_isInForce_217 (by decide) ?_
                    refine lv_goto (tgt := 222) hx hb dX9_isInForce_218 (by decide) ?_
                    exact zz_zret hx hb hr hlocks hK hP hS dX9_isInForce_222 (zz_01 (by omega)) (by exact ⟨rfl, zy_Fc.mk (x := r4.toInt) (y := n5.toInt) (by omega) (by omega) (by omega) (zy_Fo_4 (by omega) (by unfold zy_bt; omega))⟩)
          by_cases c21 : (r6).toInt = 5
          · refine lv_tableIn (off := 101) (tgt := 223) hx hb dX9_isInForce_122 (by omega) (by omega) (by rw [show ((r6).toInt - (1)).toNat = 4 from by omega]; rfl) (by decide) ?_
            refine lv_iload hx hb dX9_isInForce_223 (lv_at hl 0 rfl) ?_
            refine lv_if_ne (tgt := 240) hx hb dX9_isInForce_225 (by decide) (fun c22 => ?_) (fun c22 => ?_)
            · have c22 := zz_neT c22
              refine lv_iconst (v := 1) hx hb dX9_isInForce_240 (by decide) ?_
              refine lv_goto (tgt := 245) hx hb dX9_isInForce_241 (by decide) ?_
              exact zz_zret hx hb hr hlocks hK hP hS dX9_isInForce_245 (zz_01 (by omega)) (by exact ⟨rfl, zy_Fc.mk (x := r4.toInt) (y := n5.toInt) (by omega) (by omega) (by omega) (zy_Fo_5 (by omega) (by unfold zy_bt; omega))⟩)
            · have c22 := zz_eqT c22
              refine lv_iload hx hb dX9_isInForce_228 (lv_at hl 4 rfl) ?_
              refine lv_iconst (v := 1) hx hb dX9_isInForce_230 (by decide) ?_
              refine lv_icmp_ne (tgt := 244) hx hb dX9_isInForce_231 (by decide) (fun c23 => ?_) (fun c23 => ?_)
              · have c23 := zz_neT c23
                refine lv_iconst (v := 0) hx hb dX9_isInForce_244 (by decide) ?_
                exact zz_zret hx hb hr hlocks hK hP hS dX9_isInForce_245 (zz_01 (by omega)) (by exact ⟨rfl, zy_Fc.mk (x := r4.toInt) (y := n5.toInt) (by omega) (by omega) (by omega) (zy_Fo_5 (by omega) (by unfold zy_bt; omega))⟩)
              · have c23 := zz_eqT c23
                refine lv_iload hx hb dX9_isInForce_234 (lv_at hl 3 rfl) ?_
                refine lv_iload_n hx hb dX9_isInForce_236 rfl (lv_at hl 5 rfl) ?_
                refine lv_icmp_ge (tgt := 244) hx hb dX9_isInForce_237 (by decide) (fun c24 => ?_) (fun c24 => ?_)
                · have c24 := zz_leT c24
                  refine lv_iconst (v := 0) hx hb dX9_isInForce_244 (by decide) ?_
                  exact zz_zret hx hb hr hlocks hK hP hS dX9_isInForce_245 (zz_01 (by omega)) (by exact ⟨rfl, zy_Fc.mk (x := r4.toInt) (y := n5.toInt) (by omega) (by omega) (by omega) (zy_Fo_5 (by omega) (by unfold zy_bt; omega))⟩)
                · have c24 := zz_nleT c24
                  refine lv_iconst (v := 1) hx hb dX9_isInForce_240 (by decide) ?_
                  refine lv_goto (tgt := 245) hx hb dX9_isInForce_241 (by decide) ?_
                  exact zz_zret hx hb hr hlocks hK hP hS dX9_isInForce_245 (zz_01 (by omega)) (by exact ⟨rfl, zy_Fc.mk (x := r4.toInt) (y := n5.toInt) (by omega) (by omega) (by omega) (zy_Fo_5 (by omega) (by unfold zy_bt; omega))⟩)
          by_cases c25 : (r6).toInt = 6
          · refine lv_tableIn (off := 124) (tgt := 246) hx hb dX9_isInForce_122 (by omega) (by omega) (by rw [show ((r6).toInt - (1)).toNat = 5 from by omega]; rfl) (by decide) ?_
            refine lv_iload_n hx hb dX9_isInForce_246 rfl (lv_at hl 5 rfl) ?_
            refine lv_bipush (v := 9) hx hb dX9_isInForce_247 (by decide) ?_
            refine lv_icmp_ne (tgt := 266) hx hb dX9_isInForce_249 (by decide) (fun c26 => ?_) (fun c26 => ?_)
            · have c26 := zz_neT c26
              refine lv_iconst (v := 0) hx hb dX9_isInForce_266 (by decide) ?_
              exact zz_zret hx hb hr hlocks hK hP hS dX9_isInForce_267 (zz_01 (by omega)) (by exact ⟨rfl, zy_Fc.mk (x := r4.toInt) (y := n5.toInt) (by omega) (by omega) (by omega) (zy_Fo_6 (by omega) (by unfold zy_bt; omega))⟩)
            · have c26 := zz_eqT c26
              refine lv_iload hx hb dX9_isInForce_252 (lv_at hl 4 rfl) ?_
              refine lv_if_ne (tgt := 266) hx hb dX9_isInForce_254 (by decide) (fun c27 => ?_) (fun c27 => ?_)
              · have c27 := zz_neT c27
                refine lv_iconst (v := 0) hx hb dX9_isInForce_266 (by decide) ?_
                exact zz_zret hx hb hr hlocks hK hP hS dX9_isInForce_267 (zz_01 (by omega)) (by exact ⟨rfl, zy_Fc.mk (x := r4.toInt) (y := n5.toInt) (by omega) (by omega) (by omega) (zy_Fo_6 (by omega) (by unfold zy_bt; omega))⟩)
              · have c27 := zz_eqT c27
                refine lv_iload hx hb dX9_isInForce_257 (lv_at hl 2 rfl) ?_
                refine lv_if_eq (tgt := 266) hx hb dX9_isInForce_259 (by decide) (fun c28 => ?_) (fun c28 => ?_)
                · have c28 := zz_eqT c28
                  refine lv_iconst (v := 0) hx hb dX9_isInForce_266 (by decide) ?_
                  exact zz_zret hx hb hr hlocks hK hP hS dX9_isInForce_267 (zz_01 (by omega)) (by exact ⟨rfl, zy_Fc.mk (x := r4.toInt) (y := n5.toInt) (by omega) (by omega) (by omega) (zy_Fo_6 (by omega) (by unfold zy_bt; omega))⟩)
                · have c28 := zz_neT c28
                  refine lv_iconst (v := 1) hx hb dX9_isInForce_262 (by decide) ?_
                  refine lv_goto (tgt := 267) hx hb dX9_isInForce_263 (by decide) ?_
                  exact zz_zret hx hb hr hlocks hK hP hS dX9_isInForce_267 (zz_01 (by omega)) (by exact ⟨rfl, zy_Fc.mk (x := r4.toInt) (y := n5.toInt) (by omega) (by omega) (by omega) (zy_Fo_6 (by omega) (by unfold zy_bt; omega))⟩)
          refine lv_tableOut (tgt := 268) hx hb dX9_isInForce_122 (by omega) (by decide) ?_
          refine lv_iload hx hb dX9_isInForce_268 (lv_at hl 4 rfl) ?_
          refine lv_if_ne (tgt := 282) hx hb dX9_isInForce_270 (by decide) (fun c29 => ?_) (fun c29 => ?_)
          · have c29 := zz_neT c29
            refine lv_iconst (v := 0) hx hb dX9_isInForce_282 (by decide) ?_
            exact zz_zret hx hb hr hlocks hK hP hS dX9_isInForce_283 (zz_01 (by omega)) (by exact ⟨rfl, zy_Fc.mk (x := r4.toInt) (y := n5.toInt) (by omega) (by omega) (by omega) (zy_Fo_d (by omega) (by unfold zy_bt; omega))⟩)
          · have c29 := zz_eqT c29
            refine lv_iload hx hb dX9_isInForce_273 (lv_at hl 2 rfl) ?_
            refine lv_if_eq (tgt := 282) hx hb dX9_isInForce_275 (by decide) (fun c30 => ?_) (fun c30 => ?_)
            · have c30 := zz_eqT c30
              refine lv_iconst (v := 0) hx hb dX9_isInForce_282 (by decide) ?_
              exact zz_zret hx hb hr hlocks hK hP hS dX9_isInForce_283 (zz_01 (by omega)) (by exact ⟨rfl, zy_Fc.mk (x := r4.toInt) (y := n5.toInt) (by omega) (by omega) (by omega) (zy_Fo_d (by omega) (by unfold zy_bt; omega))⟩)
            · have c30 := zz_neT c30
              refine lv_iconst (v := 1) hx hb dX9_isInForce_278 (by decide) ?_
              refine lv_goto (tgt := 283) hx hb dX9_isInForce_279 (by decide) ?_
              exact zz_zret hx hb hr hlocks hK hP hS dX9_isInForce_283 (zz_01 (by omega)) (by exact ⟨rfl, zy_Fc.mk (x := r4.toInt) (y := n5.toInt) (by omega) (by omega) (by omega) (zy_Fo_d (by omega) (by unfold zy_bt; omega))⟩)
        refine lv_iload hx hb dX9_isInForce_88 (lv_at hl 3 rfl) ?_
        refine lv_if_ne (tgt := 113) hx hb dX9_isInForce_90 (by decide) (fun c31 => ?_) (fun c31 => ?_)
        · have c31 := zz_neT c31
          refine lv_iconst (v := 0) hx hb dX9_isInForce_113 (by decide) ?_
          exact J114 0 _ _ _ (by omega) hP hS (lv_sub hl [0, 1, 2, 3, 4, 5, 6, 7] rfl)
        · have c31 := zz_eqT c31
          refine lv_iload hx hb dX9_isInForce_93 (lv_at hl 2 rfl) ?_
          refine lv_bipush (v := 14) hx hb dX9_isInForce_95 (by decide) ?_
          refine lv_icmp_lt (tgt := 113) hx hb dX9_isInForce_97 (by decide) (fun c32 => ?_) (fun c32 => ?_)
          · have c32 := zz_ltT c32
            refine lv_iconst (v := 0) hx hb dX9_isInForce_113 (by decide) ?_
            exact J114 0 _ _ _ (by omega) hP hS (lv_sub hl [0, 1, 2, 3, 4, 5, 6, 7] rfl)
          · have c32 := zz_nltT c32
            refine lv_iload hx hb dX9_isInForce_100 (lv_at hl 2 rfl) ?_
            refine lv_bipush (v := 14) hx hb dX9_isInForce_102 (by decide) ?_
            refine lv_iload_n hx hb dX9_isInForce_104 rfl (lv_at hl 4 rfl) ?_
            refine lv_iadd hx hb dX9_isInForce_105 ?_
            refine lv_topi (fun n33 e33 => ?_)
            have f33 : n33.toInt = (14 : Int32).toInt + (r3).toInt := zz_addT e33 (by omega) (by omega)
            refine lv_icmp_ge (tgt := 113) hx hb dX9_isInForce_106 (by decide) (fun c34 => ?_) (fun c34 => ?_)
            · have c34 := zz_leT c34
              refine lv_iconst (v := 0) hx hb dX9_isInForce_113 (by decide) ?_
              exact J114 0 _ _ _ (by omega) hP hS (lv_sub hl [0, 1, 2, 3, 4, 5, 6, 7] rfl)
            · have c34 := zz_nleT c34
              refine lv_iconst (v := 1) hx hb dX9_isInForce_109 (by decide) ?_
              refine lv_goto (tgt := 114) hx hb dX9_isInForce_110 (by decide) ?_
              exact J114 1 _ _ _ (by omega) hP hS (lv_sub hl [0, 1, 2, 3, 4, 5, 6, 7] rfl)
      refine lv_iload hx hb dX9_isInForce_58 (lv_at hl 2 rfl) ?_
      refine lv_if_ne (tgt := 85) hx hb dX9_isInForce_60 (by decide) (fun c35 => ?_) (fun c35 => ?_)
      · have c35 := zz_neT c35
        refine lv_iconst (v := 0) hx hb dX9_isInForce_85 (by decide) ?_
        exact J86 0 _ _ _ (by omega) hP hS (lv_sub hl [0, 1, 2, 3, 4, 5, 6] rfl)
      · have c35 := zz_eqT c35
        refine lv_iload hx hb dX9_isInForce_63 (lv_at hl 0 rfl) ?_
        refine lv_if_eq (tgt := 85) hx hb dX9_isInForce_65 (by decide) (fun c36 => ?_) (fun c36 => ?_)
        · have c36 := zz_eqT c36
          refine lv_iconst (v := 0) hx hb dX9_isInForce_85 (by decide) ?_
          exact J86 0 _ _ _ (by omega) hP hS (lv_sub hl [0, 1, 2, 3, 4, 5, 6] rfl)
        · have c36 := zz_neT c36
          refine lv_iload hx hb dX9_isInForce_68 (lv_at hl 1 rfl) ?_
          refine lv_aload_n hx hb dX9_isInForce_70 rfl (lv_at hl 4 rfl) ?_
          refine zz_getr hx hb hts hi9 hown hK hP (g0.1) rfl 0 (by decide) (hts (.fieldLink RX9 9 "NoonLawModel" "row" "[I") (List.mem_cons_of_mem _ bm_93)) rfl rfl dX9_isInForce_71 ?_
          refine lv_iconst (v := 4) hx hb dX9_isInForce_74 (by decide) ?_
          refine zz_ialc hx hb hK hP (g0.2.1) 4 (by decide) (by decide) rfl dX9_isInForce_75 ?_
          refine lv_iload_n hx hb dX9_isInForce_76 rfl (lv_at hl 3 rfl) ?_
          refine lv_isub hx hb dX9_isInForce_77 ?_
          refine lv_topi (fun n38 e38 => ?_)
          have f38 : n38.toInt = (σ (h0 + 1) 4).toInt - (r3).toInt := zz_subT e38 (by omega) (by omega)
          refine lv_icmp_ge (tgt := 85) hx hb dX9_isInForce_78 (by decide) (fun c39 => ?_) (fun c39 => ?_)
          · have c39 := zz_leT c39
            refine lv_iconst (v := 0) hx hb dX9_isInForce_85 (by decide) ?_
            exact J86 0 _ _ _ (by omega) hP hS (lv_sub hl [0, 1, 2, 3, 4, 5, 6] rfl)
          · have c39 := zz_nleT c39
            refine lv_iconst (v := 1) hx hb dX9_isInForce_81 (by decide) ?_
            refine lv_goto (tgt := 86) hx hb dX9_isInForce_82 (by decide) ?_
            exact J86 1 _ _ _ (by omega) hP hS (lv_sub hl [0, 1, 2, 3, 4, 5, 6] rfl)
    refine lv_iload hx hb dX9_isInForce_33 (lv_at hl 0 rfl) ?_
    refine lv_bipush (v := 12) hx hb dX9_isInForce_35 (by decide) ?_
    refine lv_icmp_lt (tgt := 55) hx hb dX9_isInForce_37 (by decide) (fun c40 => ?_) (fun c40 => ?_)
    · have c40 := zz_ltT c40
      refine lv_iconst (v := 0) hx hb dX9_isInForce_55 (by decide) ?_
      exact J56 0 _ _ _ (by omega) hP hS (lv_sub hl [0, 1, 2, 3, 4, 5] rfl)
    · have c40 := zz_nltT c40
      refine lv_iload hx hb dX9_isInForce_40 (lv_at hl 0 rfl) ?_
      refine lv_aload_n hx hb dX9_isInForce_42 rfl (lv_at hl 3 rfl) ?_
      refine zz_getr hx hb hts hi9 hown hK hP (g0.1) rfl 0 (by decide) (hts (.fieldLink RX9 9 "NoonLawModel" "row" "[I") (List.mem_cons_of_mem _ bm_93)) rfl rfl dX9_isInForce_43 ?_
      refine lv_iconst (v := 4) hx hb dX9_isInForce_46 (by decide) ?_
      refine zz_ialc hx hb hK hP (g0.2.1) 4 (by decide) (by decide) rfl dX9_isInForce_47 ?_
      refine lv_icmp_ge (tgt := 55) hx hb dX9_isInForce_48 (by decide) (fun c42 => ?_) (fun c42 => ?_)
      · have c42 := zz_leT c42
        refine lv_iconst (v := 0) hx hb dX9_isInForce_55 (by decide) ?_
        exact J56 0 _ _ _ (by omega) hP hS (lv_sub hl [0, 1, 2, 3, 4, 5] rfl)
      · have c42 := zz_nleT c42
        refine lv_iconst (v := 1) hx hb dX9_isInForce_51 (by decide) ?_
        refine lv_goto (tgt := 56) hx hb dX9_isInForce_52 (by decide) ?_
        exact J56 1 _ _ _ (by omega) hP hS (lv_sub hl [0, 1, 2, 3, 4, 5] rfl)
  · have c2 := zz_eqT c2
    refine lv_iconst (v := 0) hx hb dX9_isInForce_10 (by decide) ?_
    exact zz_zret hx hb hr hlocks hK hP hS dX9_isInForce_11 (zz_01 (by omega)) (by exact ⟨rfl, zy_Fc.gone (by omega) k_0⟩)
