set_option maxHeartbeats 4000000 in
set_option maxRecDepth 100000 in
theorem c_X8_commonDivisor (l : Launch) (E : zz_E) (σ : zz_S) (aa : Int32) (bb : Int32) (h1 : bb.toInt = 48 ∧ 0 ≤ aa.toInt) : Met l yX8_commonDivisor wzX8_commonDivisor ({ frames := 0, cells := 0, slots := 0, locals := 0 }) (va_Pc [.int aa, .int bb] (zz_B E σ)) (va_Qi (fun r σ1 => σ1 = σ ∧ (r.toInt = zy_g48 aa.toInt ∧ 1 ≤ r.toInt)) (zz_B E) (zz_A E)) 0 0 (zz_A E) := by
  refine zz_met (cc := cX8_commonDivisor) (maxL := 3) (ret := (some .int)) (by decide) rfl (Nat.le_of_ble_eq_true rfl) ?_
  intro p e s m args below meth c ls hx hb hr hts hown hlocks hml hK hP hS hl
  have hl : lv_has ls 3 [(0, .int aa), (1, .int bb)] := hl
  have hown : s.vm.findClass RX8 = some m.cls := hown
  have k_m1 : ((-1) : Int32).toInt = -1 := by decide +kernel
  have k_0 : (0 : Int32).toInt = 0 := by decide +kernel
  have k_1 : (1 : Int32).toInt = 1 := by decide +kernel
  obtain ⟨X9, hX9⟩ : ∃ X : Int, zz_hid (zy_gd 48 aa.toInt = X) := ⟨_, rfl⟩
  refine lv_iload_n hx hb dX8_commonDivisor_0 rfl (lv_at hl 1 rfl) ?_
  refine lv_istore_n (lv' := [(2, .int bb), (0, .int aa), (1, .int bb)]) hx hb dX8_commonDivisor_1 rfl hl (by decide) rfl (fun ls hl => ?_)
  have J2 : ∀ (n : Nat) (by9 : Int32) (H : Heap) (locs : List Loc) (ls : Array Slot), (by9.toInt.toNat) < n → (1 ≤ by9.toInt ∧ by9.toInt ≤ 48) → (zz_hid (zy_gd by9.toInt.toNat aa.toInt = X9)) → zz_P E σ H → va_S (zz_A E) s.heap H locs → lv_has ls 3 [(2, .int by9), (0, .int aa), (1, .int bb)] → W p l e (headSpec wzX8_commonDivisor ({ frames := 0, cells := 0, slots := 0, locals := 0 })).room s m args below meth c H locs 0 0 (MQ below (va_Qi (fun r σ1 => σ1 = σ ∧ (r.toInt = zy_g48 aa.toInt ∧ 1 ≤ r.toInt)) (zz_B E) (zz_A E)) args s 0 0 (zz_A E)) (F0 m 2 ls []) := by
    intro n
    induction n with
    | zero => intro by9 H locs ls hm; exact absurd hm (Nat.not_lt_zero _)
    | succ n ih2 =>
      intro by9 H locs ls hm f2_0 f2_1 hP hS hl
      refine lv_iload_n hx hb dX8_commonDivisor_2 rfl (lv_at hl 0 rfl) ?_
      refine lv_iconst (v := 1) hx hb dX8_commonDivisor_3 (by decide) ?_
      refine lv_icmp_le (tgt := 27) hx hb dX8_commonDivisor_4 (by decide) (fun c1 => ?_) (fun c1 => ?_)
      · have c1 := zz_leT c1
        refine lv_iconst (v := 1) hx hb dX8_commonDivisor_27 (by decide) ?_
        have g := zy_gd_1 (b := by9.toInt.toNat) (by omega) f2_1
        exact zz_iret hx hb hr hlocks hK hP hS dX8_commonDivisor_28 (by exact ⟨rfl, by rw [zy_g48_eq]; exact (show _ = _ from by omega : (1 : Int32).toInt = X9).trans (show zy_gd 48 aa.toInt = X9 from hX9).symm, by omega⟩)
      · have c1 := zz_nleT c1
        refine lv_iload_n hx hb dX8_commonDivisor_7 rfl (lv_at hl 1 rfl) ?_
        refine lv_iload_n hx hb dX8_commonDivisor_8 rfl (lv_at hl 0 rfl) ?_
        refine lv_irem hx hb dX8_commonDivisor_9 (zz_ne0 (by omega)) ?_
        refine lv_topi (fun n2 e2 => ?_)
        have g9 := zz_remT by9.toInt e2 ⟨rfl, by omega⟩ (by omega)
        refine lv_if_ne (tgt := 21) hx hb dX8_commonDivisor_10 (by decide) (fun c3 => ?_) (fun c3 => ?_)
        · have c3 := zz_neT c3
          obtain ⟨n4, e4⟩ : ∃ y : Int32, y = by9 + (-1) := ⟨_, rfl⟩
          have f4 : n4.toInt = (by9).toInt + (-1) := by have h9 := zz_addT e4 (by omega) (by omega); omega
          refine lv_iinc (v := n4) (lv' := [(2, .int n4), (0, .int aa), (1, .int bb)]) hx hb dX8_commonDivisor_21 hl (k := 0) rfl (by rw [e4]; rfl) (by decide) rfl (fun ls hl => ?_)
          refine lv_goto (tgt := 2) hx hb dX8_commonDivisor_24 (by decide) ?_
          exact ih2 n4 _ _ _ (by omega) (by omega) (by exact zy_gd_go (b := by9.toInt.toNat) (by omega) (by rw [show ((by9.toInt.toNat : Nat) : Int) = by9.toInt from by omega]; omega) f2_1 (by omega)) hP hS (lv_sub hl [0, 1, 2] rfl)
        · have c3 := zz_eqT c3
          refine lv_iload_n hx hb dX8_commonDivisor_13 rfl (lv_at hl 2 rfl) ?_
          refine lv_iload_n hx hb dX8_commonDivisor_14 rfl (lv_at hl 0 rfl) ?_
          refine lv_irem hx hb dX8_commonDivisor_15 (zz_ne0 (by omega)) ?_
          refine lv_topi (fun n5 e5 => ?_)
          have g8 := zz_remT by9.toInt e5 ⟨rfl, by omega⟩ (by omega)
          rw [h1.1] at g8
          refine lv_if_ne (tgt := 21) hx hb dX8_commonDivisor_16 (by decide) (fun c6 => ?_) (fun c6 => ?_)
          · have c6 := zz_neT c6
            obtain ⟨n7, e7⟩ : ∃ y : Int32, y = by9 + (-1) := ⟨_, rfl⟩
            have f7 : n7.toInt = (by9).toInt + (-1) := by have h9 := zz_addT e7 (by omega) (by omega); omega
            refine lv_iinc (v := n7) (lv' := [(2, .int n7), (0, .int aa), (1, .int bb)]) hx hb dX8_commonDivisor_21 hl (k := 0) rfl (by rw [e7]; rfl) (by decide) rfl (fun ls hl => ?_)
            refine lv_goto (tgt := 2) hx hb dX8_commonDivisor_24 (by decide) ?_
            exact ih2 n7 _ _ _ (by omega) (by omega) (by exact zy_gd_go (b := by9.toInt.toNat) (by omega) (by rw [show ((by9.toInt.toNat : Nat) : Int) = by9.toInt from by omega]; omega) f2_1 (by omega)) hP hS (lv_sub hl [0, 1, 2] rfl)
          · have c6 := zz_eqT c6
            refine lv_iload_n hx hb dX8_commonDivisor_19 rfl (lv_at hl 0 rfl) ?_
            have g := zy_gd_hit (b := by9.toInt.toNat) (by omega) (by rw [show ((by9.toInt.toNat : Nat) : Int) = by9.toInt from by omega]; omega) (by rw [show ((by9.toInt.toNat : Nat) : Int) = by9.toInt from by omega]; omega) f2_1
            exact zz_iret hx hb hr hlocks hK hP hS dX8_commonDivisor_20 (by exact ⟨rfl, by rw [zy_g48_eq]; exact (show _ = _ from by omega : by9.toInt = X9).trans (show zy_gd 48 aa.toInt = X9 from hX9).symm, by omega⟩)
  exact J2 _ bb _ _ _ (Nat.lt_succ_self _) (by omega) (by rw [show bb.toInt.toNat = 48 from by omega]; exact hX9) hP hS (lv_sub hl [0, 1, 2] rfl)
theorem gX8_rightOf_X4_under : GoodIn wzX8_rightOf (wsV RX8 207 RX4 yX4_under wzX4_under) := wz_co bm_638 (wz_co bm_639 (wz_co bm_640 (wz_co bm_30 (wz_in bm_641))))
set_option maxHeartbeats 4000000 in
set_option maxRecDepth 100000 in
theorem c_X8_rightOf (l : Launch) (E : zz_E) (σ : zz_S) (h0 : Nat) (h1 : Nat) (g0 : zz_L E h0) (g_h1 : zz_Sh E h1) (hs : 0 ≤ (σ h1 1).toInt ∧ (σ h1 1).toInt ≤ 24) (C9 : Nat → Int) (hcx : ∀ n : Nat, n < 10 → (σ (h1 + 1) n).toInt = C9 n) (K : zy_W) (hh9 : Int) (hS9 : zy_SG σ (h0 + 61) K hh9) : Met l yX8_rightOf wzX8_rightOf ({ frames := 1, cells := 0, slots := 0, locals := 22 }) (va_Pc [.ref h0, .ref h1] (zz_B E σ)) (va_Qi (fun r σ1 => σ1 = σ ∧ (r.toInt = ((zy_rt (fun n : Nat => C9 n = zy_u K hh9 (n : Int)) (min (σ h1 1).toInt 10).toNat 0 : Nat) : Int) ∧ 0 ≤ r.toInt ∧ r.toInt ≤ (min (σ h1 1).toInt 10))) (zz_B E) (zz_A E)) 0 0 (zz_A E) := by
  refine zz_met (cc := cX8_rightOf) (maxL := 4) (ret := (some .int)) (by decide) rfl (Nat.le_of_ble_eq_true rfl) ?_
  intro p e s m args below meth c ls hx hb hr hts hown hlocks hml hK hP hS hl
  have hl : lv_has ls 4 [(0, .ref h0), (1, .ref h1)] := hl
  have hown : s.vm.findClass RX8 = some m.cls := hown
  have hi3 : ∀ w ∈ wsX30, w ∈ wzX8_rightOf := fun w h => List.mem_cons_of_mem _ (hbw3 w h)
  have hi8 : ∀ w ∈ wsX80, w ∈ wzX8_rightOf := fun w h => List.mem_cons_of_mem _ (hbw8 w h)
  have k_0 : (0 : Int32).toInt = 0 := by decide +kernel
  have k_1 : (1 : Int32).toInt = 1 := by decide +kernel
  have k_10 : (10 : Int32).toInt = 10 := by decide +kernel
  refine lv_aload_n hx hb dX8_rightOf_0 rfl (lv_at hl 1 rfl) ?_
  refine zz_geti hx hb hts hi3 hown hK hP (g_h1.1) rfl 1 (by decide) (hts (.fieldLink RX8 249 "NoonLaw$Sheet" "length" "I") (List.mem_cons_of_mem _ bm_764)) rfl rfl rfl dX8_rightOf_1 ?_
  refine lv_bipush (v := 10) hx hb dX8_rightOf_4 (by decide) ?_
  refine va_mmin hx hb (hml.trans hl.1.symm) hown (hts (.methodLink RX8 227 Lib.Math.min.name) (List.mem_cons_of_mem _ bm_674)) (hts (.static Lib.Math.min.name) (List.mem_cons_of_mem _ bm_226)) (hts (.initialized "java/lang/Math") (List.mem_cons_of_mem _ bm_227)) (hts (.code Lib.Math.min.name Lib.Math.min.code 2 (some .int)) (List.mem_cons_of_mem _ bm_228)) (Nat.le_of_ble_eq_true rfl) (Nat.le_of_ble_eq_true rfl) (Nat.zero_le _) (Nat.zero_le _) dX8_rightOf_6 ?_
  refine lv_topi (fun n1 e1 => ?_)
  have f1 := zz_minT e1
  refine lv_istore_n (lv' := [(2, .int n1), (0, .ref h0), (1, .ref h1)]) hx hb dX8_rightOf_9 rfl hl (by decide) rfl (fun ls hl => ?_)
  refine lv_iconst (v := 0) hx hb dX8_rightOf_10 (by decide) ?_
  refine lv_istore_n (lv' := [(3, .int 0), (2, .int n1), (0, .ref h0), (1, .ref h1)]) hx hb dX8_rightOf_11 rfl hl (by decide) rfl (fun ls hl => ?_)
  have J12 : ∀ (n : Nat) (ii : Int32) (H : Heap) (locs : List Loc) (ls : Array Slot), ((24 - ii.toInt).toNat) < n → (0 ≤ ii.toInt ∧ ii.toInt ≤ (min (σ h1 1).toInt 10)) → (zy_rt (fun n : Nat => C9 n = zy_u K hh9 (n : Int)) ((min (σ h1 1).toInt 10).toNat - ii.toInt.toNat) ii.toInt.toNat = zy_rt (fun n : Nat => C9 n = zy_u K hh9 (n : Int)) (min (σ h1 1).toInt 10).toNat 0) → zz_P E σ H → va_S (zz_A E) s.heap H locs → lv_has ls 4 [(3, .int ii), (2, .int n1), (0, .ref h0), (1, .ref h1)] → W p l e (headSpec wzX8_rightOf ({ frames := 1, cells := 0, slots := 0, locals := 22 })).room s m args below meth c H locs 0 0 (MQ below (va_Qi (fun r σ1 => σ1 = σ ∧ (r.toInt = ((zy_rt (fun n : Nat => C9 n = zy_u K hh9 (n : Int)) (min (σ h1 1).toInt 10).toNat 0 : Nat) : Int) ∧ 0 ≤ r.toInt ∧ r.toInt ≤ (min (σ h1 1).toInt 10))) (zz_B E) (zz_A E)) args s 0 0 (zz_A E)) (F0 m 12 ls []) := by
    intro n
    induction n with
    | zero => intro ii H locs ls hm; exact absurd hm (Nat.not_lt_zero _)
    | succ n ih12 =>
      intro ii H locs ls hm f12_0 f12_1 hP hS hl
      refine lv_iload_n hx hb dX8_rightOf_12 rfl (lv_at hl 0 rfl) ?_
      refine lv_iload_n hx hb dX8_rightOf_13 rfl (lv_at hl 1 rfl) ?_
      refine lv_icmp_ge (tgt := 40) hx hb dX8_rightOf_14 (by decide) (fun c2 => ?_) (fun c2 => ?_)
      · have c2 := zz_leT c2
        refine lv_iload_n hx hb dX8_rightOf_40 rfl (lv_at hl 0 rfl) ?_
        have g := zy_rt_end f12_1 (by omega)
        exact zz_iret hx hb hr hlocks hK hP hS dX8_rightOf_41 (by exact ⟨rfl, by rw [g]; omega, by omega⟩)
      · have c2 := zz_nleT c2
        refine lv_aload_n hx hb dX8_rightOf_17 rfl (lv_at hl 3 rfl) ?_
        refine zz_getr hx hb hts hi3 hown hK hP (g_h1.1) rfl 2 (by decide) (hts (.fieldLink RX8 275 "NoonLaw$Sheet" "numbers" "[I") (List.mem_cons_of_mem _ bm_772)) rfl rfl dX8_rightOf_18 ?_
        refine lv_iload_n hx hb dX8_rightOf_21 rfl (lv_at hl 0 rfl) ?_
        refine zz_iald hx hb hK hP (g_h1.2) (by omega) (by omega) dX8_rightOf_22 (fun j3 q3 r3 => ?_)
        have hc9 : (σ (h1 + 1) j3).toInt = C9 ii.toInt.toNat := by rw [show j3 = ii.toInt.toNat from by omega]; exact hcx _ (by omega)
        refine lv_aload_n hx hb dX8_rightOf_23 rfl (lv_at hl 2 rfl) ?_
        refine zz_getr hx hb hts hi8 hown hK hP (g0.1) rfl 6 (by decide) (hts (.fieldLink RX8 42 "NoonLaw" "sight" "LNoonLaw$Sight;") (List.mem_cons_of_mem _ bm_31)) rfl rfl dX8_rightOf_24 ?_
        refine lv_iload_n hx hb dX8_rightOf_27 rfl (lv_at hl 0 rfl) ?_
        refine zz_callVp (As := [.int ii]) (rest := [.int (σ (h1 + 1) j3)]) ⟨hx, hb, hml, hown, hts⟩ hK hP hS (c_X4_under l E σ (h0 + 61) ii (g0.2.2.2.2.2.2.2.1) K hh9 (by exact hS9) (by omega)) (cwV 1 hts gX8_rightOf_X4_under rfl rfl rfl (by decide +kernel) ⟨Nat.le_of_ble_eq_true rfl, Nat.le_of_ble_eq_true rfl⟩) (g0.2.2.2.2.2.2.2.1.1) rfl rfl hl.1 rfl (Nat.le_of_ble_eq_true rfl) dX8_rightOf_28 ⟨Nat.zero_le _, Nat.zero_le _⟩ (fun r4 H locs f4 hP1 hS1 => ?_)
        replace hP := hP1
        replace hS := hS1
        clear hP1 hS1
        have hu9 : zy_u K hh9 ((ii.toInt.toNat : Nat) : Int) = r4.toInt := by rw [f4, show ((ii.toInt.toNat : Nat) : Int) = ii.toInt from by omega]
        refine lv_icmp_ne (tgt := 40) hx hb dX8_rightOf_31 (by decide) (fun c5 => ?_) (fun c5 => ?_)
        · have c5 := zz_neT c5
          refine lv_iload_n hx hb dX8_rightOf_40 rfl (lv_at hl 0 rfl) ?_
          have g := zy_rt_stop (P := (fun n : Nat => C9 n = zy_u K hh9 (n : Int))) (show ¬ (C9 ii.toInt.toNat = zy_u K hh9 ((ii.toInt.toNat : Nat) : Int)) by rw [hu9]; omega) f12_1
          exact zz_iret hx hb hr hlocks hK hP hS dX8_rightOf_41 (by exact ⟨rfl, by rw [g]; omega, by omega⟩)
        · have c5 := zz_eqT c5
          obtain ⟨n6, e6⟩ : ∃ y : Int32, y = ii + 1 := ⟨_, rfl⟩
          have f6 : n6.toInt = (ii).toInt + (1) := by have h9 := zz_addT e6 (by omega) (by omega); omega
          refine lv_iinc (v := n6) (lv' := [(3, .int n6), (2, .int n1), (0, .ref h0), (1, .ref h1)]) hx hb dX8_rightOf_34 hl (k := 0) rfl (by rw [e6]; rfl) (by decide) rfl (fun ls hl => ?_)
          refine lv_goto (tgt := 12) hx hb dX8_rightOf_37 (by decide) ?_
          exact ih12 n6 _ _ _ (by omega) (by omega) (by exact zy_rt_go (P := (fun n : Nat => C9 n = zy_u K hh9 (n : Int))) (show C9 ii.toInt.toNat = zy_u K hh9 ((ii.toInt.toNat : Nat) : Int) by rw [hu9]; omega) f12_1 (by omega) (by omega)) hP hS (lv_sub hl [0, 1, 2, 3] rfl)
  exact J12 _ 0 _ _ _ (Nat.lt_succ_self _) (by omega) (by exact zy_rt_0 (by omega)) hP hS (lv_sub hl [0, 1, 2, 3] rfl)
theorem gX8_countRules_X4_look : GoodIn wzX8_countRules (wsV RX8 139 RX4 yX4_look wzX4_look) := wz_co bm_333 (wz_co bm_334 (wz_co bm_335 (wz_co bm_30 (wz_in bm_336))))
theorem dS13_1 (x0 : Nat) : ∀ a k : Nat, (((x0 + 61) ≤ a ∧ a < (x0 + 61) + 4) ∨ a = (x0 + 1) + 23 ∨ a = (x0 + 1) + 26) → (a = x0 + 24 ∨ a = x0 + 27 ∨ (x0 + 58 ≤ a ∧ a ≤ x0 + 67)) := by intro a k h; omega
theorem dS13_2 (x0 : Nat) : ¬ (((x0 + 61) ≤ (x0 + 1) ∧ (x0 + 1) < (x0 + 61) + 4) ∨ (x0 + 1) = (x0 + 1) + 23 ∨ (x0 + 1) = (x0 + 1) + 26) := by omega
theorem dS13_3 (x0 : Nat) : (x0 + 66) = x0 + 24 ∨ (x0 + 66) = x0 + 27 ∨ (x0 + 58 ≤ (x0 + 66) ∧ (x0 + 66) ≤ x0 + 67) := by omega
theorem dS13_4 (x0 : Nat) : (x0 + 67) = x0 + 24 ∨ (x0 + 67) = x0 + 27 ∨ (x0 + 58 ≤ (x0 + 67) ∧ (x0 + 67) ≤ x0 + 67) := by omega
set_option maxHeartbeats 4000000 in
set_option maxRecDepth 100000 in
theorem c_X8_countRules (l : Launch) (E : zz_E) (σ : zz_S) (h0 : Nat) (nn : Int32) (g0 : zz_L E h0) (hI : zz_IX σ h0) (K : zy_W) (hW : zy_XW σ (h0 + 1) K) (hn : 0 ≤ nn.toInt ∧ nn.toInt ≤ 240) : Met l yX8_countRules wzX8_countRules ({ frames := 5, cells := 0, slots := 0, locals := 121 }) (va_Pc [.ref h0, .int nn] (zz_B E σ)) (va_Qv (fun σ1 => zz_ch (fun a k => a = h0 + 24 ∨ a = h0 + 27 ∨ (h0 + 58 ≤ a ∧ a ≤ h0 + 67)) σ σ1 ∧ (∀ m : Nat, m < 10 → (σ1 (h0 + 66) m).toInt = zy_hu K (σ (h0 + 1) 0).toInt (m : Int) 0 nn.toInt.toNat ∧ (σ1 (h0 + 67) m).toInt = zy_hu K (σ (h0 + 1) 0).toInt (m : Int) 1 nn.toInt.toNat)) (zz_B E) (zz_A E)) 0 0 (zz_A E) := by
  refine zz_met (cc := cX8_countRules) (maxL := 4) (ret := none) (by decide) rfl (Nat.le_of_ble_eq_true rfl) ?_
  intro p e s m args below meth c ls hx hb hr hts hown hlocks hml hK hP hS hl
  have hl : lv_has ls 4 [(0, .ref h0), (1, .int nn)] := hl
  have hown : s.vm.findClass RX8 = some m.cls := hown
  have hi2 : ∀ w ∈ wsX20, w ∈ wzX8_countRules := fun w h => List.mem_cons_of_mem _ (hbw2 w h)
  have hi4 : ∀ w ∈ wsX40, w ∈ wzX8_countRules := fun w h => List.mem_cons_of_mem _ (hbw4 w h)
  have hi8 : ∀ w ∈ wsX80, w ∈ wzX8_countRules := fun w h => List.mem_cons_of_mem _ (hbw8 w h)
  have k_0 : (0 : Int32).toInt = 0 := by decide +kernel
  have k_1 : (1 : Int32).toInt = 1 := by decide +kernel
  have k_10 : (10 : Int32).toInt = 10 := by decide +kernel
  replace t0 : σ (h0 + 1) 0 = σ (h0 + 1) 0 := rfl
  replace t1 : σ (h0 + 1) 1 = σ (h0 + 1) 1 := rfl
  replace t2 : σ (h0 + 1) 4 = σ (h0 + 1) 4 := rfl
  replace t3 : σ (h0 + 1) 6 = σ (h0 + 1) 6 := rfl
  have hC : zz_ch (fun a k => a = h0 + 24 ∨ a = h0 + 27 ∨ (h0 + 58 ≤ a ∧ a ≤ h0 + 67)) σ σ := zz_ch.rf σ
  obtain ⟨⟨hh, hsl, hd, hp, htc, hwc, ht, hft, hst, hid⟩, hkI, hsh, hspk⟩ := id hI
  have hct := hW.2.1
  have hlt := hW.2.2.1
  refine lv_iconst (v := 0) hx hb dX8_countRules_0 (by decide) ?_
  refine lv_istore_n (lv' := [(2, .int 0), (0, .ref h0), (1, .int nn)]) hx hb dX8_countRules_1 rfl hl (by decide) rfl (fun ls hl => ?_)
  have J2 : ∀ (n : Nat) (ii : Int32) (σa : zz_S) (H : Heap) (locs : List Loc) (ls : Array Slot), ((10 - ii.toInt).toNat) < n → (zz_ch (fun a k => a = h0 + 24 ∨ a = h0 + 27 ∨ (h0 + 58 ≤ a ∧ a ≤ h0 + 67)) σ σa) → (0 ≤ ii.toInt ∧ ii.toInt ≤ 10) → (∀ m : Nat, (m : Int) < ii.toInt → (σa (h0 + 66) m).toInt = 0 ∧ (σa (h0 + 67) m).toInt = 0) → (σa (h0 + 1) 0 = σ (h0 + 1) 0) → (σa (h0 + 1) 1 = σ (h0 + 1) 1) → (σa (h0 + 1) 4 = σ (h0 + 1) 4) → (σa (h0 + 1) 6 = σ (h0 + 1) 6) → zz_P E σa H → va_S (zz_A E) s.heap H locs → lv_has ls 4 [(2, .int ii), (0, .ref h0), (1, .int nn)] → W p l e (headSpec wzX8_countRules ({ frames := 5, cells := 0, slots := 0, locals := 121 })).room s m args below meth c H locs 0 0 (MQ below (va_Qv (fun σ1 => zz_ch (fun a k => a = h0 + 24 ∨ a = h0 + 27 ∨ (h0 + 58 ≤ a ∧ a ≤ h0 + 67)) σ σ1 ∧ (∀ m : Nat, m < 10 → (σ1 (h0 + 66) m).toInt = zy_hu K (σ (h0 + 1) 0).toInt (m : Int) 0 nn.toInt.toNat ∧ (σ1 (h0 + 67) m).toInt = zy_hu K (σ (h0 + 1) 0).toInt (m : Int) 1 nn.toInt.toNat)) (zz_B E) (zz_A E)) args s 0 0 (zz_A E)) (F0 m 2 ls []) := by
    intro n
    induction n with
    | zero => intro ii σa H locs ls hm; exact absurd hm (Nat.not_lt_zero _)
    | succ n ih2 =>
      intro ii σa H locs ls hm hC f2_0 f2_1 t0 t1 t2 t3 hP hS hl
      refine lv_iload_n hx hb dX8_countRules_2 rfl (lv_at hl 0 rfl) ?_
      refine lv_bipush (v := 10) hx hb dX8_countRules_3 (by decide) ?_
      refine lv_icmp_ge (tgt := 28) hx hb dX8_countRules_5 (by decide) (fun c1 => ?_) (fun c1 => ?_)
      · have c1 := zz_leT c1
        refine lv_iconst (v := 0) hx hb dX8_countRules_28 (by decide) ?_
        refine lv_istore_n (lv' := [(2, .int 0), (0, .ref h0), (1, .int nn)]) hx hb dX8_countRules_29 rfl hl (by decide) rfl (fun ls hl => ?_)
        have J30 : ∀ (n : Nat) (ii : Int32) (σb : zz_S) (H : Heap) (locs : List Loc) (ls : Array Slot), ((240 - ii.toInt).toNat) < n → (zz_ch (fun a k => a = h0 + 24 ∨ a = h0 + 27 ∨ (h0 + 58 ≤ a ∧ a ≤ h0 + 67)) σ σb) → (0 ≤ ii.toInt ∧ ii.toInt ≤ nn.toInt) → (∀ m : Nat, m < 10 → (σb (h0 + 66) m).toInt = zy_hu K (σ (h0 + 1) 0).toInt (m : Int) 0 ii.toInt.toNat ∧ (σb (h0 + 67) m).toInt = zy_hu K (σ (h0 + 1) 0).toInt (m : Int) 1 ii.toInt.toNat) → (σb (h0 + 1) 0 = σ (h0 + 1) 0) → (σb (h0 + 1) 1 = σ (h0 + 1) 1) → (σb (h0 + 1) 4 = σ (h0 + 1) 4) → (σb (h0 + 1) 6 = σ (h0 + 1) 6) → zz_P E σb H → va_S (zz_A E) s.heap H locs → lv_has ls 4 [(2, .int ii), (0, .ref h0), (1, .int nn)] → W p l e (headSpec wzX8_countRules ({ frames := 5, cells := 0, slots := 0, locals := 121 })).room s m args below meth c H locs 0 0 (MQ below (va_Qv (fun σ1 => zz_ch (fun a k => a = h0 + 24 ∨ a = h0 + 27 ∨ (h0 + 58 ≤ a ∧ a ≤ h0 + 67)) σ σ1 ∧ (∀ m : Nat, m < 10 → (σ1 (h0 + 66) m).toInt = zy_hu K (σ (h0 + 1) 0).toInt (m : Int) 0 nn.toInt.toNat ∧ (σ1 (h0 + 67) m).toInt = zy_hu K (σ (h0 + 1) 0).toInt (m : Int) 1 nn.toInt.toNat)) (zz_B E) (zz_A E)) args s 0 0 (zz_A E)) (F0 m 30 ls []) := by
          intro n
          induction n with
          | zero => intro ii σb H locs ls hm; exact absurd hm (Nat.not_lt_zero _)
          | succ n ih30 =>
            intro ii σb H locs ls hm hC f30_0 f30_1 t0 t1 t2 t3 hP hS hl
            refine lv_iload_n hx hb dX8_countRules_30 rfl (lv_at hl 0 rfl) ?_
            refine lv_iload_n hx hb dX8_countRules_31 rfl (lv_at hl 2 rfl) ?_
            refine lv_icmp_ge (tgt := 115) hx hb dX8_countRules_32 (by decide) (fun c2 => ?_) (fun c2 => ?_)
            · have c2 := zz_leT c2
              rw [show ii.toInt.toNat = nn.toInt.toNat from by omega] at f30_1
              exact zz_vret hx hb hr hlocks hK hP hS dX8_countRules_115 (by exact ⟨hC, f30_1⟩)
            · have c2 := zz_nleT c2
              refine lv_aload_n hx hb dX8_countRules_35 rfl (lv_at hl 1 rfl) ?_
              refine zz_getr hx hb hts hi8 hown hK hP (g0.1) rfl 6 (by decide) (hts (.fieldLink RX8 42 "NoonLaw" "sight" "LNoonLaw$Sight;") (List.mem_cons_of_mem _ bm_31)) rfl rfl dX8_countRules_36 ?_
              refine lv_aload_n hx hb dX8_countRules_39 rfl (lv_at hl 1 rfl) ?_
              refine zz_getr hx hb hts hi8 hown hK hP (g0.1) rfl 0 (by decide) (hts (.fieldLink RX8 10 "NoonLaw" "realm" "LNoonLaw$Realm;") (List.mem_cons_of_mem _ bm_16)) rfl rfl dX8_countRules_40 ?_
              refine lv_aload_n hx hb dX8_countRules_43 rfl (lv_at hl 1 rfl) ?_
              refine zz_getr hx hb hts hi8 hown hK hP (g0.1) rfl 0 (by decide) (hts (.fieldLink RX8 10 "NoonLaw" "realm" "LNoonLaw$Realm;") (List.mem_cons_of_mem _ bm_16)) rfl rfl dX8_countRules_44 ?_
              refine zz_geti hx hb hts hi2 hown hK hP (g0.2.1.1) rfl 0 (by decide) (hts (.fieldLink RX8 104 "NoonLaw$Realm" "hour" "I") (List.mem_cons_of_mem _ bm_166)) rfl rfl t0 dX8_countRules_47 ?_
              refine lv_iload_n hx hb dX8_countRules_50 rfl (lv_at hl 0 rfl) ?_
              refine lv_iadd hx hb dX8_countRules_51 ?_
              refine lv_topi (fun n3 e3 => ?_)
              have f3 : n3.toInt = (σ (h0 + 1) 0).toInt + (ii).toInt := zz_addT e3 (by omega) (by omega)
              refine zz_callVv (As := [.ref (h0 + 1), .int n3]) (rest := []) ⟨hx, hb, hml, hown, hts⟩ hK hP hS (c_X4_look l E σb (h0 + 61) (h0 + 1) n3 (g0.2.2.2.2.2.2.2.1) (g0.2.1) (by rw [t2]; exact hd) (by intro j hj; rw [(hC _ _ (by first | (dsimp only; omega) | omega))]; exact ht j hj) (by omega) (by first | omega | exact ht | (rw [t0]; omega) | (rw [t1]; omega) | (rw [t2]; omega) | (rw [t3]; omega) | (intro j hj; rw [(hC _ _ (by first | (dsimp only; omega) | omega))]; exact ht j hj)) K (by exact hW.keep (fun a k q => hC a k (by first | (dsimp only; omega) | omega)))) (cwV 2 hts gX8_countRules_X4_look rfl rfl rfl (by decide +kernel) ⟨Nat.le_of_ble_eq_true rfl, Nat.le_of_ble_eq_true rfl⟩) (g0.2.2.2.2.2.2.2.1.1) rfl rfl hl.1 rfl (Nat.le_of_ble_eq_true rfl) dX8_countRules_52 ⟨Nat.zero_le _, Nat.zero_le _⟩ (fun σ4 H locs q4 hP1 hS1 => ?_)
              replace hP := hP1
              replace hS := hS1
              clear hP1 hS1
              try dsimp only at q4
              obtain ⟨w4, f4⟩ := q4
              replace hC := hC.tr (w4.mono (dS13_1 h0))
              try simp only [t0, t1, t2, t3] at f4
              replace t0 : σ4 (h0 + 1) 0 = σ (h0 + 1) 0 := (w4 (h0 + 1) 0 (dS13_2 h0)).trans t0
              replace t1 : σ4 (h0 + 1) 1 = σ (h0 + 1) 1 := (w4 (h0 + 1) 1 (dS13_2 h0)).trans t1
              replace t2 : σ4 (h0 + 1) 4 = σ (h0 + 1) 4 := (w4 (h0 + 1) 4 (dS13_2 h0)).trans t2
              replace t3 : σ4 (h0 + 1) 6 = σ (h0 + 1) 6 := (w4 (h0 + 1) 6 (dS13_2 h0)).trans t3
              refine lv_iconst (v := 0) hx hb dX8_countRules_55 (by decide) ?_
              refine lv_istore_n (lv' := [(3, .int 0), (2, .int ii), (0, .ref h0), (1, .int nn)]) hx hb dX8_countRules_56 rfl hl (by decide) rfl (fun ls hl => ?_)
              have J57 : ∀ (n : Nat) (jj : Int32) (σc : zz_S) (H : Heap) (locs : List Loc) (ls : Array Slot), ((10 - jj.toInt).toNat) < n → (zz_ch (fun a k => a = h0 + 24 ∨ a = h0 + 27 ∨ (h0 + 58 ≤ a ∧ a ≤ h0 + 67)) σ σc) → (0 ≤ jj.toInt ∧ jj.toInt ≤ 10) → (∀ m : Nat, m < 10 → ((m : Int) < jj.toInt → (σc (h0 + 66) m).toInt = zy_hu K (σ (h0 + 1) 0).toInt (m : Int) 0 (ii.toInt.toNat + 1) ∧ (σc (h0 + 67) m).toInt = zy_hu K (σ (h0 + 1) 0).toInt (m : Int) 1 (ii.toInt.toNat + 1)) ∧ (jj.toInt ≤ (m : Int) → (σc (h0 + 66) m).toInt = zy_hu K (σ (h0 + 1) 0).toInt (m : Int) 0 ii.toInt.toNat ∧ (σc (h0 + 67) m).toInt = zy_hu K (σ (h0 + 1) 0).toInt (m : Int) 1 ii.toInt.toNat)) → (zy_SG σc (h0 + 61) K ((σ (h0 + 1) 0).toInt + ((ii.toInt.toNat : Nat) : Int))) → (σc (h0 + 1) 0 = σ (h0 + 1) 0) → (σc (h0 + 1) 1 = σ (h0 + 1) 1) → (σc (h0 + 1) 4 = σ (h0 + 1) 4) → (σc (h0 + 1) 6 = σ (h0 + 1) 6) → zz_P E σc H → va_S (zz_A E) s.heap H locs → lv_has ls 4 [(3, .int jj), (2, .int ii), (0, .ref h0), (1, .int nn)] → W p l e (headSpec wzX8_countRules ({ frames := 5, cells := 0, slots := 0, locals := 121 })).room s m args below meth c H locs 0 0 (MQ below (va_Qv (fun σ1 => zz_ch (fun a k => a = h0 + 24 ∨ a = h0 + 27 ∨ (h0 + 58 ≤ a ∧ a ≤ h0 + 67)) σ σ1 ∧ (∀ m : Nat, m < 10 → (σ1 (h0 + 66) m).toInt = zy_hu K (σ (h0 + 1) 0).toInt (m : Int) 0 nn.toInt.toNat ∧ (σ1 (h0 + 67) m).toInt = zy_hu K (σ (h0 + 1) 0).toInt (m : Int) 1 nn.toInt.toNat)) (zz_B E) (zz_A E)) args s 0 0 (zz_A E)) (F0 m 57 ls []) := by
                intro n
                induction n with
                | zero => intro jj σc H locs ls hm; exact absurd hm (Nat.not_lt_zero _)
                | succ n ih57 =>
                  intro jj σc H locs ls hm hC f57_0 f57_1 f57_2 t0 t1 t2 t3 hP hS hl
                  refine lv_iload_n hx hb dX8_countRules_57 rfl (lv_at hl 0 rfl) ?_
                  refine lv_bipush (v := 10) hx hb dX8_countRules_58 (by decide) ?_
                  refine lv_icmp_ge (tgt := 109) hx hb dX8_countRules_60 (by decide) (fun c5 => ?_) (fun c5 => ?_)
                  · have c5 := zz_leT c5
                    obtain ⟨n6, e6⟩ : ∃ y : Int32, y = ii + 1 := ⟨_, rfl⟩
                    have f6 : n6.toInt = (ii).toInt + (1) := by have h9 := zz_addT e6 (by omega) (by omega); omega
                    refine lv_iinc (v := n6) (lv' := [(2, .int n6), (3, .int jj), (0, .ref h0), (1, .int nn)]) hx hb dX8_countRules_109 hl (k := 1) rfl (by rw [e6]; rfl) (by decide) rfl (fun ls hl => ?_)
                    refine lv_goto (tgt := 30) hx hb dX8_countRules_112 (by decide) ?_
                    exact ih30 n6 σc _ _ _ (by omega) hC (by first | omega | exact ht | (rw [t0]; omega) | (rw [t1]; omega) | (rw [t2]; omega) | (rw [t3]; omega) | (intro j hj; rw [(hC _ _ (by first | (dsimp only; omega) | omega))]; exact ht j hj)) (by intro m hm; rw [show n6.toInt.toNat = ii.toInt.toNat + 1 from by omega]; exact (f57_1 m hm).1 (by omega)) t0 t1 t2 t3 hP hS (lv_sub hl [0, 2, 3] rfl)
                  · have c5 := zz_nleT c5
                    refine lv_aload_n hx hb dX8_countRules_63 rfl (lv_at hl 2 rfl) ?_
                    refine zz_getr hx hb hts hi8 hown hK hP (g0.1) rfl 8 (by decide) (hts (.fieldLink RX8 50 "NoonLaw" "bannedHours" "[I") (List.mem_cons_of_mem _ bm_34)) rfl rfl dX8_countRules_64 ?_
                    refine lv_iload_n hx hb dX8_countRules_67 rfl (lv_at hl 0 rfl) ?_
                    refine lv_dup2_11 hx hb dX8_countRules_68 rfl rfl ?_
                    refine zz_iald hx hb hK hP (g0.2.2.2.2.2.2.2.2.2.1) (by omega) (by omega) dX8_countRules_69 (fun j7 q7 r7 => ?_)
                    refine lv_aload_n hx hb dX8_countRules_70 rfl (lv_at hl 2 rfl) ?_
                    refine zz_getr hx hb hts hi8 hown hK hP (g0.1) rfl 6 (by decide) (hts (.fieldLink RX8 42 "NoonLaw" "sight" "LNoonLaw$Sight;") (List.mem_cons_of_mem _ bm_31)) rfl rfl dX8_countRules_71 ?_
                    have hs0 := f57_2.2.2.1
                    refine zz_geti hx hb hts hi4 hown hK hP (g0.2.2.2.2.2.2.2.1.1) rfl 2 (by decide) (hts (.fieldLink RX8 216 "NoonLaw$Sight" "banned" "I") (List.mem_cons_of_mem _ bm_655)) rfl rfl rfl dX8_countRules_74 ?_
                    refine lv_iload_n hx hb dX8_countRules_77 rfl (lv_at hl 0 rfl) ?_
                    refine lv_ishr hx hb dX8_countRules_78 ?_
                    refine lv_topi (fun n8 e8 => ?_)
                    refine lv_iconst (v := 1) hx hb dX8_countRules_79 (by decide) ?_
                    refine lv_iand hx hb dX8_countRules_80 ?_
                    refine lv_topi (fun n9 e9 => ?_)
                    have hb0 := zy_st_shr (fun m => zy_u K ((σ (h0 + 1) 0).toInt + ((ii.toInt.toNat : Nat) : Int)) (m : Int) = 0) (m := jj.toInt.toNat) (i := jj) (by omega) (by omega) (by rw [e8, hs0]) e9
                    have ha0 : (σc (h0 + 66) j7).toInt = zy_hu K (σ (h0 + 1) 0).toInt ((jj.toInt.toNat : Nat) : Int) 0 ii.toInt.toNat := by rw [show j7 = jj.toInt.toNat from by omega]; exact ((f57_1 jj.toInt.toNat (by omega)).2 (by omega)).1
                    have hr0 := zy_hu_rng K (σ (h0 + 1) 0).toInt ((jj.toInt.toNat : Nat) : Int) 0 ii.toInt.toNat
                    have hz0 := hb0.z
                    refine lv_iadd hx hb dX8_countRules_81 ?_
                    refine lv_topi (fun n10 e10 => ?_)
                    have f10 : n10.toInt = (σc (h0 + 66) j7).toInt + (n9).toInt := zz_addT e10 (by omega) (by omega)
                    have hv0 : n10.toInt = (σc (h0 + 66) j7).toInt + n9.toInt := by omega
                    refine zz_iast hx hb hK hP hS (g0.2.2.2.2.2.2.2.2.2.1) (by omega) (by omega) dX8_countRules_82 (fun j11 σ11 H locs q11 r11 w11 hP1 hS1 => ?_)
                    replace hP := hP1
                    replace hS := hS1
                    clear hP1 hS1
                    replace hC := hC.u w11 (dS13_3 h0)
                    replace t0 : σ11 (h0 + 1) 0 = σ (h0 + 1) 0 := (zz_w (b := (h0 + 1)) (j := 0) w11 (fun q9 => zz_na (a := h0) (i := 1) (j := 66) (by decide) q9.1)).trans t0
                    replace t1 : σ11 (h0 + 1) 1 = σ (h0 + 1) 1 := (zz_w (b := (h0 + 1)) (j := 1) w11 (fun q9 => zz_na (a := h0) (i := 1) (j := 66) (by decide) q9.1)).trans t1
                    replace t2 : σ11 (h0 + 1) 4 = σ (h0 + 1) 4 := (zz_w (b := (h0 + 1)) (j := 4) w11 (fun q9 => zz_na (a := h0) (i := 1) (j := 66) (by decide) q9.1)).trans t2
                    replace t3 : σ11 (h0 + 1) 6 = σ (h0 + 1) 6 := (zz_w (b := (h0 + 1)) (j := 6) w11 (fun q9 => zz_na (a := h0) (i := 1) (j := 66) (by decide) q9.1)).trans t3
                    refine lv_aload_n hx hb dX8_countRules_83 rfl (lv_at hl 2 rfl) ?_
                    refine zz_getr hx hb hts hi8 hown hK hP (g0.1) rfl 9 (by decide) (hts (.fieldLink RX8 53 "NoonLaw" "biddenHours" "[I") (List.mem_cons_of_mem _ bm_35)) rfl rfl dX8_countRules_84 ?_
                    refine lv_iload_n hx hb dX8_countRules_87 rfl (lv_at hl 0 rfl) ?_
                    refine lv_dup2_11 hx hb dX8_countRules_88 rfl rfl ?_
                    refine zz_iald hx hb hK hP (g0.2.2.2.2.2.2.2.2.2.2) (by omega) (by omega) dX8_countRules_89 (fun j12 q12 r12 => ?_)
                    refine lv_aload_n hx hb dX8_countRules_90 rfl (lv_at hl 2 rfl) ?_
                    refine zz_getr hx hb hts hi8 hown hK hP (g0.1) rfl 6 (by decide) (hts (.fieldLink RX8 42 "NoonLaw" "sight" "LNoonLaw$Sight;") (List.mem_cons_of_mem _ bm_31)) rfl rfl dX8_countRules_91 ?_
                    have hs1 := (f57_2.keep (σ1 := σ11) (fun k => by rw [w11, zz_un (by omega)]) (fun k => by rw [w11, zz_un (by omega)])).2.1
                    refine zz_geti hx hb hts hi4 hown hK hP (g0.2.2.2.2.2.2.2.1.1) rfl 1 (by decide) (hts (.fieldLink RX8 213 "NoonLaw$Sight" "bidden" "I") (List.mem_cons_of_mem _ bm_654)) rfl rfl rfl dX8_countRules_94 ?_
                    refine lv_iload_n hx hb dX8_countRules_97 rfl (lv_at hl 0 rfl) ?_
                    refine lv_ishr hx hb dX8_countRules_98 ?_
                    refine lv_topi (fun n13 e13 => ?_)
                    refine lv_iconst (v := 1) hx hb dX8_countRules_99 (by decide) ?_
                    refine lv_iand hx hb dX8_countRules_100 ?_
                    refine lv_topi (fun n14 e14 => ?_)
                    have hb1 := zy_st_shr (fun m => zy_u K ((σ (h0 + 1) 0).toInt + ((ii.toInt.toNat : Nat) : Int)) (m : Int) = 1) (m := jj.toInt.toNat) (i := jj) (by omega) (by omega) (by rw [e13, hs1]) e14
                    have ha1 : (σ11 (h0 + 67) j12).toInt = zy_hu K (σ (h0 + 1) 0).toInt ((jj.toInt.toNat : Nat) : Int) 1 ii.toInt.toNat := by rw [show j12 = jj.toInt.toNat from by omega]; rw [w11, zz_un (by omega)]; exact ((f57_1 jj.toInt.toNat (by omega)).2 (by omega)).2
                    have hr1 := zy_hu_rng K (σ (h0 + 1) 0).toInt ((jj.toInt.toNat : Nat) : Int) 1 ii.toInt.toNat
                    have hz1 := hb1.z
                    refine lv_iadd hx hb dX8_countRules_101 ?_
                    refine lv_topi (fun n15 e15 => ?_)
                    have f15 : n15.toInt = (σ11 (h0 + 67) j12).toInt + (n14).toInt := zz_addT e15 (by omega) (by omega)
                    have hv1 : n15.toInt = (σ11 (h0 + 67) j12).toInt + n14.toInt := by omega
                    rw [w11, zz_un (by omega)] at hv1
                    refine zz_iast hx hb hK hP hS (g0.2.2.2.2.2.2.2.2.2.2) (by omega) (by omega) dX8_countRules_102 (fun j16 σ16 H locs q16 r16 w16 hP1 hS1 => ?_)
                    replace hP := hP1
                    replace hS := hS1
                    clear hP1 hS1
                    replace hC := hC.u w16 (dS13_4 h0)
                    replace t0 : σ16 (h0 + 1) 0 = σ (h0 + 1) 0 := (zz_w (b := (h0 + 1)) (j := 0) w16 (fun q9 => zz_na (a := h0) (i := 1) (j := 67) (by decide) q9.1)).trans t0
                    replace t1 : σ16 (h0 + 1) 1 = σ (h0 + 1) 1 := (zz_w (b := (h0 + 1)) (j := 1) w16 (fun q9 => zz_na (a := h0) (i := 1) (j := 67) (by decide) q9.1)).trans t1
                    replace t2 : σ16 (h0 + 1) 4 = σ (h0 + 1) 4 := (zz_w (b := (h0 + 1)) (j := 4) w16 (fun q9 => zz_na (a := h0) (i := 1) (j := 67) (by decide) q9.1)).trans t2
                    replace t3 : σ16 (h0 + 1) 6 = σ (h0 + 1) 6 := (zz_w (b := (h0 + 1)) (j := 6) w16 (fun q9 => zz_na (a := h0) (i := 1) (j := 67) (by decide) q9.1)).trans t3
                    obtain ⟨n17, e17⟩ : ∃ y : Int32, y = jj + 1 := ⟨_, rfl⟩
                    have f17 : n17.toInt = (jj).toInt + (1) := by have h9 := zz_addT e17 (by omega) (by omega); omega
                    refine lv_iinc (v := n17) (lv' := [(3, .int n17), (2, .int ii), (0, .ref h0), (1, .int nn)]) hx hb dX8_countRules_103 hl (k := 0) rfl (by rw [e17]; rfl) (by decide) rfl (fun ls hl => ?_)
                    refine lv_goto (tgt := 57) hx hb dX8_countRules_106 (by decide) ?_
                    exact ih57 n17 σ16 _ _ _ (by omega) hC (by first | omega | exact ht | (rw [t0]; omega) | (rw [t1]; omega) | (rw [t2]; omega) | (rw [t3]; omega) | (intro j hj; rw [(hC _ _ (by first | (dsimp only; omega) | omega))]; exact ht j hj)) (by intro m hm; exact if hq : (m : Int) = jj.toInt then ⟨fun _ => ⟨zy_hu_bt (by rw [show (m : Int) = ((jj.toInt.toNat : Nat) : Int) from by omega]; exact hb0) rfl ((f57_1 m hm).2 (by omega)).1 rfl (by rw [show m = j11 from by omega, w16, zz_un (by omega), w11, zz_us, show j11 = j7 from by omega]; exact hv0), zy_hu_bt (by rw [show (m : Int) = ((jj.toInt.toNat : Nat) : Int) from by omega]; exact hb1) rfl ((f57_1 m hm).2 (by omega)).2 rfl (by rw [show m = j16 from by omega, w16, zz_us, show j16 = j12 from by omega]; exact hv1)⟩, fun q => absurd q (by omega)⟩ else ⟨fun q => ⟨by rw [w16, zz_un (by omega), w11, zz_un (by omega)]; exact ((f57_1 m hm).1 (by omega)).1, by rw [w16, zz_un (by omega), w11, zz_un (by omega)]; exact ((f57_1 m hm).1 (by omega)).2⟩, fun q => ⟨by rw [w16, zz_un (by omega), w11, zz_un (by omega)]; exact ((f57_1 m hm).2 (by omega)).1, by rw [w16, zz_un (by omega), w11, zz_un (by omega)]; exact ((f57_1 m hm).2 (by omega)).2⟩⟩) (by exact (f57_2.keep (σ1 := σ11) (fun k => by rw [w11, zz_un (by omega)]) (fun k => by rw [w11, zz_un (by omega)])).keep (fun k => by rw [w16, zz_un (by omega)]) (fun k => by rw [w16, zz_un (by omega)])) t0 t1 t2 t3 hP hS (lv_sub hl [0, 1, 2, 3] rfl)
              exact J57 _ 0 σ4 _ _ _ (Nat.lt_succ_self _) hC (by first | omega | exact ht | (rw [t0]; omega) | (rw [t1]; omega) | (rw [t2]; omega) | (rw [t3]; omega) | (intro j hj; rw [(hC _ _ (by first | (dsimp only; omega) | omega))]; exact ht j hj)) (by intro m hm; exact ⟨fun q => absurd q (by omega), fun q => ⟨by rw [w4 _ _ (by first | (dsimp only; omega) | omega)]; exact (f30_1 m hm).1, by rw [w4 _ _ (by first | (dsimp only; omega) | omega)]; exact (f30_1 m hm).2⟩⟩) (by rw [show (σ (h0 + 1) 0).toInt + ((ii.toInt.toNat : Nat) : Int) = n3.toInt from by omega]; exact f4) t0 t1 t2 t3 hP hS (lv_sub hl [0, 1, 2, 3] rfl)
        exact J30 _ 0 σa _ _ _ (Nat.lt_succ_self _) hC (by first | omega | exact ht | (rw [t0]; omega) | (rw [t1]; omega) | (rw [t2]; omega) | (rw [t3]; omega) | (intro j hj; rw [(hC _ _ (by first | (dsimp only; omega) | omega))]; exact ht j hj)) (by intro m hm; exact ⟨zy_hu_0 (f2_1 m (by omega)).1 (by omega), zy_hu_0 (f2_1 m (by omega)).2 (by omega)⟩) t0 t1 t2 t3 hP hS (lv_sub hl [0, 1, 2] rfl)
      · have c1 := zz_nleT c1
        refine lv_aload_n hx hb dX8_countRules_8 rfl (lv_at hl 1 rfl) ?_
        refine zz_getr hx hb hts hi8 hown hK hP (g0.1) rfl 8 (by decide) (hts (.fieldLink RX8 50 "NoonLaw" "bannedHours" "[I") (List.mem_cons_of_mem _ bm_34)) rfl rfl dX8_countRules_9 ?_
        refine lv_iload_n hx hb dX8_countRules_12 rfl (lv_at hl 0 rfl) ?_
        refine lv_iconst (v := 0) hx hb dX8_countRules_13 (by decide) ?_
        refine zz_iast hx hb hK hP hS (g0.2.2.2.2.2.2.2.2.2.1) (by omega) (by omega) dX8_countRules_14 (fun j18 σ18 H locs q18 r18 w18 hP1 hS1 => ?_)
        replace hP := hP1
        replace hS := hS1
        clear hP1 hS1
        replace hC := hC.u w18 (dS13_3 h0)
        replace t0 : σ18 (h0 + 1) 0 = σ (h0 + 1) 0 := (zz_w (b := (h0 + 1)) (j := 0) w18 (fun q9 => zz_na (a := h0) (i := 1) (j := 66) (by decide) q9.1)).trans t0
        replace t1 : σ18 (h0 + 1) 1 = σ (h0 + 1) 1 := (zz_w (b := (h0 + 1)) (j := 1) w18 (fun q9 => zz_na (a := h0) (i := 1) (j := 66) (by decide) q9.1)).trans t1
        replace t2 : σ18 (h0 + 1) 4 = σ (h0 + 1) 4 := (zz_w (b := (h0 + 1)) (j := 4) w18 (fun q9 => zz_na (a := h0) (i := 1) (j := 66) (by decide) q9.1)).trans t2
        replace t3 : σ18 (h0 + 1) 6 = σ (h0 + 1) 6 := (zz_w (b := (h0 + 1)) (j := 6) w18 (fun q9 => zz_na (a := h0) (i := 1) (j := 66) (by decide) q9.1)).trans t3
        refine lv_aload_n hx hb dX8_countRules_15 rfl (lv_at hl 1 rfl) ?_
        refine zz_getr hx hb hts hi8 hown hK hP (g0.1) rfl 9 (by decide) (hts (.fieldLink RX8 53 "NoonLaw" "biddenHours" "[I") (List.mem_cons_of_mem _ bm_35)) rfl rfl dX8_countRules_16 ?_
        refine lv_iload_n hx hb dX8_countRules_19 rfl (lv_at hl 0 rfl) ?_
        refine lv_iconst (v := 0) hx hb dX8_countRules_20 (by decide) ?_
        refine zz_iast hx hb hK hP hS (g0.2.2.2.2.2.2.2.2.2.2) (by omega) (by omega) dX8_countRules_21 (fun j19 σ19 H locs q19 r19 w19 hP1 hS1 => ?_)
        replace hP := hP1
        replace hS := hS1
        clear hP1 hS1
        replace hC := hC.u w19 (dS13_4 h0)
        replace t0 : σ19 (h0 + 1) 0 = σ (h0 + 1) 0 := (zz_w (b := (h0 + 1)) (j := 0) w19 (fun q9 => zz_na (a := h0) (i := 1) (j := 67) (by decide) q9.1)).trans t0
        replace t1 : σ19 (h0 + 1) 1 = σ (h0 + 1) 1 := (zz_w (b := (h0 + 1)) (j := 1) w19 (fun q9 => zz_na (a := h0) (i := 1) (j := 67) (by decide) q9.1)).trans t1
        replace t2 : σ19 (h0 + 1) 4 = σ (h0 + 1) 4 := (zz_w (b := (h0 + 1)) (j := 4) w19 (fun q9 => zz_na (a := h0) (i := 1) (j := 67) (by decide) q9.1)).trans t2
        replace t3 : σ19 (h0 + 1) 6 = σ (h0 + 1) 6 := (zz_w (b := (h0 + 1)) (j := 6) w19 (fun q9 => zz_na (a := h0) (i := 1) (j := 67) (by decide) q9.1)).trans t3
        obtain ⟨n20, e20⟩ : ∃ y : Int32, y = ii + 1 := ⟨_, rfl⟩
        have f20 : n20.toInt = (ii).toInt + (1) := by have h9 := zz_addT e20 (by omega) (by omega); omega
        refine lv_iinc (v := n20) (lv' := [(2, .int n20), (0, .ref h0), (1, .int nn)]) hx hb dX8_countRules_22 hl (k := 0) rfl (by rw [e20]; rfl) (by decide) rfl (fun ls hl => ?_)
        refine lv_goto (tgt := 2) hx hb dX8_countRules_25 (by decide) ?_
        exact ih2 n20 σ19 _ _ _ (by omega) hC (by first | omega | exact ht | (rw [t0]; omega) | (rw [t1]; omega) | (rw [t2]; omega) | (rw [t3]; omega) | (intro j hj; rw [(hC _ _ (by first | (dsimp only; omega) | omega))]; exact ht j hj)) (by intro m hm; exact if hq : (m : Int) = ii.toInt then ⟨by rw [show m = j18 from by omega, w19, zz_un (by omega), w18, zz_us]; exact k_0, by rw [show m = j19 from by omega, w19, zz_us]; exact k_0⟩ else ⟨by rw [w19, zz_un (by omega), w18, zz_un (by omega)]; exact (f2_1 m (by omega)).1, by rw [w19, zz_un (by omega), w18, zz_un (by omega)]; exact (f2_1 m (by omega)).2⟩) t0 t1 t2 t3 hP hS (lv_sub hl [0, 1, 2] rfl)
  exact J2 _ 0 σ _ _ _ (Nat.lt_succ_self _) hC (by first | omega | exact ht | (rw [t0]; omega) | (rw [t1]; omega) | (rw [t2]; omega) | (rw [t3]; omega) | (intro j hj; rw [(hC _ _ (by first | (dsimp only; omega) | omega))]; exact ht j hj)) (by intro m hm; omega) t0 t1 t2 t3 hP hS (lv_sub hl [0, 1, 2] rfl)
theorem gX8_fewestForgotten_X4_look : GoodIn wzX8_fewestForgotten (wsV RX8 139 RX4 yX4_look wzX4_look) := wz_co bm_333 (wz_co bm_334 (wz_co bm_335 (wz_co bm_30 (wz_in bm_336))))
theorem gX8_fewestForgotten_X4_outweighing : GoodIn wzX8_fewestForgotten (wsV RX8 304 RX4 yX4_outweighing wzX4_outweighing) := wz_co bm_720 (wz_co bm_721 (wz_co bm_722 (wz_co bm_30 (wz_in bm_723))))
set_option maxHeartbeats 4000000 in
set_option maxRecDepth 100000 in
theorem c_X8_fewestForgotten (l : Launch) (E : zz_E) (σ : zz_S) (h0 : Nat) (mt : Int32) (nn : Int32) (g0 : zz_L E h0) (hI : zz_IX σ h0) (K : zy_W) (hW : zy_XW σ (h0 + 1) K) (hn : 0 ≤ nn.toInt ∧ nn.toInt ≤ 240) : Met l yX8_fewestForgotten wzX8_fewestForgotten ({ frames := 5, cells := 0, slots := 0, locals := 121 }) (va_Pc [.ref h0, .int mt, .int nn] (zz_B E σ)) (va_Qi (fun r σ1 => zz_ch (fun a k => a = h0 + 24 ∨ a = h0 + 27 ∨ (h0 + 58 ≤ a ∧ a ≤ h0 + 67)) σ σ1 ∧ (r = zy_fs K (σ (h0 + 1) 0).toInt mt.toInt nn.toInt.toNat)) (zz_B E) (zz_A E)) 0 0 (zz_A E) := by
  refine zz_met (cc := cX8_fewestForgotten) (maxL := 7) (ret := (some .int)) (by decide) rfl (Nat.le_of_ble_eq_true rfl) ?_
  intro p e s m args below meth c ls hx hb hr hts hown hlocks hml hK hP hS hl
  have hl : lv_has ls 7 [(0, .ref h0), (1, .int mt), (2, .int nn)] := hl
  have hown : s.vm.findClass RX8 = some m.cls := hown
  have hi2 : ∀ w ∈ wsX20, w ∈ wzX8_fewestForgotten := fun w h => List.mem_cons_of_mem _ (hbw2 w h)
  have hi8 : ∀ w ∈ wsX80, w ∈ wzX8_fewestForgotten := fun w h => List.mem_cons_of_mem _ (hbw8 w h)
  have k_0 : (0 : Int32).toInt = 0 := by decide +kernel
  have k_1 : (1 : Int32).toInt = 1 := by decide +kernel
  have k_9 : (9 : Int32).toInt = 9 := by decide +kernel
  replace t0 : σ (h0 + 1) 0 = σ (h0 + 1) 0 := rfl
  replace t1 : σ (h0 + 1) 1 = σ (h0 + 1) 1 := rfl
  replace t2 : σ (h0 + 1) 4 = σ (h0 + 1) 4 := rfl
  replace t3 : σ (h0 + 1) 6 = σ (h0 + 1) 6 := rfl
  have hC : zz_ch (fun a k => a = h0 + 24 ∨ a = h0 + 27 ∨ (h0 + 58 ≤ a ∧ a ≤ h0 + 67)) σ σ := zz_ch.rf σ
  obtain ⟨⟨hh, hsl, hd, hp, htc, hwc, ht, hft, hst, hid⟩, hkI, hsh, hspk⟩ := id hI
  have hct := hW.2.1
  have hlt := hW.2.2.1
  have hid9 := hW.2.2.2.2.2.1
  refine lv_iconst (v := 0) hx hb dX8_fewestForgotten_0 (by decide) ?_
  refine lv_istore_n (lv' := [(3, .int 0), (0, .ref h0), (1, .int mt), (2, .int nn)]) hx hb dX8_fewestForgotten_1 rfl hl (by decide) rfl (fun ls hl => ?_)
  refine lv_iconst (v := 0) hx hb dX8_fewestForgotten_2 (by decide) ?_
  refine lv_istore (lv' := [(4, .int 0), (3, .int 0), (0, .ref h0), (1, .int mt), (2, .int nn)]) hx hb dX8_fewestForgotten_3 hl (by decide) rfl (fun ls hl => ?_)
  have J5 : ∀ (n : Nat) (set : Int32) (rd : Int32) (σa : zz_S) (H : Heap) (locs : List Loc) (ls : Array Slot), ((10 - rd.toInt).toNat) < n → (zz_ch (fun a k => a = h0 + 24 ∨ a = h0 + 27 ∨ (h0 + 58 ≤ a ∧ a ≤ h0 + 67)) σ σa) → (0 ≤ rd.toInt ∧ rd.toInt ≤ 10) → (0 ≤ set.toInt ∧ set.toInt < 1024) → (∀ d : Nat, zy_tb set d → zy_fw K (σ (h0 + 1) 0).toInt mt.toInt nn.toInt.toNat d) → (rd.toInt ≤ zy_pc set) → (σa (h0 + 1) 0 = σ (h0 + 1) 0) → (σa (h0 + 1) 1 = σ (h0 + 1) 1) → (σa (h0 + 1) 4 = σ (h0 + 1) 4) → (σa (h0 + 1) 6 = σ (h0 + 1) 6) → zz_P E σa H → va_S (zz_A E) s.heap H locs → lv_has ls 7 [(4, .int rd), (3, .int set), (0, .ref h0), (1, .int mt), (2, .int nn)] → W p l e (headSpec wzX8_fewestForgotten ({ frames := 5, cells := 0, slots := 0, locals := 121 })).room s m args below meth c H locs 0 0 (MQ below (va_Qi (fun r σ1 => zz_ch (fun a k => a = h0 + 24 ∨ a = h0 + 27 ∨ (h0 + 58 ≤ a ∧ a ≤ h0 + 67)) σ σ1 ∧ (r = zy_fs K (σ (h0 + 1) 0).toInt mt.toInt nn.toInt.toNat)) (zz_B E) (zz_A E)) args s 0 0 (zz_A E)) (F0 m 5 ls []) := by
    intro n
    induction n with
    | zero => intro set rd σa H locs ls hm; exact absurd hm (Nat.not_lt_zero _)
    | succ n ih5 =>
      intro set rd σa H locs ls hm hC f5_0 f5_1 f5_2 f5_3 t0 t1 t2 t3 hP hS hl
      refine lv_iload hx hb dX8_fewestForgotten_5 (lv_at hl 0 rfl) ?_
      refine lv_bipush (v := 9) hx hb dX8_fewestForgotten_7 (by decide) ?_
      refine lv_icmp_gt (tgt := 81) hx hb dX8_fewestForgotten_9 (by decide) (fun c1 => ?_) (fun c1 => ?_)
      · have c1 := zz_ltT c1
        refine lv_iload_n hx hb dX8_fewestForgotten_81 rfl (lv_at hl 1 rfl) ?_
        have h9 := zy_pc_9 f5_1 (fun d z => by have := (zy_fw_in (f5_2 d z)).1; omega)
        exact zz_iret hx hb hr hlocks hK hP hS dX8_fewestForgotten_82 (by exfalso; omega)
      · have c1 := zz_nltT c1
        refine lv_iload_n hx hb dX8_fewestForgotten_12 rfl (lv_at hl 1 rfl) ?_
        refine lv_istore (lv' := [(5, .int set), (4, .int rd), (3, .int set), (0, .ref h0), (1, .int mt), (2, .int nn)]) hx hb dX8_fewestForgotten_13 hl (by decide) rfl (fun ls hl => ?_)
        refine lv_iconst (v := 0) hx hb dX8_fewestForgotten_15 (by decide) ?_
        refine lv_istore (lv' := [(6, .int 0), (5, .int set), (4, .int rd), (3, .int set), (0, .ref h0), (1, .int mt), (2, .int nn)]) hx hb dX8_fewestForgotten_16 hl (by decide) rfl (fun ls hl => ?_)
        have J18 : ∀ (n : Nat) (set2 : Int32) (ii : Int32) (σb : zz_S) (H : Heap) (locs : List Loc) (ls : Array Slot), ((240 - ii.toInt).toNat) < n → (zz_ch (fun a k => a = h0 + 24 ∨ a = h0 + 27 ∨ (h0 + 58 ≤ a ∧ a ≤ h0 + 67)) σ σb) → (0 ≤ ii.toInt ∧ ii.toInt ≤ nn.toInt) → (0 ≤ set2.toInt ∧ set2.toInt < 1024) → (∀ d : Nat, zy_tb set2 d → zy_fw K (σ (h0 + 1) 0).toInt mt.toInt nn.toInt.toNat d) → (∀ d : Nat, zy_tb set d → zy_tb set2 d) → (set2 = set → ∀ k : Nat, (k : Int) < ii.toInt → ∀ d : Nat, (d : Int) < K.2.2.1 → ¬ zy_ow K ((σ (h0 + 1) 0).toInt + (k : Int)) mt.toInt (zy_tb set) d) → (σb (h0 + 1) 0 = σ (h0 + 1) 0) → (σb (h0 + 1) 1 = σ (h0 + 1) 1) → (σb (h0 + 1) 4 = σ (h0 + 1) 4) → (σb (h0 + 1) 6 = σ (h0 + 1) 6) → zz_P E σb H → va_S (zz_A E) s.heap H locs → lv_has ls 7 [(6, .int ii), (5, .int set), (4, .int rd), (3, .int set2), (0, .ref h0), (1, .int mt), (2, .int nn)] → W p l e (headSpec wzX8_fewestForgotten ({ frames := 5, cells := 0, slots := 0, locals := 121 })).room s m args below meth c H locs 0 0 (MQ below (va_Qi (fun r σ1 => zz_ch (fun a k => a = h0 + 24 ∨ a = h0 + 27 ∨ (h0 + 58 ≤ a ∧ a ≤ h0 + 67)) σ σ1 ∧ (r = zy_fs K (σ (h0 + 1) 0).toInt mt.toInt nn.toInt.toNat)) (zz_B E) (zz_A E)) args s 0 0 (zz_A E)) (F0 m 18 ls []) := by
          intro n
          induction n with
          | zero => intro set2 ii σb H locs ls hm; exact absurd hm (Nat.not_lt_zero _)
          | succ n ih18 =>
            intro set2 ii σb H locs ls hm hC f18_0 f18_1 f18_2 f18_3 f18_4 t0 t1 t2 t3 hP hS hl
            refine lv_iload hx hb dX8_fewestForgotten_18 (lv_at hl 0 rfl) ?_
            refine lv_iload_n hx hb dX8_fewestForgotten_20 rfl (lv_at hl 6 rfl) ?_
            refine lv_icmp_ge (tgt := 67) hx hb dX8_fewestForgotten_21 (by decide) (fun c2 => ?_) (fun c2 => ?_)
            · have c2 := zz_leT c2
              refine lv_iload_n hx hb dX8_fewestForgotten_67 rfl (lv_at hl 3 rfl) ?_
              refine lv_iload hx hb dX8_fewestForgotten_68 (lv_at hl 1 rfl) ?_
              refine lv_icmp_ne (tgt := 75) hx hb dX8_fewestForgotten_70 (by decide) (fun c3 => ?_) (fun c3 => ?_)
              · have c3 := zz_neT c3
                obtain ⟨n4, e4⟩ : ∃ y : Int32, y = rd + 1 := ⟨_, rfl⟩
                have f4 : n4.toInt = (rd).toInt + (1) := by have h9 := zz_addT e4 (by omega) (by omega); omega
                refine lv_iinc (v := n4) (lv' := [(4, .int n4), (6, .int ii), (5, .int set), (3, .int set2), (0, .ref h0), (1, .int mt), (2, .int nn)]) hx hb dX8_fewestForgotten_75 hl (k := 2) rfl (by rw [e4]; rfl) (by decide) rfl (fun ls hl => ?_)
                refine lv_goto (tgt := 5) hx hb dX8_fewestForgotten_78 (by decide) ?_
                exact ih5 set2 n4 σb _ _ _ (by omega) hC (by first | omega | exact ht | (rw [t0]; omega) | (rw [t1]; omega) | (rw [t2]; omega) | (rw [t3]; omega) | (intro j hj; rw [(hC _ _ (by first | (dsimp only; omega) | omega))]; exact ht j hj)) (by exact f18_1) (by exact f18_2) (by have hlt := zy_pc_lt f5_1 f18_1 f18_3 (by omega); omega) t0 t1 t2 t3 hP hS (lv_sub hl [0, 3, 4, 5, 6] rfl)
              · have c3 := zz_eqT c3
                refine lv_iload_n hx hb dX8_fewestForgotten_73 rfl (lv_at hl 3 rfl) ?_
                have he9 : set2 = set := zz_ext (by omega)
                exact zz_iret hx hb hr hlocks hK hP hS dX8_fewestForgotten_74 (by exact ⟨hC, zy_fs_of (by omega) f18_1 f18_2 (fun k hk => by rw [he9]; exact zy_ow_no (f18_4 he9 k (by omega)))⟩)
            · have c2 := zz_nleT c2
              refine lv_aload_n hx hb dX8_fewestForgotten_24 rfl (lv_at hl 4 rfl) ?_
              refine zz_getr hx hb hts hi8 hown hK hP (g0.1) rfl 6 (by decide) (hts (.fieldLink RX8 42 "NoonLaw" "sight" "LNoonLaw$Sight;") (List.mem_cons_of_mem _ bm_31)) rfl rfl dX8_fewestForgotten_25 ?_
              refine lv_aload_n hx hb dX8_fewestForgotten_28 rfl (lv_at hl 4 rfl) ?_
              refine zz_getr hx hb hts hi8 hown hK hP (g0.1) rfl 0 (by decide) (hts (.fieldLink RX8 10 "NoonLaw" "realm" "LNoonLaw$Realm;") (List.mem_cons_of_mem _ bm_16)) rfl rfl dX8_fewestForgotten_29 ?_
              refine lv_aload_n hx hb dX8_fewestForgotten_32 rfl (lv_at hl 4 rfl) ?_
              refine zz_getr hx hb hts hi8 hown hK hP (g0.1) rfl 0 (by decide) (hts (.fieldLink RX8 10 "NoonLaw" "realm" "LNoonLaw$Realm;") (List.mem_cons_of_mem _ bm_16)) rfl rfl dX8_fewestForgotten_33 ?_
              refine zz_geti hx hb hts hi2 hown hK hP (g0.2.1.1) rfl 0 (by decide) (hts (.fieldLink RX8 104 "NoonLaw$Realm" "hour" "I") (List.mem_cons_of_mem _ bm_166)) rfl rfl t0 dX8_fewestForgotten_36 ?_
              refine lv_iload hx hb dX8_fewestForgotten_39 (lv_at hl 0 rfl) ?_
              refine lv_iadd hx hb dX8_fewestForgotten_41 ?_
              refine lv_topi (fun n5 e5 => ?_)
              have f5 : n5.toInt = (σ (h0 + 1) 0).toInt + (ii).toInt := zz_addT e5 (by omega) (by omega)
              refine zz_callVv (As := [.ref (h0 + 1), .int n5]) (rest := []) ⟨hx, hb, hml, hown, hts⟩ hK hP hS (c_X4_look l E σb (h0 + 61) (h0 + 1) n5 (g0.2.2.2.2.2.2.2.1) (g0.2.1) (by rw [t2]; exact hd) (by intro j hj; rw [(hC _ _ (by first | (dsimp only; omega) | omega))]; exact ht j hj) (by omega) (by first | omega | exact ht | (rw [t0]; omega) | (rw [t1]; omega) | (rw [t2]; omega) | (rw [t3]; omega) | (intro j hj; rw [(hC _ _ (by first | (dsimp only; omega) | omega))]; exact ht j hj)) K (by exact hW.keep (fun a k q => hC a k (by first | (dsimp only; omega) | omega)))) (cwV 2 hts gX8_fewestForgotten_X4_look rfl rfl rfl (by decide +kernel) ⟨Nat.le_of_ble_eq_true rfl, Nat.le_of_ble_eq_true rfl⟩) (g0.2.2.2.2.2.2.2.1.1) rfl rfl hl.1 rfl (Nat.le_of_ble_eq_true rfl) dX8_fewestForgotten_42 ⟨Nat.zero_le _, Nat.zero_le _⟩ (fun σ6 H locs q6 hP1 hS1 => ?_)
              replace hP := hP1
              replace hS := hS1
              clear hP1 hS1
              try dsimp only at q6
              obtain ⟨w6, f6⟩ := q6
              replace hC := hC.tr (w6.mono (dS13_1 h0))
              try simp only [t0, t1, t2, t3] at f6
              replace t0 : σ6 (h0 + 1) 0 = σ (h0 + 1) 0 := (w6 (h0 + 1) 0 (dS13_2 h0)).trans t0
              replace t1 : σ6 (h0 + 1) 1 = σ (h0 + 1) 1 := (w6 (h0 + 1) 1 (dS13_2 h0)).trans t1
              replace t2 : σ6 (h0 + 1) 4 = σ (h0 + 1) 4 := (w6 (h0 + 1) 4 (dS13_2 h0)).trans t2
              replace t3 : σ6 (h0 + 1) 6 = σ (h0 + 1) 6 := (w6 (h0 + 1) 6 (dS13_2 h0)).trans t3
              refine lv_iload_n hx hb dX8_fewestForgotten_45 rfl (lv_at hl 3 rfl) ?_
              refine lv_aload_n hx hb dX8_fewestForgotten_46 rfl (lv_at hl 4 rfl) ?_
              refine zz_getr hx hb hts hi8 hown hK hP (g0.1) rfl 6 (by decide) (hts (.fieldLink RX8 42 "NoonLaw" "sight" "LNoonLaw$Sight;") (List.mem_cons_of_mem _ bm_31)) rfl rfl dX8_fewestForgotten_47 ?_
              refine lv_aload_n hx hb dX8_fewestForgotten_50 rfl (lv_at hl 4 rfl) ?_
              refine zz_getr hx hb hts hi8 hown hK hP (g0.1) rfl 0 (by decide) (hts (.fieldLink RX8 10 "NoonLaw" "realm" "LNoonLaw$Realm;") (List.mem_cons_of_mem _ bm_16)) rfl rfl dX8_fewestForgotten_51 ?_
              refine lv_iload_n hx hb dX8_fewestForgotten_54 rfl (lv_at hl 5 rfl) ?_
              refine lv_iload_n hx hb dX8_fewestForgotten_55 rfl (lv_at hl 3 rfl) ?_
              refine zz_callVp (As := [.ref (h0 + 1), .int mt, .int set2]) (rest := [.int set2]) ⟨hx, hb, hml, hown, hts⟩ hK hP hS (c_X4_outweighing l E σ6 (h0 + 61) (h0 + 1) mt set2 (g0.2.2.2.2.2.2.2.1) (g0.2.1) (by rw [t2]; exact hd) K n5.toInt (by exact f6) (by exact hW.keep (fun a k q => hC a k (by first | (dsimp only; omega) | omega)))) (cwV 3 hts gX8_fewestForgotten_X4_outweighing rfl rfl rfl (by decide +kernel) ⟨Nat.le_of_ble_eq_true rfl, Nat.le_of_ble_eq_true rfl⟩) (g0.2.2.2.2.2.2.2.1.1) rfl rfl hl.1 rfl (Nat.le_of_ble_eq_true rfl) dX8_fewestForgotten_56 ⟨Nat.zero_le _, Nat.zero_le _⟩ (fun r7 H locs f7 hP1 hS1 => ?_)
              replace hP := hP1
              replace hS := hS1
              clear hP1 hS1
              have how := f7
              rw [show n5.toInt = ((σ (h0 + 1) 0).toInt + ((ii.toInt.toNat : Nat) : Int)) from by omega] at how
              have hin9 : ∀ d : Nat, zy_tb r7 d → (d : Int) < K.2.2.1 ∧ zy_ow K ((σ (h0 + 1) 0).toInt + ((ii.toInt.toNat : Nat) : Int)) mt.toInt (zy_tb set2) d := fun d z => by
                rw [how, zy_tb_st _ (by omega)] at z
                exact ⟨by omega, z.2⟩
              have hou9 : ∀ d : Nat, (d : Int) < K.2.2.1 → zy_ow K ((σ (h0 + 1) 0).toInt + ((ii.toInt.toNat : Nat) : Int)) mt.toInt (zy_tb set2) d → zy_tb r7 d := fun d h1 h2 => by
                rw [how, zy_tb_st _ (by omega)]
                exact ⟨by omega, h2⟩
              have hrw : 0 ≤ r7.toInt ∧ r7.toInt < 1024 := by rw [how]; exact zy_st_rng _ (by omega)
              refine lv_ior hx hb dX8_fewestForgotten_59 ?_
              refine lv_topi (fun n8 e8 => ?_)
              refine lv_istore_n (lv' := [(3, .int n8), (6, .int ii), (5, .int set), (4, .int rd), (0, .ref h0), (1, .int mt), (2, .int nn)]) hx hb dX8_fewestForgotten_60 rfl hl (by decide) rfl (fun ls hl => ?_)
              obtain ⟨n9, e9⟩ : ∃ y : Int32, y = ii + 1 := ⟨_, rfl⟩
              have f9 : n9.toInt = (ii).toInt + (1) := by have h9 := zz_addT e9 (by omega) (by omega); omega
              refine lv_iinc (v := n9) (lv' := [(6, .int n9), (3, .int n8), (5, .int set), (4, .int rd), (0, .ref h0), (1, .int mt), (2, .int nn)]) hx hb dX8_fewestForgotten_61 hl (k := 1) rfl (by rw [e9]; rfl) (by decide) rfl (fun ls hl => ?_)
              refine lv_goto (tgt := 18) hx hb dX8_fewestForgotten_64 (by decide) ?_
              exact ih18 n8 n9 σ6 _ _ _ (by omega) hC (by first | omega | exact ht | (rw [t0]; omega) | (rw [t1]; omega) | (rw [t2]; omega) | (rw [t3]; omega) | (intro j hj; rw [(hC _ _ (by first | (dsimp only; omega) | omega))]; exact ht j hj)) (by exact zy_or_rng f18_1 hrw e8) (by intro d hd; exact ((zy_tb_or e8).mp hd).elim (f18_2 d) (fun z => zy_ow_in hid9 ⟨(hin9 d z).1, by have := (hin9 d z).1; omega⟩ (by omega) (zy_fw_vd _ _ _ _) f18_2 (hin9 d z).2)) (by intro d hd; exact (zy_tb_or e8).mpr (Or.inl (f18_3 d hd))) (by intro he; have h2 : set2 = set := zy_tb_ext f18_1 f5_1 (fun d => ⟨fun z => by rw [← he]; exact (zy_tb_or e8).mpr (Or.inl z), f18_3 d⟩); intro k hk d hd ho; exact if hq : (k : Int) < ii.toInt then f18_4 h2 k hq d hd ho else ho.2.2.1 (by rw [← he]; exact (zy_tb_or e8).mpr (Or.inr (hou9 d hd (by rw [h2, show ii.toInt.toNat = k from by omega]; exact ho))))) t0 t1 t2 t3 hP hS (lv_sub hl [0, 2, 3, 1, 4, 5, 6] rfl)
        exact J18 _ set 0 σa _ _ _ (Nat.lt_succ_self _) hC (by first | omega | exact ht | (rw [t0]; omega) | (rw [t1]; omega) | (rw [t2]; omega) | (rw [t3]; omega) | (intro j hj; rw [(hC _ _ (by first | (dsimp only; omega) | omega))]; exact ht j hj)) (by exact f5_1) (by exact f5_2) (by exact fun d z => z) (by intro _ k hk; omega) t0 t1 t2 t3 hP hS (lv_sub hl [0, 1, 2, 3, 4, 5, 6] rfl)
  exact J5 _ 0 0 σ _ _ _ (Nat.lt_succ_self _) hC (by first | omega | exact ht | (rw [t0]; omega) | (rw [t1]; omega) | (rw [t2]; omega) | (rw [t3]; omega) | (intro j hj; rw [(hC _ _ (by first | (dsimp only; omega) | omega))]; exact ht j hj)) (by omega) (by exact fun d z => absurd z (zy_tb_0 d)) (by rw [zy_pc_0 (x := 0) k_0]; omega) t0 t1 t2 t3 hP hS (lv_sub hl [0, 1, 2, 3, 4] rfl)
theorem gX8_become_X8_isDream : GoodIn wzX8_become (wsV RX8 76 RX8 yX8_isDream wzX8_isDream) := wz_co bm_168 (wz_co bm_169 (wz_co bm_170 (wz_co bm_2 (wz_in bm_171))))
theorem gX8_become_X8_isKindAndNumber : GoodIn wzX8_become (va_wsS RX8 57 yX8_isKindAndNumber wzX8_isKindAndNumber) := wz_co bm_109 (wz_co bm_110 (wz_co bm_2 (wz_in bm_111)))
theorem gX8_become_X8_refuse : GoodIn wzX8_become (wsV RX8 68 RX8 yX8_refuse wzX8_refuse) := wz_co bm_118 (wz_co bm_119 (wz_co bm_120 (wz_co bm_2 (wz_in bm_121))))
theorem dS13_5 (x0 : Nat) : ∀ a k : Nat, (a = (x0) + 65) → (a = x0 + 24 ∨ a = x0 + 27 ∨ (x0 + 58 ≤ a ∧ a ≤ x0 + 67) ∨ (x0 + 7 ≤ a ∧ a < x0 + 16)) := by intro a k h; omega
theorem dS13_6 (x0 : Nat) : ¬ ((x0 + 1) = (x0) + 65) := by omega
set_option maxHeartbeats 4000000 in
set_option maxRecDepth 100000 in
theorem c_X8_become (l : Launch) (E : zz_E) (σ : zz_S) (h0 : Nat) (dm : Int32) (km : Int32) (g0 : zz_L E h0) (hI : zz_IX σ h0) : Met l yX8_become wzX8_become ({ frames := 2, cells := 0, slots := 0, locals := 43 }) (va_Pc [.ref h0, .int dm, .int km] (zz_B E σ)) (va_Qi (fun r σ1 => zz_ch (fun a k => a = h0 + 24 ∨ a = h0 + 27 ∨ (h0 + 58 ≤ a ∧ a ≤ h0 + 67) ∨ (h0 + 7 ≤ a ∧ a < h0 + 16)) σ σ1 ∧ (zz_IX σ1 h0 ∧ ((¬ (0 ≤ dm.toInt ∧ dm.toInt < (σ (h0 + 1) 4).toInt ∧ 0 ≤ km.toInt ∧ km.toInt ≤ 69) ∧ r.toInt = -1000000001 ∧ zz_DX σ1 (h0 + 1) = zz_DX σ (h0 + 1)) ∨ ((0 ≤ dm.toInt ∧ dm.toInt < (σ (h0 + 1) 4).toInt ∧ 0 ≤ km.toInt ∧ km.toInt ≤ 69) ∧ r.toInt = zz_DX σ (h0 + 1) dm.toInt.toNat 0 ∧ zz_DX σ1 (h0 + 1) = zz_ds (zz_ds (zz_DX σ (h0 + 1)) dm.toInt 0 (km.toInt / 10)) dm.toInt 1 (km.toInt % 10))))) (zz_B E) (zz_A E)) 0 0 (zz_A E) := by
  refine zz_met (cc := cX8_become) (maxL := 5) (ret := (some .int)) (by decide) rfl (Nat.le_of_ble_eq_true rfl) ?_
  intro p e s m args below meth c ls hx hb hr hts hown hlocks hml hK hP hS hl
  have hl : lv_has ls 5 [(0, .ref h0), (1, .int dm), (2, .int km)] := hl
  have hown : s.vm.findClass RX8 = some m.cls := hown
  have hi0 : ∀ w ∈ wsX00, w ∈ wzX8_become := fun w h => List.mem_cons_of_mem _ (hbw0 w h)
  have hi2 : ∀ w ∈ wsX20, w ∈ wzX8_become := fun w h => List.mem_cons_of_mem _ (hbw2 w h)
  have hi8 : ∀ w ∈ wsX80, w ∈ wzX8_become := fun w h => List.mem_cons_of_mem _ (hbw8 w h)
  have k_0 : (0 : Int32).toInt = 0 := by decide +kernel
  have k_1 : (1 : Int32).toInt = 1 := by decide +kernel
  have k_10 : (10 : Int32).toInt = 10 := by decide +kernel
  replace t0 : σ (h0 + 1) 0 = σ (h0 + 1) 0 := rfl
  replace t1 : σ (h0 + 1) 1 = σ (h0 + 1) 1 := rfl
  replace t2 : σ (h0 + 1) 4 = σ (h0 + 1) 4 := rfl
  replace t3 : σ (h0 + 1) 6 = σ (h0 + 1) 6 := rfl
  have hC : zz_ch (fun a k => a = h0 + 24 ∨ a = h0 + 27 ∨ (h0 + 58 ≤ a ∧ a ≤ h0 + 67) ∨ (h0 + 7 ≤ a ∧ a < h0 + 16)) σ σ := zz_ch.rf σ
  obtain ⟨⟨hh, hsl, hd, hp, htc, hwc, ht, hft, hst, hid⟩, hkI, hsh, hspk⟩ := id hI
  refine lv_aload_n hx hb dX8_become_0 rfl (lv_at hl 0 rfl) ?_
  refine lv_iload_n hx hb dX8_become_1 rfl (lv_at hl 1 rfl) ?_
  refine zz_callVp (As := [.int dm]) (rest := []) ⟨hx, hb, hml, hown, hts⟩ hK hP hS (c_X8_isDream l E σ h0 dm g0 (by exact hd)) (cwV 1 hts gX8_become_X8_isDream rfl rfl rfl (by decide +kernel) ⟨Nat.le_of_ble_eq_true rfl, Nat.le_of_ble_eq_true rfl⟩) (g0.1) rfl rfl hl.1 rfl (Nat.le_of_ble_eq_true rfl) dX8_become_2 ⟨Nat.zero_le _, Nat.zero_le _⟩ (fun r1 H locs f1 hP1 hS1 => ?_)
  replace hP := hP1
  replace hS := hS1
  clear hP1 hS1
  refine lv_if_eq (tgt := 15) hx hb dX8_become_5 (by decide) (fun c2 => ?_) (fun c2 => ?_)
  · have c2 := zz_eqT c2
    refine lv_aload_n hx hb dX8_become_15 rfl (lv_at hl 0 rfl) ?_
    refine lv_iconst (v := 1) hx hb dX8_become_16 (by decide) ?_
    refine zz_callVi (As := [.int 1]) (rest := []) ⟨hx, hb, hml, hown, hts⟩ hK hP hS (c_X8_refuse l E σ h0 1 g0 (by omega)) (cwV 1 hts gX8_become_X8_refuse rfl rfl rfl (by decide +kernel) ⟨Nat.le_of_ble_eq_true rfl, Nat.le_of_ble_eq_true rfl⟩) (g0.1) rfl rfl hl.1 rfl (Nat.le_of_ble_eq_true rfl) dX8_become_17 ⟨Nat.zero_le _, Nat.zero_le _⟩ (fun r3 σ3 H locs q3 hP1 hS1 => ?_)
    replace hP := hP1
    replace hS := hS1
    clear hP1 hS1
    try dsimp only at q3
    obtain ⟨w3, f3⟩ := q3
    replace hC := hC.tr (w3.mono (dS13_5 h0))
    replace t0 : σ3 (h0 + 1) 0 = σ (h0 + 1) 0 := (w3 (h0 + 1) 0 (dS13_6 h0)).trans t0
    replace t1 : σ3 (h0 + 1) 1 = σ (h0 + 1) 1 := (w3 (h0 + 1) 1 (dS13_6 h0)).trans t1
    replace t2 : σ3 (h0 + 1) 4 = σ (h0 + 1) 4 := (w3 (h0 + 1) 4 (dS13_6 h0)).trans t2
    replace t3 : σ3 (h0 + 1) 6 = σ (h0 + 1) 6 := (w3 (h0 + 1) 6 (dS13_6 h0)).trans t3
    exact zz_iret hx hb hr hlocks hK hP hS dX8_become_20 (by exact ⟨hC, hI.soft (w3.mono (by intro a k h; omega)), Or.inl ⟨by omega, by omega, by rw [zz_DXk (r := h0 + 1) w3 (by intro j hj k hk; first | (dsimp only; omega) | omega)]⟩⟩)
  · have c2 := zz_neT c2
    refine lv_iload_n hx hb dX8_become_8 rfl (lv_at hl 2 rfl) ?_
    refine zz_callSp (As := [.int km]) (rest := []) ⟨hx, hb, hml, hown, hts⟩ hK hP hS (c_X8_isKindAndNumber l E σ km) (va_cwS 1 hts gX8_become_X8_isKindAndNumber rfl rfl rfl (by decide +kernel) ⟨Nat.le_of_ble_eq_true rfl, Nat.le_of_ble_eq_true rfl⟩) rfl hl.1 rfl (Nat.le_of_ble_eq_true rfl) dX8_become_9 ⟨Nat.zero_le _, Nat.zero_le _⟩ (fun r4 H locs f4 hP1 hS1 => ?_)
    replace hP := hP1
    replace hS := hS1
    clear hP1 hS1
    refine lv_if_ne (tgt := 21) hx hb dX8_become_12 (by decide) (fun c5 => ?_) (fun c5 => ?_)
    · have c5 := zz_neT c5
      refine lv_aload_n hx hb dX8_become_21 rfl (lv_at hl 0 rfl) ?_
      refine zz_getr hx hb hts hi8 hown hK hP (g0.1) rfl 0 (by decide) (hts (.fieldLink RX8 10 "NoonLaw" "realm" "LNoonLaw$Realm;") (List.mem_cons_of_mem _ bm_16)) rfl rfl dX8_become_22 ?_
      refine zz_getr hx hb hts hi2 hown hK hP (g0.2.1.1) rfl 3 (by decide) (hts (.fieldLink RX8 79 "NoonLaw$Realm" "dreams" "[LNoonLaw$Dream;") (List.mem_cons_of_mem _ bm_159)) rfl rfl dX8_become_25 ?_
      refine lv_iload_n hx hb dX8_become_28 rfl (lv_at hl 1 rfl) ?_
      refine zz_aald hx hb hK hP (g0.2.1.2.1) rfl (by omega) (by omega) dX8_become_29 (fun j6 q6 r6 => ?_)
      refine lv_astore_n (lv' := [(3, .ref ((h0 + 1) + 6 + 1 * j6)), (0, .ref h0), (1, .int dm), (2, .int km)]) hx hb dX8_become_30 rfl hl (by decide) rfl (fun ls hl => ?_)
      refine lv_aload_n hx hb dX8_become_31 rfl (lv_at hl 0 rfl) ?_
      refine zz_geti hx hb hts hi0 hown hK hP ((g0.2.1.2.2.2.2.2.2.1 j6 r6)) rfl 0 (by decide) (hts (.fieldLink RX8 83 "NoonLaw$Dream" "kind" "I") (List.mem_cons_of_mem _ bm_160)) rfl rfl rfl dX8_become_32 ?_
      refine lv_istore (lv' := [(4, .int (σ ((h0 + 1) + 6 + 1 * j6) 0)), (3, .ref ((h0 + 1) + 6 + 1 * j6)), (0, .ref h0), (1, .int dm), (2, .int km)]) hx hb dX8_become_35 hl (by decide) rfl (fun ls hl => ?_)
      refine lv_aload_n hx hb dX8_become_37 rfl (lv_at hl 1 rfl) ?_
      refine lv_iload_n hx hb dX8_become_38 rfl (lv_at hl 4 rfl) ?_
      refine lv_bipush (v := 10) hx hb dX8_become_39 (by decide) ?_
      refine lv_idiv hx hb dX8_become_41 (by decide) ?_
      refine lv_topi (fun n7 e7 => ?_)
      have f7 : n7.toInt = (km).toInt / 10 := zz_divT 10 e7 (by decide) (by omega)
      refine zz_puti (v := n7) (ty := .int) hx hb hts hi0 tyX0 tyX0_ok nmX0 hown hK hP hS ((g0.2.1.2.2.2.2.2.2.1 j6 r6)) rfl 0 (by decide) (hts (.fieldLink RX8 83 "NoonLaw$Dream" "kind" "I") (List.mem_cons_of_mem _ bm_160)) rfl rfl (by decide +kernel) rfl rfl rfl dX8_become_42 (fun σ8 H locs w8 hP1 hS1 => ?_)
      replace hP := hP1
      replace hS := hS1
      clear hP1 hS1
      replace hC := hC.u w8 (by first | (dsimp only; omega) | omega | (dsimp only; done))
      replace t0 : σ8 (h0 + 1) 0 = σ (h0 + 1) 0 := (zz_w (b := (h0 + 1)) (j := 0) w8 (by omega)).trans t0
      replace t1 : σ8 (h0 + 1) 1 = σ (h0 + 1) 1 := (zz_w (b := (h0 + 1)) (j := 1) w8 (by omega)).trans t1
      replace t2 : σ8 (h0 + 1) 4 = σ (h0 + 1) 4 := (zz_w (b := (h0 + 1)) (j := 4) w8 (by omega)).trans t2
      replace t3 : σ8 (h0 + 1) 6 = σ (h0 + 1) 6 := (zz_w (b := (h0 + 1)) (j := 6) w8 (by omega)).trans t3
      refine lv_aload_n hx hb dX8_become_45 rfl (lv_at hl 1 rfl) ?_
      refine lv_iload_n hx hb dX8_become_46 rfl (lv_at hl 4 rfl) ?_
      refine lv_bipush (v := 10) hx hb dX8_become_47 (by decide) ?_
      refine lv_irem hx hb dX8_become_49 (by decide) ?_
      refine lv_topi (fun n9 e9 => ?_)
      have f9 : n9.toInt = (km).toInt % 10 := zz_remT 10 e9 (by decide) (by omega)
      refine zz_puti (v := n9) (ty := .int) hx hb hts hi0 tyX0 tyX0_ok nmX0 hown hK hP hS ((g0.2.1.2.2.2.2.2.2.1 j6 r6)) rfl 1 (by decide) (hts (.fieldLink RX8 89 "NoonLaw$Dream" "m" "I") (List.mem_cons_of_mem _ bm_161)) rfl rfl (by decide +kernel) rfl rfl rfl dX8_become_50 (fun σ10 H locs w10 hP1 hS1 => ?_)
      replace hP := hP1
      replace hS := hS1
      clear hP1 hS1
      replace hC := hC.u w10 (by first | (dsimp only; omega) | omega | (dsimp only; done))
      replace t0 : σ10 (h0 + 1) 0 = σ (h0 + 1) 0 := (zz_w (b := (h0 + 1)) (j := 0) w10 (by omega)).trans t0
      replace t1 : σ10 (h0 + 1) 1 = σ (h0 + 1) 1 := (zz_w (b := (h0 + 1)) (j := 1) w10 (by omega)).trans t1
      replace t2 : σ10 (h0 + 1) 4 = σ (h0 + 1) 4 := (zz_w (b := (h0 + 1)) (j := 4) w10 (by omega)).trans t2
      replace t3 : σ10 (h0 + 1) 6 = σ (h0 + 1) 6 := (zz_w (b := (h0 + 1)) (j := 6) w10 (by omega)).trans t3
      refine lv_iload hx hb dX8_become_53 (lv_at hl 0 rfl) ?_
      have hDq : zz_DX σ10 (h0 + 1) = zz_ds (zz_ds (zz_DX σ (h0 + 1)) dm.toInt 0 (km.toInt / 10)) dm.toInt 1 (km.toInt % 10) := by rw [zz_DXw w10 q6 r6 (by decide), zz_DXw w8 q6 r6 (by decide), f7, f9]
      exact zz_iret hx hb hr hlocks hK hP hS dX8_become_55 (by exact ⟨hC, ⟨⟨by rw [t0]; exact hh, by rw [t1]; exact hsl, by rw [t2]; exact hd, by rw [t3]; exact hp, by rw [hC _ _ (by first | (dsimp only; omega) | omega)]; exact htc, by rw [hC _ _ (by first | (dsimp only; omega) | omega)]; exact hwc, (fun j hj => by rw [hC _ _ (by first | (dsimp only; omega) | omega)]; exact ht j hj), (fun j hj => by rw [hC _ _ (by first | (dsimp only; omega) | omega)]; exact hft j hj), (fun j hj => by rw [hC _ _ (by first | (dsimp only; omega) | omega)]; exact hst j hj), by rw [hDq]; exact (hid.ds (by omega) (by omega) (by omega) (by omega) (by omega) (by omega)).ds (by omega) (by omega) (by omega) (by omega) (by omega) (by omega)⟩, (hkI.keep (fun k => hC _ _ (by first | (dsimp only; omega) | omega)) (fun k => hC _ _ (by first | (dsimp only; omega) | omega)) (fun j hj k => hC _ _ (by first | (dsimp only; omega) | omega)) (fun j hj f hf => hC _ _ (by first | (dsimp only; omega) | omega))), (fun j hj => by rw [hC _ _ (by first | (dsimp only; omega) | omega)]; exact hsh j hj), (by rw [hC _ _ (by first | (dsimp only; omega) | omega)]; exact hspk)⟩, Or.inr ⟨by omega, by rw [show dm.toInt.toNat = j6 from by omega, zz_DX.at r6 (by decide)], hDq⟩⟩)
    · have c5 := zz_eqT c5
      refine lv_aload_n hx hb dX8_become_15 rfl (lv_at hl 0 rfl) ?_
      refine lv_iconst (v := 1) hx hb dX8_become_16 (by decide) ?_
      refine zz_callVi (As := [.int 1]) (rest := []) ⟨hx, hb, hml, hown, hts⟩ hK hP hS (c_X8_refuse l E σ h0 1 g0 (by omega)) (cwV 1 hts gX8_become_X8_refuse rfl rfl rfl (by decide +kernel) ⟨Nat.le_of_ble_eq_true rfl, Nat.le_of_ble_eq_true rfl⟩) (g0.1) rfl rfl hl.1 rfl (Nat.le_of_ble_eq_true rfl) dX8_become_17 ⟨Nat.zero_le _, Nat.zero_le _⟩ (fun r11 σ11 H locs q11 hP1 hS1 => ?_)
      replace hP := hP1
      replace hS := hS1
      clear hP1 hS1
      try dsimp only at q11
      obtain ⟨w11, f11⟩ := q11
      replace hC := hC.tr (w11.mono (dS13_5 h0))
      replace t0 : σ11 (h0 + 1) 0 = σ (h0 + 1) 0 := (w11 (h0 + 1) 0 (dS13_6 h0)).trans t0
      replace t1 : σ11 (h0 + 1) 1 = σ (h0 + 1) 1 := (w11 (h0 + 1) 1 (dS13_6 h0)).trans t1
      replace t2 : σ11 (h0 + 1) 4 = σ (h0 + 1) 4 := (w11 (h0 + 1) 4 (dS13_6 h0)).trans t2
      replace t3 : σ11 (h0 + 1) 6 = σ (h0 + 1) 6 := (w11 (h0 + 1) 6 (dS13_6 h0)).trans t3
      exact zz_iret hx hb hr hlocks hK hP hS dX8_become_20 (by exact ⟨hC, hI.soft (w11.mono (by intro a k h; omega)), Or.inl ⟨by omega, by omega, by rw [zz_DXk (r := h0 + 1) w11 (by intro j hj k hk; first | (dsimp only; omega) | omega)]⟩⟩)
theorem gX8_dreamIs_X8_isDream : GoodIn wzX8_dreamIs (wsV RX8 76 RX8 yX8_isDream wzX8_isDream) := wz_co bm_168 (wz_co bm_169 (wz_co bm_170 (wz_co bm_2 (wz_in bm_171))))
theorem gX8_dreamIs_X8_within : GoodIn wzX8_dreamIs (va_wsS RX8 64 yX8_within wzX8_within) := wz_co bm_112 (wz_co bm_113 (wz_co bm_2 (wz_in bm_114)))
theorem gX8_dreamIs_X8_refuse : GoodIn wzX8_dreamIs (wsV RX8 68 RX8 yX8_refuse wzX8_refuse) := wz_co bm_118 (wz_co bm_119 (wz_co bm_120 (wz_co bm_2 (wz_in bm_121))))
theorem gX8_dreamIs_X0_isInForce : GoodIn wzX8_dreamIs (wsV RX8 110 RX0 yX0_isInForce wzX0_isInForce) := wz_co bm_173 (wz_co bm_174 (wz_co bm_175 (wz_co bm_54 (wz_in bm_176))))
theorem gX8_dreamIs_X2_weight : GoodIn wzX8_dreamIs (wsV RX8 114 RX2 yX2_weight wzX2_weight) := wz_co bm_201 (wz_co bm_202 (wz_co bm_203 (wz_co bm_15 (wz_in bm_204))))
theorem dS13_7 (x0 : Nat) : ∀ a k : Nat, (a = (x0) + 65) → (a = x0 + 24 ∨ a = x0 + 27 ∨ (x0 + 58 ≤ a ∧ a ≤ x0 + 67)) := by intro a k h; omega
theorem dS13_8 (x0 : Nat) : ∀ a k : Nat, (a = (x0 + 1) + 23 ∨ a = (x0 + 1) + 26) → (a = x0 + 24 ∨ a = x0 + 27 ∨ (x0 + 58 ≤ a ∧ a ≤ x0 + 67)) := by intro a k h; omega
theorem dS13_9 (x0 : Nat) : ¬ ((x0 + 1) = (x0 + 1) + 23 ∨ (x0 + 1) = (x0 + 1) + 26) := by omega
set_option maxHeartbeats 4000000 in
set_option maxRecDepth 100000 in
theorem c_X8_dreamIs (l : Launch) (E : zz_E) (σ : zz_S) (h0 : Nat) (dm : Int32) (what : Int32) (g0 : zz_L E h0) (hI : zz_IX σ h0) (K : zy_W) (hW : zy_XW σ (h0 + 1) K) : Met l yX8_dreamIs wzX8_dreamIs ({ frames := 4, cells := 0, slots := 0, locals := 96 }) (va_Pc [.ref h0, .int dm, .int what] (zz_B E σ)) (va_Qi (fun r σ1 => zz_ch (fun a k => a = h0 + 24 ∨ a = h0 + 27 ∨ (h0 + 58 ≤ a ∧ a ≤ h0 + 67)) σ σ1 ∧ (zy_p3 K (σ (h0 + 1) 0).toInt dm.toInt what.toInt r)) (zz_B E) (zz_A E)) 0 0 (zz_A E) := by
  refine zz_met (cc := cX8_dreamIs) (maxL := 4) (ret := (some .int)) (by decide) rfl (Nat.le_of_ble_eq_true rfl) ?_
  intro p e s m args below meth c ls hx hb hr hts hown hlocks hml hK hP hS hl
  have hl : lv_has ls 4 [(0, .ref h0), (1, .int dm), (2, .int what)] := hl
  have hown : s.vm.findClass RX8 = some m.cls := hown
  have hi0 : ∀ w ∈ wsX00, w ∈ wzX8_dreamIs := fun w h => List.mem_cons_of_mem _ (hbw0 w h)
  have hi2 : ∀ w ∈ wsX20, w ∈ wzX8_dreamIs := fun w h => List.mem_cons_of_mem _ (hbw2 w h)
  have hi8 : ∀ w ∈ wsX80, w ∈ wzX8_dreamIs := fun w h => List.mem_cons_of_mem _ (hbw8 w h)
  have k_0 : (0 : Int32).toInt = 0 := by decide +kernel
  have k_1 : (1 : Int32).toInt = 1 := by decide +kernel
  have k_7 : (7 : Int32).toInt = 7 := by decide +kernel
  replace t0 : σ (h0 + 1) 0 = σ (h0 + 1) 0 := rfl
  replace t1 : σ (h0 + 1) 1 = σ (h0 + 1) 1 := rfl
  replace t2 : σ (h0 + 1) 4 = σ (h0 + 1) 4 := rfl
  replace t3 : σ (h0 + 1) 6 = σ (h0 + 1) 6 := rfl
  have hC : zz_ch (fun a k => a = h0 + 24 ∨ a = h0 + 27 ∨ (h0 + 58 ≤ a ∧ a ≤ h0 + 67)) σ σ := zz_ch.rf σ
  obtain ⟨⟨hh, hsl, hd, hp, htc, hwc, ht, hft, hst, hid⟩, hkI, hsh, hspk⟩ := id hI
  have hct := hW.2.1
  have hlt := hW.2.2.1
  refine lv_aload_n hx hb dX8_dreamIs_0 rfl (lv_at hl 0 rfl) ?_
  refine lv_iload_n hx hb dX8_dreamIs_1 rfl (lv_at hl 1 rfl) ?_
  refine zz_callVp (As := [.int dm]) (rest := []) ⟨hx, hb, hml, hown, hts⟩ hK hP hS (c_X8_isDream l E σ h0 dm g0 (by exact hd)) (cwV 1 hts gX8_dreamIs_X8_isDream rfl rfl rfl (by decide +kernel) ⟨Nat.le_of_ble_eq_true rfl, Nat.le_of_ble_eq_true rfl⟩) (g0.1) rfl rfl hl.1 rfl (Nat.le_of_ble_eq_true rfl) dX8_dreamIs_2 ⟨Nat.zero_le _, Nat.zero_le _⟩ (fun r1 H locs f1 hP1 hS1 => ?_)
  replace hP := hP1
  replace hS := hS1
  clear hP1 hS1
  refine lv_if_eq (tgt := 18) hx hb dX8_dreamIs_5 (by decide) (fun c2 => ?_) (fun c2 => ?_)
  · have c2 := zz_eqT c2
    refine lv_aload_n hx hb dX8_dreamIs_18 rfl (lv_at hl 0 rfl) ?_
    refine lv_iconst (v := 1) hx hb dX8_dreamIs_19 (by decide) ?_
    refine zz_callVi (As := [.int 1]) (rest := []) ⟨hx, hb, hml, hown, hts⟩ hK hP hS (c_X8_refuse l E σ h0 1 g0 (by omega)) (cwV 1 hts gX8_dreamIs_X8_refuse rfl rfl rfl (by decide +kernel) ⟨Nat.le_of_ble_eq_true rfl, Nat.le_of_ble_eq_true rfl⟩) (g0.1) rfl rfl hl.1 rfl (Nat.le_of_ble_eq_true rfl) dX8_dreamIs_20 ⟨Nat.zero_le _, Nat.zero_le _⟩ (fun r3 σ3 H locs q3 hP1 hS1 => ?_)
    replace hP := hP1
    replace hS := hS1
    clear hP1 hS1
    try dsimp only at q3
    obtain ⟨w3, f3⟩ := q3
    replace hC := hC.tr (w3.mono (dS13_7 h0))
    replace t0 : σ3 (h0 + 1) 0 = σ (h0 + 1) 0 := (w3 (h0 + 1) 0 (dS13_6 h0)).trans t0
    replace t1 : σ3 (h0 + 1) 1 = σ (h0 + 1) 1 := (w3 (h0 + 1) 1 (dS13_6 h0)).trans t1
    replace t2 : σ3 (h0 + 1) 4 = σ (h0 + 1) 4 := (w3 (h0 + 1) 4 (dS13_6 h0)).trans t2
    replace t3 : σ3 (h0 + 1) 6 = σ (h0 + 1) 6 := (w3 (h0 + 1) 6 (dS13_6 h0)).trans t3
    exact zz_iret hx hb hr hlocks hK hP hS dX8_dreamIs_23 (by exact ⟨hC, Or.inl ⟨by omega, by omega⟩⟩)
  · have c2 := zz_neT c2
    refine lv_iload_n hx hb dX8_dreamIs_8 rfl (lv_at hl 2 rfl) ?_
    refine lv_iconst (v := 0) hx hb dX8_dreamIs_9 (by decide) ?_
    refine lv_bipush (v := 7) hx hb dX8_dreamIs_10 (by decide) ?_
    refine zz_callSp (As := [.int what, .int 0, .int 7]) (rest := []) ⟨hx, hb, hml, hown, hts⟩ hK hP hS (c_X8_within l E σ what 0 7) (va_cwS 3 hts gX8_dreamIs_X8_within rfl rfl rfl (by decide +kernel) ⟨Nat.le_of_ble_eq_true rfl, Nat.le_of_ble_eq_true rfl⟩) rfl hl.1 rfl (Nat.le_of_ble_eq_true rfl) dX8_dreamIs_12 ⟨Nat.zero_le _, Nat.zero_le _⟩ (fun r4 H locs f4 hP1 hS1 => ?_)
    replace hP := hP1
    replace hS := hS1
    clear hP1 hS1
    refine lv_if_ne (tgt := 24) hx hb dX8_dreamIs_15 (by decide) (fun c5 => ?_) (fun c5 => ?_)
    · have c5 := zz_neT c5
      refine lv_aload_n hx hb dX8_dreamIs_24 rfl (lv_at hl 0 rfl) ?_
      refine zz_getr hx hb hts hi8 hown hK hP (g0.1) rfl 0 (by decide) (hts (.fieldLink RX8 10 "NoonLaw" "realm" "LNoonLaw$Realm;") (List.mem_cons_of_mem _ bm_16)) rfl rfl dX8_dreamIs_25 ?_
      refine zz_getr hx hb hts hi2 hown hK hP (g0.2.1.1) rfl 3 (by decide) (hts (.fieldLink RX8 79 "NoonLaw$Realm" "dreams" "[LNoonLaw$Dream;") (List.mem_cons_of_mem _ bm_159)) rfl rfl dX8_dreamIs_28 ?_
      refine lv_iload_n hx hb dX8_dreamIs_31 rfl (lv_at hl 1 rfl) ?_
      refine zz_aald hx hb hK hP (g0.2.1.2.1) rfl (by omega) (by omega) dX8_dreamIs_32 (fun j6 q6 r6 => ?_)
      refine lv_astore_n (lv' := [(3, .ref ((h0 + 1) + 6 + 1 * j6)), (0, .ref h0), (1, .int dm), (2, .int what)]) hx hb dX8_dreamIs_33 rfl hl (by decide) rfl (fun ls hl => ?_)
      refine lv_iload_n hx hb dX8_dreamIs_34 rfl (lv_at hl 3 rfl) ?_
      by_cases c7 : (what).toInt = 0
      · refine lv_tableIn (off := 41) (tgt := 76) hx hb dX8_dreamIs_35 (by omega) (by omega) (by rw [show ((what).toInt - (0)).toNat = 0 from by omega]; rfl) (by decide) ?_
        refine lv_aload_n hx hb dX8_dreamIs_76 rfl (lv_at hl 0 rfl) ?_
        refine zz_geti hx hb hts hi0 hown hK hP ((g0.2.1.2.2.2.2.2.2.1 j6 r6)) rfl 0 (by decide) (hts (.fieldLink RX8 83 "NoonLaw$Dream" "kind" "I") (List.mem_cons_of_mem _ bm_160)) rfl rfl rfl dX8_dreamIs_77 ?_
        exact zz_iret hx hb hr hlocks hK hP hS dX8_dreamIs_80 (by exact ⟨hC, Or.inr (Or.inl ⟨by omega, by rw [show dm.toInt.toNat = j6 from by omega, show what.toInt.toNat = 0 from by omega]; exact hW.at r6 (by decide)⟩)⟩)
      by_cases c8 : (what).toInt = 1
      · refine lv_tableIn (off := 46) (tgt := 81) hx hb dX8_dreamIs_35 (by omega) (by omega) (by rw [show ((what).toInt - (0)).toNat = 1 from by omega]; rfl) (by decide) ?_
        refine lv_aload_n hx hb dX8_dreamIs_81 rfl (lv_at hl 0 rfl) ?_
        refine zz_geti hx hb hts hi0 hown hK hP ((g0.2.1.2.2.2.2.2.2.1 j6 r6)) rfl 1 (by decide) (hts (.fieldLink RX8 89 "NoonLaw$Dream" "m" "I") (List.mem_cons_of_mem _ bm_161)) rfl rfl rfl dX8_dreamIs_82 ?_
        exact zz_iret hx hb hr hlocks hK hP hS dX8_dreamIs_85 (by exact ⟨hC, Or.inr (Or.inl ⟨by omega, by rw [show dm.toInt.toNat = j6 from by omega, show what.toInt.toNat = 1 from by omega]; exact hW.at r6 (by decide)⟩)⟩)
      by_cases c9 : (what).toInt = 2
      · refine lv_tableIn (off := 51) (tgt := 86) hx hb dX8_dreamIs_35 (by omega) (by omega) (by rw [show ((what).toInt - (0)).toNat = 2 from by omega]; rfl) (by decide) ?_
        refine lv_aload_n hx hb dX8_dreamIs_86 rfl (lv_at hl 0 rfl) ?_
        refine zz_geti hx hb hts hi0 hown hK hP ((g0.2.1.2.2.2.2.2.2.1 j6 r6)) rfl 2 (by decide) (hts (.fieldLink RX8 92 "NoonLaw$Dream" "matter" "I") (List.mem_cons_of_mem _ bm_162)) rfl rfl rfl dX8_dreamIs_87 ?_
        exact zz_iret hx hb hr hlocks hK hP hS dX8_dreamIs_90 (by exact ⟨hC, Or.inr (Or.inl ⟨by omega, by rw [show dm.toInt.toNat = j6 from by omega, show what.toInt.toNat = 2 from by omega]; exact hW.at r6 (by decide)⟩)⟩)
      by_cases c10 : (what).toInt = 3
      · refine lv_tableIn (off := 56) (tgt := 91) hx hb dX8_dreamIs_35 (by omega) (by omega) (by rw [show ((what).toInt - (0)).toNat = 3 from by omega]; rfl) (by decide) ?_
        refine lv_aload_n hx hb dX8_dreamIs_91 rfl (lv_at hl 0 rfl) ?_
        refine zz_geti hx hb hts hi0 hown hK hP ((g0.2.1.2.2.2.2.2.2.1 j6 r6)) rfl 3 (by decide) (hts (.fieldLink RX8 95 "NoonLaw$Dream" "bids" "I") (List.mem_cons_of_mem _ bm_163)) rfl rfl rfl dX8_dreamIs_92 ?_
        exact zz_iret hx hb hr hlocks hK hP hS dX8_dreamIs_95 (by exact ⟨hC, Or.inr (Or.inl ⟨by omega, by rw [show dm.toInt.toNat = j6 from by omega, show what.toInt.toNat = 3 from by omega]; exact hW.at r6 (by decide)⟩)⟩)
      by_cases c11 : (what).toInt = 4
      · refine lv_tableIn (off := 61) (tgt := 96) hx hb dX8_dreamIs_35 (by omega) (by omega) (by rw [show ((what).toInt - (0)).toNat = 4 from by omega]; rfl) (by decide) ?_
        refine lv_aload_n hx hb dX8_dreamIs_96 rfl (lv_at hl 0 rfl) ?_
        refine zz_geti hx hb hts hi0 hown hK hP ((g0.2.1.2.2.2.2.2.2.1 j6 r6)) rfl 4 (by decide) (hts (.fieldLink RX8 98 "NoonLaw$Dream" "day" "I") (List.mem_cons_of_mem _ bm_164)) rfl rfl rfl dX8_dreamIs_97 ?_
        exact zz_iret hx hb hr hlocks hK hP hS dX8_dreamIs_100 (by exact ⟨hC, Or.inr (Or.inl ⟨by omega, by rw [show dm.toInt.toNat = j6 from by omega, show what.toInt.toNat = 4 from by omega]; exact hW.at r6 (by decide)⟩)⟩)
      by_cases c12 : (what).toInt = 5
      · refine lv_tableIn (off := 66) (tgt := 101) hx hb dX8_dreamIs_35 (by omega) (by omega) (by rw [show ((what).toInt - (0)).toNat = 5 from by omega]; rfl) (by decide) ?_
        refine lv_aload_n hx hb dX8_dreamIs_101 rfl (lv_at hl 0 rfl) ?_
        refine zz_geti hx hb hts hi0 hown hK hP ((g0.2.1.2.2.2.2.2.2.1 j6 r6)) rfl 5 (by decide) (hts (.fieldLink RX8 101 "NoonLaw$Dream" "forgotten" "I") (List.mem_cons_of_mem _ bm_165)) rfl rfl rfl dX8_dreamIs_102 ?_
        exact zz_iret hx hb hr hlocks hK hP hS dX8_dreamIs_105 (by exact ⟨hC, Or.inr (Or.inl ⟨by omega, by rw [show dm.toInt.toNat = j6 from by omega, show what.toInt.toNat = 5 from by omega]; exact hW.at r6 (by decide)⟩)⟩)
      by_cases c13 : (what).toInt = 6
      · refine lv_tableIn (off := 71) (tgt := 106) hx hb dX8_dreamIs_35 (by omega) (by omega) (by rw [show ((what).toInt - (0)).toNat = 6 from by omega]; rfl) (by decide) ?_
        have hcb := hW.cell (j := j6) r6
        refine lv_aload_n hx hb dX8_dreamIs_106 rfl (lv_at hl 0 rfl) ?_
        refine lv_aload_n hx hb dX8_dreamIs_107 rfl (lv_at hl 1 rfl) ?_
        refine zz_getr hx hb hts hi8 hown hK hP (g0.1) rfl 0 (by decide) (hts (.fieldLink RX8 10 "NoonLaw" "realm" "LNoonLaw$Realm;") (List.mem_cons_of_mem _ bm_16)) rfl rfl dX8_dreamIs_108 ?_
        refine zz_geti hx hb hts hi2 hown hK hP (g0.2.1.1) rfl 0 (by decide) (hts (.fieldLink RX8 104 "NoonLaw$Realm" "hour" "I") (List.mem_cons_of_mem _ bm_166)) rfl rfl t0 dX8_dreamIs_111 ?_
        refine lv_aload_n hx hb dX8_dreamIs_114 rfl (lv_at hl 1 rfl) ?_
        refine zz_getr hx hb hts hi8 hown hK hP (g0.1) rfl 0 (by decide) (hts (.fieldLink RX8 10 "NoonLaw" "realm" "LNoonLaw$Realm;") (List.mem_cons_of_mem _ bm_16)) rfl rfl dX8_dreamIs_115 ?_
        refine zz_geti hx hb hts hi2 hown hK hP (g0.2.1.1) rfl 1 (by decide) (hts (.fieldLink RX8 107 "NoonLaw$Realm" "sleep" "I") (List.mem_cons_of_mem _ bm_167)) rfl rfl t1 dX8_dreamIs_118 ?_
        refine zz_callVp (As := [.int (σ (h0 + 1) 0), .int (σ (h0 + 1) 1)]) (rest := []) ⟨hx, hb, hml, hown, hts⟩ hK hP hS (c_X0_isInForce l E σ ((h0 + 1) + 6 + 1 * j6) (σ (h0 + 1) 0) (σ (h0 + 1) 1) (g0.2.1.2.2.2.2.2.2.1 j6 r6) (by exact hcb.1) (by exact hcb.2.1) (by exact hcb.2.2.2.2.1) (by first | omega | exact ht | (rw [t0]; omega) | (rw [t1]; omega) | (rw [t2]; omega) | (rw [t3]; omega) | (intro j hj; rw [(hC _ _ (by first | (dsimp only; omega) | omega))]; exact ht j hj)) (by first | omega | exact ht | (rw [t0]; omega) | (rw [t1]; omega) | (rw [t2]; omega) | (rw [t3]; omega) | (intro j hj; rw [(hC _ _ (by first | (dsimp only; omega) | omega))]; exact ht j hj))) (cwV 2 hts gX8_dreamIs_X0_isInForce rfl rfl rfl (by decide +kernel) ⟨Nat.le_of_ble_eq_true rfl, Nat.le_of_ble_eq_true rfl⟩) ((g0.2.1.2.2.2.2.2.2.1 j6 r6)) rfl rfl hl.1 rfl (Nat.le_of_ble_eq_true rfl) dX8_dreamIs_121 ⟨Nat.zero_le _, Nat.zero_le _⟩ (fun r14 H locs f14 hP1 hS1 => ?_)
        replace hP := hP1
        replace hS := hS1
        clear hP1 hS1
        have hF9 := hW.F (j := j6) (hh := (σ (h0 + 1) 0).toInt) r6 rfl f14
        refine lv_if_eq (tgt := 131) hx hb dX8_dreamIs_124 (by decide) (fun c15 => ?_) (fun c15 => ?_)
        · have c15 := zz_eqT c15
          refine lv_iconst (v := 0) hx hb dX8_dreamIs_131 (by decide) ?_
          exact zz_iret hx hb hr hlocks hK hP hS dX8_dreamIs_132 (by exact ⟨hC, Or.inr (Or.inr (Or.inl ⟨by omega, by rw [show dm.toInt.toNat = j6 from by omega]; exact Or.inr ⟨k_0, hF9.n (by omega)⟩⟩))⟩)
        · have c15 := zz_neT c15
          refine lv_iconst (v := 1) hx hb dX8_dreamIs_127 (by decide) ?_
          refine lv_goto (tgt := 132) hx hb dX8_dreamIs_128 (by decide) ?_
          exact zz_iret hx hb hr hlocks hK hP hS dX8_dreamIs_132 (by exact ⟨hC, Or.inr (Or.inr (Or.inl ⟨by omega, by rw [show dm.toInt.toNat = j6 from by omega]; exact Or.inl ⟨k_1, hF9.y (by omega)⟩⟩))⟩)
      refine lv_tableOut (tgt := 133) hx hb dX8_dreamIs_35 (by omega) (by decide) ?_
      have hcb := hW.cell (j := j6) r6
      refine lv_aload_n hx hb dX8_dreamIs_133 rfl (lv_at hl 1 rfl) ?_
      refine zz_getr hx hb hts hi8 hown hK hP (g0.1) rfl 0 (by decide) (hts (.fieldLink RX8 10 "NoonLaw" "realm" "LNoonLaw$Realm;") (List.mem_cons_of_mem _ bm_16)) rfl rfl dX8_dreamIs_134 ?_
      refine lv_aload_n hx hb dX8_dreamIs_137 rfl (lv_at hl 0 rfl) ?_
      refine lv_aload_n hx hb dX8_dreamIs_138 rfl (lv_at hl 1 rfl) ?_
      refine zz_getr hx hb hts hi8 hown hK hP (g0.1) rfl 0 (by decide) (hts (.fieldLink RX8 10 "NoonLaw" "realm" "LNoonLaw$Realm;") (List.mem_cons_of_mem _ bm_16)) rfl rfl dX8_dreamIs_139 ?_
      refine zz_geti hx hb hts hi2 hown hK hP (g0.2.1.1) rfl 0 (by decide) (hts (.fieldLink RX8 104 "NoonLaw$Realm" "hour" "I") (List.mem_cons_of_mem _ bm_166)) rfl rfl t0 dX8_dreamIs_142 ?_
      refine zz_callVi (As := [.ref ((h0 + 1) + 6 + 1 * j6), .int (σ (h0 + 1) 0)]) (rest := []) ⟨hx, hb, hml, hown, hts⟩ hK hP hS (c_X2_weight l E σ (h0 + 1) ((h0 + 1) + 6 + 1 * j6) (σ (h0 + 1) 0) (g0.2.1) (g0.2.1.2.2.2.2.2.2.1 j6 r6) (by exact ht) K (by exact hW) (by exact hcb.2.1) (by exact hcb.2.2.2.2.1) (by first | omega | exact ht | (rw [t0]; omega) | (rw [t1]; omega) | (rw [t2]; omega) | (rw [t3]; omega) | (intro j hj; rw [(hC _ _ (by first | (dsimp only; omega) | omega))]; exact ht j hj))) (cwV 2 hts gX8_dreamIs_X2_weight rfl rfl rfl (by decide +kernel) ⟨Nat.le_of_ble_eq_true rfl, Nat.le_of_ble_eq_true rfl⟩) (g0.2.1.1) rfl rfl hl.1 rfl (Nat.le_of_ble_eq_true rfl) dX8_dreamIs_145 ⟨Nat.zero_le _, Nat.zero_le _⟩ (fun r16 σ16 H locs q16 hP1 hS1 => ?_)
      replace hP := hP1
      replace hS := hS1
      clear hP1 hS1
      try dsimp only at q16
      obtain ⟨w16, f16⟩ := q16
      replace hC := hC.tr (w16.mono (dS13_8 h0))
      replace t0 : σ16 (h0 + 1) 0 = σ (h0 + 1) 0 := (w16 (h0 + 1) 0 (dS13_9 h0)).trans t0
      replace t1 : σ16 (h0 + 1) 1 = σ (h0 + 1) 1 := (w16 (h0 + 1) 1 (dS13_9 h0)).trans t1
      replace t2 : σ16 (h0 + 1) 4 = σ (h0 + 1) 4 := (w16 (h0 + 1) 4 (dS13_9 h0)).trans t2
      replace t3 : σ16 (h0 + 1) 6 = σ (h0 + 1) 6 := (w16 (h0 + 1) 6 (dS13_9 h0)).trans t3
      exact zz_iret hx hb hr hlocks hK hP hS dX8_dreamIs_148 (by exact ⟨hC, Or.inr (Or.inr (Or.inr ⟨by omega, by rw [show dm.toInt.toNat = j6 from by omega]; exact hW.wt r6 f16⟩))⟩)
    · have c5 := zz_eqT c5
      refine lv_aload_n hx hb dX8_dreamIs_18 rfl (lv_at hl 0 rfl) ?_
      refine lv_iconst (v := 1) hx hb dX8_dreamIs_19 (by decide) ?_
      refine zz_callVi (As := [.int 1]) (rest := []) ⟨hx, hb, hml, hown, hts⟩ hK hP hS (c_X8_refuse l E σ h0 1 g0 (by omega)) (cwV 1 hts gX8_dreamIs_X8_refuse rfl rfl rfl (by decide +kernel) ⟨Nat.le_of_ble_eq_true rfl, Nat.le_of_ble_eq_true rfl⟩) (g0.1) rfl rfl hl.1 rfl (Nat.le_of_ble_eq_true rfl) dX8_dreamIs_20 ⟨Nat.zero_le _, Nat.zero_le _⟩ (fun r17 σ17 H locs q17 hP1 hS1 => ?_)
      replace hP := hP1
      replace hS := hS1
      clear hP1 hS1
      try dsimp only at q17
      obtain ⟨w17, f17⟩ := q17
      replace hC := hC.tr (w17.mono (dS13_7 h0))
      replace t0 : σ17 (h0 + 1) 0 = σ (h0 + 1) 0 := (w17 (h0 + 1) 0 (dS13_6 h0)).trans t0
      replace t1 : σ17 (h0 + 1) 1 = σ (h0 + 1) 1 := (w17 (h0 + 1) 1 (dS13_6 h0)).trans t1
      replace t2 : σ17 (h0 + 1) 4 = σ (h0 + 1) 4 := (w17 (h0 + 1) 4 (dS13_6 h0)).trans t2
      replace t3 : σ17 (h0 + 1) 6 = σ (h0 + 1) 6 := (w17 (h0 + 1) 6 (dS13_6 h0)).trans t3
      exact zz_iret hx hb hr hlocks hK hP hS dX8_dreamIs_23 (by exact ⟨hC, Or.inl ⟨by omega, by omega⟩⟩)
theorem gX8_as_X8_isDream : GoodIn wzX8_as (wsV RX8 76 RX8 yX8_isDream wzX8_isDream) := wz_co bm_168 (wz_co bm_169 (wz_co bm_170 (wz_co bm_2 (wz_in bm_171))))
theorem gX8_as_X8_within : GoodIn wzX8_as (va_wsS RX8 64 yX8_within wzX8_within) := wz_co bm_112 (wz_co bm_113 (wz_co bm_2 (wz_in bm_114)))
theorem gX8_as_X8_refuse : GoodIn wzX8_as (wsV RX8 68 RX8 yX8_refuse wzX8_refuse) := wz_co bm_118 (wz_co bm_119 (wz_co bm_120 (wz_co bm_2 (wz_in bm_121))))
theorem gX8_as_X0_isOf : GoodIn wzX8_as (wsV RX8 118 RX0 yX0_isOf wzX0_isOf) := wz_co bm_286 (wz_co bm_287 (wz_co bm_288 (wz_co bm_54 (wz_in bm_289))))
set_option maxHeartbeats 4000000 in
set_option maxRecDepth 100000 in
theorem c_X8_as (l : Launch) (E : zz_E) (σ : zz_S) (h0 : Nat) (dm : Int32) (kd : Int32) (g0 : zz_L E h0) (hI : zz_IX σ h0) : Met l yX8_as wzX8_as ({ frames := 3, cells := 0, slots := 0, locals := 65 }) (va_Pc [.ref h0, .int dm, .int kd] (zz_B E σ)) (va_Qi (fun r σ1 => zz_ch (fun a k => a = h0 + 24 ∨ a = h0 + 27 ∨ (h0 + 58 ≤ a ∧ a ≤ h0 + 67)) σ σ1 ∧ ((¬ (0 ≤ dm.toInt ∧ dm.toInt < (σ (h0 + 1) 4).toInt ∧ 0 ≤ kd.toInt ∧ kd.toInt ≤ 6) ∧ r.toInt = -1000000001) ∨ ((0 ≤ dm.toInt ∧ dm.toInt < (σ (h0 + 1) 4).toInt ∧ 0 ≤ kd.toInt ∧ kd.toInt ≤ 6) ∧ zz_is (zz_DX σ (h0 + 1) dm.toInt.toNat 0) kd.toInt ∧ r.toInt = zz_DX σ (h0 + 1) dm.toInt.toNat 1) ∨ ((0 ≤ dm.toInt ∧ dm.toInt < (σ (h0 + 1) 4).toInt ∧ 0 ≤ kd.toInt ∧ kd.toInt ≤ 6) ∧ ¬ zz_is (zz_DX σ (h0 + 1) dm.toInt.toNat 0) kd.toInt ∧ r.toInt = -1000000005))) (zz_B E) (zz_A E)) 0 0 (zz_A E) := by
  refine zz_met (cc := cX8_as) (maxL := 4) (ret := (some .int)) (by decide) rfl (Nat.le_of_ble_eq_true rfl) ?_
  intro p e s m args below meth c ls hx hb hr hts hown hlocks hml hK hP hS hl
  have hl : lv_has ls 4 [(0, .ref h0), (1, .int dm), (2, .int kd)] := hl
  have hown : s.vm.findClass RX8 = some m.cls := hown
  have hi0 : ∀ w ∈ wsX00, w ∈ wzX8_as := fun w h => List.mem_cons_of_mem _ (hbw0 w h)
  have hi2 : ∀ w ∈ wsX20, w ∈ wzX8_as := fun w h => List.mem_cons_of_mem _ (hbw2 w h)
  have hi8 : ∀ w ∈ wsX80, w ∈ wzX8_as := fun w h => List.mem_cons_of_mem _ (hbw8 w h)
  have k_0 : (0 : Int32).toInt = 0 := by decide +kernel
  have k_1 : (1 : Int32).toInt = 1 := by decide +kernel
  have k_5 : (5 : Int32).toInt = 5 := by decide +kernel
  have k_6 : (6 : Int32).toInt = 6 := by decide +kernel
  replace t0 : σ (h0 + 1) 0 = σ (h0 + 1) 0 := rfl
  replace t1 : σ (h0 + 1) 1 = σ (h0 + 1) 1 := rfl
  replace t2 : σ (h0 + 1) 4 = σ (h0 + 1) 4 := rfl
  replace t3 : σ (h0 + 1) 6 = σ (h0 + 1) 6 := rfl
  have hC : zz_ch (fun a k => a = h0 + 24 ∨ a = h0 + 27 ∨ (h0 + 58 ≤ a ∧ a ≤ h0 + 67)) σ σ := zz_ch.rf σ
  obtain ⟨⟨hh, hsl, hd, hp, htc, hwc, ht, hft, hst, hid⟩, hkI, hsh, hspk⟩ := id hI
  refine lv_aload_n hx hb dX8_as_0 rfl (lv_at hl 0 rfl) ?_
  refine lv_iload_n hx hb dX8_as_1 rfl (lv_at hl 1 rfl) ?_
  refine zz_callVp (As := [.int dm]) (rest := []) ⟨hx, hb, hml, hown, hts⟩ hK hP hS (c_X8_isDream l E σ h0 dm g0 (by exact hd)) (cwV 1 hts gX8_as_X8_isDream rfl rfl rfl (by decide +kernel) ⟨Nat.le_of_ble_eq_true rfl, Nat.le_of_ble_eq_true rfl⟩) (g0.1) rfl rfl hl.1 rfl (Nat.le_of_ble_eq_true rfl) dX8_as_2 ⟨Nat.zero_le _, Nat.zero_le _⟩ (fun r1 H locs f1 hP1 hS1 => ?_)
  replace hP := hP1
  replace hS := hS1
  clear hP1 hS1
  refine lv_if_eq (tgt := 18) hx hb dX8_as_5 (by decide) (fun c2 => ?_) (fun c2 => ?_)
  · have c2 := zz_eqT c2
    refine lv_aload_n hx hb dX8_as_18 rfl (lv_at hl 0 rfl) ?_
    refine lv_iconst (v := 1) hx hb dX8_as_19 (by decide) ?_
    refine zz_callVi (As := [.int 1]) (rest := []) ⟨hx, hb, hml, hown, hts⟩ hK hP hS (c_X8_refuse l E σ h0 1 g0 (by omega)) (cwV 1 hts gX8_as_X8_refuse rfl rfl rfl (by decide +kernel) ⟨Nat.le_of_ble_eq_true rfl, Nat.le_of_ble_eq_true rfl⟩) (g0.1) rfl rfl hl.1 rfl (Nat.le_of_ble_eq_true rfl) dX8_as_20 ⟨Nat.zero_le _, Nat.zero_le _⟩ (fun r3 σ3 H locs q3 hP1 hS1 => ?_)
    replace hP := hP1
    replace hS := hS1
    clear hP1 hS1
    try dsimp only at q3
    obtain ⟨w3, f3⟩ := q3
    replace hC := hC.tr (w3.mono (dS13_7 h0))
    replace t0 : σ3 (h0 + 1) 0 = σ (h0 + 1) 0 := (w3 (h0 + 1) 0 (dS13_6 h0)).trans t0
    replace t1 : σ3 (h0 + 1) 1 = σ (h0 + 1) 1 := (w3 (h0 + 1) 1 (dS13_6 h0)).trans t1
    replace t2 : σ3 (h0 + 1) 4 = σ (h0 + 1) 4 := (w3 (h0 + 1) 4 (dS13_6 h0)).trans t2
    replace t3 : σ3 (h0 + 1) 6 = σ (h0 + 1) 6 := (w3 (h0 + 1) 6 (dS13_6 h0)).trans t3
    exact zz_iret hx hb hr hlocks hK hP hS dX8_as_23 (by exact ⟨hC, Or.inl ⟨by omega, by omega⟩⟩)
  · have c2 := zz_neT c2
    refine lv_iload_n hx hb dX8_as_8 rfl (lv_at hl 2 rfl) ?_
    refine lv_iconst (v := 0) hx hb dX8_as_9 (by decide) ?_
    refine lv_bipush (v := 6) hx hb dX8_as_10 (by decide) ?_
    refine zz_callSp (As := [.int kd, .int 0, .int 6]) (rest := []) ⟨hx, hb, hml, hown, hts⟩ hK hP hS (c_X8_within l E σ kd 0 6) (va_cwS 3 hts gX8_as_X8_within rfl rfl rfl (by decide +kernel) ⟨Nat.le_of_ble_eq_true rfl, Nat.le_of_ble_eq_true rfl⟩) rfl hl.1 rfl (Nat.le_of_ble_eq_true rfl) dX8_as_12 ⟨Nat.zero_le _, Nat.zero_le _⟩ (fun r4 H locs f4 hP1 hS1 => ?_)
    replace hP := hP1
    replace hS := hS1
    clear hP1 hS1
    refine lv_if_ne (tgt := 24) hx hb dX8_as_15 (by decide) (fun c5 => ?_) (fun c5 => ?_)
    · have c5 := zz_neT c5
      refine lv_aload_n hx hb dX8_as_24 rfl (lv_at hl 0 rfl) ?_
      refine zz_getr hx hb hts hi8 hown hK hP (g0.1) rfl 0 (by decide) (hts (.fieldLink RX8 10 "NoonLaw" "realm" "LNoonLaw$Realm;") (List.mem_cons_of_mem _ bm_16)) rfl rfl dX8_as_25 ?_
      refine zz_getr hx hb hts hi2 hown hK hP (g0.2.1.1) rfl 3 (by decide) (hts (.fieldLink RX8 79 "NoonLaw$Realm" "dreams" "[LNoonLaw$Dream;") (List.mem_cons_of_mem _ bm_159)) rfl rfl dX8_as_28 ?_
      refine lv_iload_n hx hb dX8_as_31 rfl (lv_at hl 1 rfl) ?_
      refine zz_aald hx hb hK hP (g0.2.1.2.1) rfl (by omega) (by omega) dX8_as_32 (fun j6 q6 r6 => ?_)
      refine lv_astore_n (lv' := [(3, .ref ((h0 + 1) + 6 + 1 * j6)), (0, .ref h0), (1, .int dm), (2, .int kd)]) hx hb dX8_as_33 rfl hl (by decide) rfl (fun ls hl => ?_)
      refine lv_aload_n hx hb dX8_as_34 rfl (lv_at hl 0 rfl) ?_
      refine lv_iload_n hx hb dX8_as_35 rfl (lv_at hl 3 rfl) ?_
      have hk9 := (hid.cell r6).1
      refine zz_callVp (As := [.int kd]) (rest := []) ⟨hx, hb, hml, hown, hts⟩ hK hP hS (c_X0_isOf l E σ ((h0 + 1) + 6 + 1 * j6) kd (g0.2.1.2.2.2.2.2.2.1 j6 r6) (by exact hk9) (by omega)) (cwV 1 hts gX8_as_X0_isOf rfl rfl rfl (by decide +kernel) ⟨Nat.le_of_ble_eq_true rfl, Nat.le_of_ble_eq_true rfl⟩) ((g0.2.1.2.2.2.2.2.2.1 j6 r6)) rfl rfl hl.1 rfl (Nat.le_of_ble_eq_true rfl) dX8_as_36 ⟨Nat.zero_le _, Nat.zero_le _⟩ (fun r7 H locs f7 hP1 hS1 => ?_)
      replace hP := hP1
      replace hS := hS1
      clear hP1 hS1
      skip
      refine lv_if_eq (tgt := 49) hx hb dX8_as_39 (by decide) (fun c8 => ?_) (fun c8 => ?_)
      · have c8 := zz_eqT c8
        refine lv_aload_n hx hb dX8_as_49 rfl (lv_at hl 1 rfl) ?_
        refine lv_iconst (v := 5) hx hb dX8_as_50 (by decide) ?_
        refine zz_callVi (As := [.int 5]) (rest := []) ⟨hx, hb, hml, hown, hts⟩ hK hP hS (c_X8_refuse l E σ h0 5 g0 (by omega)) (cwV 1 hts gX8_as_X8_refuse rfl rfl rfl (by decide +kernel) ⟨Nat.le_of_ble_eq_true rfl, Nat.le_of_ble_eq_true rfl⟩) (g0.1) rfl rfl hl.1 rfl (Nat.le_of_ble_eq_true rfl) dX8_as_51 ⟨Nat.zero_le _, Nat.zero_le _⟩ (fun r9 σ9 H locs q9 hP1 hS1 => ?_)
        replace hP := hP1
        replace hS := hS1
        clear hP1 hS1
        try dsimp only at q9
        obtain ⟨w9, f9⟩ := q9
        replace hC := hC.tr (w9.mono (dS13_7 h0))
        replace t0 : σ9 (h0 + 1) 0 = σ (h0 + 1) 0 := (w9 (h0 + 1) 0 (dS13_6 h0)).trans t0
        replace t1 : σ9 (h0 + 1) 1 = σ (h0 + 1) 1 := (w9 (h0 + 1) 1 (dS13_6 h0)).trans t1
        replace t2 : σ9 (h0 + 1) 4 = σ (h0 + 1) 4 := (w9 (h0 + 1) 4 (dS13_6 h0)).trans t2
        replace t3 : σ9 (h0 + 1) 6 = σ (h0 + 1) 6 := (w9 (h0 + 1) 6 (dS13_6 h0)).trans t3
        have hx0 : zz_DX σ (h0 + 1) dm.toInt.toNat 0 = (σ (h0 + 1 + 6 + 1 * j6) 0).toInt := by rw [show dm.toInt.toNat = j6 from by omega, zz_DX.at r6 (by decide)]
        have hx1 : zz_DX σ (h0 + 1) dm.toInt.toNat 1 = (σ (h0 + 1 + 6 + 1 * j6) 1).toInt := by rw [show dm.toInt.toNat = j6 from by omega, zz_DX.at r6 (by decide)]
        have fz := (f7.resolve_left (fun q => by omega)).2
        exact zz_iret hx hb hr hlocks hK hP hS dX8_as_54 (by exact ⟨hC, Or.inr (Or.inr ⟨by omega, by rw [hx0]; exact fz, by omega⟩)⟩)
      · have c8 := zz_neT c8
        refine lv_aload_n hx hb dX8_as_42 rfl (lv_at hl 0 rfl) ?_
        refine zz_geti hx hb hts hi0 hown hK hP ((g0.2.1.2.2.2.2.2.2.1 j6 r6)) rfl 1 (by decide) (hts (.fieldLink RX8 89 "NoonLaw$Dream" "m" "I") (List.mem_cons_of_mem _ bm_161)) rfl rfl rfl dX8_as_43 ?_
        refine lv_goto (tgt := 54) hx hb dX8_as_46 (by decide) ?_
        have hx0 : zz_DX σ (h0 + 1) dm.toInt.toNat 0 = (σ (h0 + 1 + 6 + 1 * j6) 0).toInt := by rw [show dm.toInt.toNat = j6 from by omega, zz_DX.at r6 (by decide)]
        have hx1 : zz_DX σ (h0 + 1) dm.toInt.toNat 1 = (σ (h0 + 1 + 6 + 1 * j6) 1).toInt := by rw [show dm.toInt.toNat = j6 from by omega, zz_DX.at r6 (by decide)]
        have fz := (f7.resolve_right (fun q => by omega)).2
        exact zz_iret hx hb hr hlocks hK hP hS dX8_as_54 (by exact ⟨hC, Or.inr (Or.inl ⟨by omega, by rw [hx0]; exact fz, by omega⟩)⟩)
    · have c5 := zz_eqT c5
      refine lv_aload_n hx hb dX8_as_18 rfl (lv_at hl 0 rfl) ?_
      refine lv_iconst (v := 1) hx hb dX8_as_19 (by decide) ?_
      refine zz_callVi (As := [.int 1]) (rest := []) ⟨hx, hb, hml, hown, hts⟩ hK hP hS (c_X8_refuse l E σ h0 1 g0 (by omega)) (cwV 1 hts gX8_as_X8_refuse rfl rfl rfl (by decide +kernel) ⟨Nat.le_of_ble_eq_true rfl, Nat.le_of_ble_eq_true rfl⟩) (g0.1) rfl rfl hl.1 rfl (Nat.le_of_ble_eq_true rfl) dX8_as_20 ⟨Nat.zero_le _, Nat.zero_le _⟩ (fun r10 σ10 H locs q10 hP1 hS1 => ?_)
      replace hP := hP1
      replace hS := hS1
      clear hP1 hS1
      try dsimp only at q10
      obtain ⟨w10, f10⟩ := q10
      replace hC := hC.tr (w10.mono (dS13_7 h0))
      replace t0 : σ10 (h0 + 1) 0 = σ (h0 + 1) 0 := (w10 (h0 + 1) 0 (dS13_6 h0)).trans t0
      replace t1 : σ10 (h0 + 1) 1 = σ (h0 + 1) 1 := (w10 (h0 + 1) 1 (dS13_6 h0)).trans t1
      replace t2 : σ10 (h0 + 1) 4 = σ (h0 + 1) 4 := (w10 (h0 + 1) 4 (dS13_6 h0)).trans t2
      replace t3 : σ10 (h0 + 1) 6 = σ (h0 + 1) 6 := (w10 (h0 + 1) 6 (dS13_6 h0)).trans t3
      exact zz_iret hx hb hr hlocks hK hP hS dX8_as_23 (by exact ⟨hC, Or.inl ⟨by omega, by omega⟩⟩)
theorem gX8_forgets_X8_isDream : GoodIn wzX8_forgets (wsV RX8 76 RX8 yX8_isDream wzX8_isDream) := wz_co bm_168 (wz_co bm_169 (wz_co bm_170 (wz_co bm_2 (wz_in bm_171))))
theorem gX8_forgets_X8_within : GoodIn wzX8_forgets (va_wsS RX8 64 yX8_within wzX8_within) := wz_co bm_112 (wz_co bm_113 (wz_co bm_2 (wz_in bm_114)))
theorem gX8_forgets_X8_refuse : GoodIn wzX8_forgets (wsV RX8 68 RX8 yX8_refuse wzX8_refuse) := wz_co bm_118 (wz_co bm_119 (wz_co bm_120 (wz_co bm_2 (wz_in bm_121))))
set_option maxHeartbeats 4000000 in
set_option maxRecDepth 100000 in
theorem c_X8_forgets (l : Launch) (E : zz_E) (σ : zz_S) (h0 : Nat) (dm : Int32) (is : Int32) (g0 : zz_L E h0) (hI : zz_IX σ h0) : Met l yX8_forgets wzX8_forgets ({ frames := 2, cells := 0, slots := 0, locals := 43 }) (va_Pc [.ref h0, .int dm, .int is] (zz_B E σ)) (va_Qi (fun r σ1 => zz_ch (fun a k => a = h0 + 24 ∨ a = h0 + 27 ∨ (h0 + 58 ≤ a ∧ a ≤ h0 + 67) ∨ (h0 + 7 ≤ a ∧ a < h0 + 16)) σ σ1 ∧ (zz_IX σ1 h0 ∧ ((¬ (0 ≤ dm.toInt ∧ dm.toInt < (σ (h0 + 1) 4).toInt ∧ 0 ≤ is.toInt ∧ is.toInt ≤ 1) ∧ r.toInt = -1000000001 ∧ zz_DX σ1 (h0 + 1) = zz_DX σ (h0 + 1)) ∨ ((0 ≤ dm.toInt ∧ dm.toInt < (σ (h0 + 1) 4).toInt ∧ 0 ≤ is.toInt ∧ is.toInt ≤ 1) ∧ r.toInt = zz_DX σ (h0 + 1) dm.toInt.toNat 5 ∧ zz_DX σ1 (h0 + 1) = zz_ds (zz_DX σ (h0 + 1)) dm.toInt 5 is.toInt)))) (zz_B E) (zz_A E)) 0 0 (zz_A E) := by
  refine zz_met (cc := cX8_forgets) (maxL := 5) (ret := (some .int)) (by decide) rfl (Nat.le_of_ble_eq_true rfl) ?_
  intro p e s m args below meth c ls hx hb hr hts hown hlocks hml hK hP hS hl
  have hl : lv_has ls 5 [(0, .ref h0), (1, .int dm), (2, .int is)] := hl
  have hown : s.vm.findClass RX8 = some m.cls := hown
  have hi0 : ∀ w ∈ wsX00, w ∈ wzX8_forgets := fun w h => List.mem_cons_of_mem _ (hbw0 w h)
  have hi2 : ∀ w ∈ wsX20, w ∈ wzX8_forgets := fun w h => List.mem_cons_of_mem _ (hbw2 w h)
  have hi8 : ∀ w ∈ wsX80, w ∈ wzX8_forgets := fun w h => List.mem_cons_of_mem _ (hbw8 w h)
  have k_0 : (0 : Int32).toInt = 0 := by decide +kernel
  have k_1 : (1 : Int32).toInt = 1 := by decide +kernel
  replace t0 : σ (h0 + 1) 0 = σ (h0 + 1) 0 := rfl
  replace t1 : σ (h0 + 1) 1 = σ (h0 + 1) 1 := rfl
  replace t2 : σ (h0 + 1) 4 = σ (h0 + 1) 4 := rfl
  replace t3 : σ (h0 + 1) 6 = σ (h0 + 1) 6 := rfl
  have hC : zz_ch (fun a k => a = h0 + 24 ∨ a = h0 + 27 ∨ (h0 + 58 ≤ a ∧ a ≤ h0 + 67) ∨ (h0 + 7 ≤ a ∧ a < h0 + 16)) σ σ := zz_ch.rf σ
  obtain ⟨⟨hh, hsl, hd, hp, htc, hwc, ht, hft, hst, hid⟩, hkI, hsh, hspk⟩ := id hI
  refine lv_aload_n hx hb dX8_forgets_0 rfl (lv_at hl 0 rfl) ?_
  refine lv_iload_n hx hb dX8_forgets_1 rfl (lv_at hl 1 rfl) ?_
  refine zz_callVp (As := [.int dm]) (rest := []) ⟨hx, hb, hml, hown, hts⟩ hK hP hS (c_X8_isDream l E σ h0 dm g0 (by exact hd)) (cwV 1 hts gX8_forgets_X8_isDream rfl rfl rfl (by decide +kernel) ⟨Nat.le_of_ble_eq_true rfl, Nat.le_of_ble_eq_true rfl⟩) (g0.1) rfl rfl hl.1 rfl (Nat.le_of_ble_eq_true rfl) dX8_forgets_2 ⟨Nat.zero_le _, Nat.zero_le _⟩ (fun r1 H locs f1 hP1 hS1 => ?_)
  replace hP := hP1
  replace hS := hS1
  clear hP1 hS1
  refine lv_if_eq (tgt := 17) hx hb dX8_forgets_5 (by decide) (fun c2 => ?_) (fun c2 => ?_)
  · have c2 := zz_eqT c2
    refine lv_aload_n hx hb dX8_forgets_17 rfl (lv_at hl 0 rfl) ?_
    refine lv_iconst (v := 1) hx hb dX8_forgets_18 (by decide) ?_
    refine zz_callVi (As := [.int 1]) (rest := []) ⟨hx, hb, hml, hown, hts⟩ hK hP hS (c_X8_refuse l E σ h0 1 g0 (by omega)) (cwV 1 hts gX8_forgets_X8_refuse rfl rfl rfl (by decide +kernel) ⟨Nat.le_of_ble_eq_true rfl, Nat.le_of_ble_eq_true rfl⟩) (g0.1) rfl rfl hl.1 rfl (Nat.le_of_ble_eq_true rfl) dX8_forgets_19 ⟨Nat.zero_le _, Nat.zero_le _⟩ (fun r3 σ3 H locs q3 hP1 hS1 => ?_)
    replace hP := hP1
    replace hS := hS1
    clear hP1 hS1
    try dsimp only at q3
    obtain ⟨w3, f3⟩ := q3
    replace hC := hC.tr (w3.mono (dS13_5 h0))
    replace t0 : σ3 (h0 + 1) 0 = σ (h0 + 1) 0 := (w3 (h0 + 1) 0 (dS13_6 h0)).trans t0
    replace t1 : σ3 (h0 + 1) 1 = σ (h0 + 1) 1 := (w3 (h0 + 1) 1 (dS13_6 h0)).trans t1
    replace t2 : σ3 (h0 + 1) 4 = σ (h0 + 1) 4 := (w3 (h0 + 1) 4 (dS13_6 h0)).trans t2
    replace t3 : σ3 (h0 + 1) 6 = σ (h0 + 1) 6 := (w3 (h0 + 1) 6 (dS13_6 h0)).trans t3
    exact zz_iret hx hb hr hlocks hK hP hS dX8_forgets_22 (by exact ⟨hC, hI.soft (w3.mono (by intro a k h; omega)), Or.inl ⟨by omega, by omega, by rw [zz_DXk (r := h0 + 1) w3 (by intro j hj k hk; first | (dsimp only; omega) | omega)]⟩⟩)
  · have c2 := zz_neT c2
    refine lv_iload_n hx hb dX8_forgets_8 rfl (lv_at hl 2 rfl) ?_
    refine lv_iconst (v := 0) hx hb dX8_forgets_9 (by decide) ?_
    refine lv_iconst (v := 1) hx hb dX8_forgets_10 (by decide) ?_
    refine zz_callSp (As := [.int is, .int 0, .int 1]) (rest := []) ⟨hx, hb, hml, hown, hts⟩ hK hP hS (c_X8_within l E σ is 0 1) (va_cwS 3 hts gX8_forgets_X8_within rfl rfl rfl (by decide +kernel) ⟨Nat.le_of_ble_eq_true rfl, Nat.le_of_ble_eq_true rfl⟩) rfl hl.1 rfl (Nat.le_of_ble_eq_true rfl) dX8_forgets_11 ⟨Nat.zero_le _, Nat.zero_le _⟩ (fun r4 H locs f4 hP1 hS1 => ?_)
    replace hP := hP1
    replace hS := hS1
    clear hP1 hS1
    refine lv_if_ne (tgt := 23) hx hb dX8_forgets_14 (by decide) (fun c5 => ?_) (fun c5 => ?_)
    · have c5 := zz_neT c5
      refine lv_aload_n hx hb dX8_forgets_23 rfl (lv_at hl 0 rfl) ?_
      refine zz_getr hx hb hts hi8 hown hK hP (g0.1) rfl 0 (by decide) (hts (.fieldLink RX8 10 "NoonLaw" "realm" "LNoonLaw$Realm;") (List.mem_cons_of_mem _ bm_16)) rfl rfl dX8_forgets_24 ?_
      refine zz_getr hx hb hts hi2 hown hK hP (g0.2.1.1) rfl 3 (by decide) (hts (.fieldLink RX8 79 "NoonLaw$Realm" "dreams" "[LNoonLaw$Dream;") (List.mem_cons_of_mem _ bm_159)) rfl rfl dX8_forgets_27 ?_
      refine lv_iload_n hx hb dX8_forgets_30 rfl (lv_at hl 1 rfl) ?_
      refine zz_aald hx hb hK hP (g0.2.1.2.1) rfl (by omega) (by omega) dX8_forgets_31 (fun j6 q6 r6 => ?_)
      refine lv_astore_n (lv' := [(3, .ref ((h0 + 1) + 6 + 1 * j6)), (0, .ref h0), (1, .int dm), (2, .int is)]) hx hb dX8_forgets_32 rfl hl (by decide) rfl (fun ls hl => ?_)
      refine lv_aload_n hx hb dX8_forgets_33 rfl (lv_at hl 0 rfl) ?_
      refine zz_geti hx hb hts hi0 hown hK hP ((g0.2.1.2.2.2.2.2.2.1 j6 r6)) rfl 5 (by decide) (hts (.fieldLink RX8 101 "NoonLaw$Dream" "forgotten" "I") (List.mem_cons_of_mem _ bm_165)) rfl rfl rfl dX8_forgets_34 ?_
      refine lv_istore (lv' := [(4, .int (σ ((h0 + 1) + 6 + 1 * j6) 5)), (3, .ref ((h0 + 1) + 6 + 1 * j6)), (0, .ref h0), (1, .int dm), (2, .int is)]) hx hb dX8_forgets_37 hl (by decide) rfl (fun ls hl => ?_)
      refine lv_aload_n hx hb dX8_forgets_39 rfl (lv_at hl 1 rfl) ?_
      refine lv_iload_n hx hb dX8_forgets_40 rfl (lv_at hl 4 rfl) ?_
      refine zz_puti (v := is) (ty := .int) hx hb hts hi0 tyX0 tyX0_ok nmX0 hown hK hP hS ((g0.2.1.2.2.2.2.2.2.1 j6 r6)) rfl 5 (by decide) (hts (.fieldLink RX8 101 "NoonLaw$Dream" "forgotten" "I") (List.mem_cons_of_mem _ bm_165)) rfl rfl (by decide +kernel) rfl rfl rfl dX8_forgets_41 (fun σ7 H locs w7 hP1 hS1 => ?_)
      replace hP := hP1
      replace hS := hS1
      clear hP1 hS1
      replace hC := hC.u w7 (by first | (dsimp only; omega) | omega | (dsimp only; done))
      replace t0 : σ7 (h0 + 1) 0 = σ (h0 + 1) 0 := (zz_w (b := (h0 + 1)) (j := 0) w7 (by omega)).trans t0
      replace t1 : σ7 (h0 + 1) 1 = σ (h0 + 1) 1 := (zz_w (b := (h0 + 1)) (j := 1) w7 (by omega)).trans t1
      replace t2 : σ7 (h0 + 1) 4 = σ (h0 + 1) 4 := (zz_w (b := (h0 + 1)) (j := 4) w7 (by omega)).trans t2
      replace t3 : σ7 (h0 + 1) 6 = σ (h0 + 1) 6 := (zz_w (b := (h0 + 1)) (j := 6) w7 (by omega)).trans t3
      refine lv_iload hx hb dX8_forgets_44 (lv_at hl 0 rfl) ?_
      have hDq : zz_DX σ7 (h0 + 1) = zz_ds (zz_DX σ (h0 + 1)) dm.toInt 5 is.toInt := by rw [zz_DXw w7 q6 r6 (by decide)]
      exact zz_iret hx hb hr hlocks hK hP hS dX8_forgets_46 (by exact ⟨hC, ⟨⟨by rw [t0]; exact hh, by rw [t1]; exact hsl, by rw [t2]; exact hd, by rw [t3]; exact hp, by rw [hC _ _ (by first | (dsimp only; omega) | omega)]; exact htc, by rw [hC _ _ (by first | (dsimp only; omega) | omega)]; exact hwc, (fun j hj => by rw [hC _ _ (by first | (dsimp only; omega) | omega)]; exact ht j hj), (fun j hj => by rw [hC _ _ (by first | (dsimp only; omega) | omega)]; exact hft j hj), (fun j hj => by rw [hC _ _ (by first | (dsimp only; omega) | omega)]; exact hst j hj), by rw [hDq]; exact hid.ds (by omega) (by omega) (by omega) (by omega) (by omega) (by omega)⟩, (hkI.keep (fun k => hC _ _ (by first | (dsimp only; omega) | omega)) (fun k => hC _ _ (by first | (dsimp only; omega) | omega)) (fun j hj k => hC _ _ (by first | (dsimp only; omega) | omega)) (fun j hj f hf => hC _ _ (by first | (dsimp only; omega) | omega))), (fun j hj => by rw [hC _ _ (by first | (dsimp only; omega) | omega)]; exact hsh j hj), (by rw [hC _ _ (by first | (dsimp only; omega) | omega)]; exact hspk)⟩, Or.inr ⟨by omega, by rw [show dm.toInt.toNat = j6 from by omega, zz_DX.at r6 (by decide)], hDq⟩⟩)
    · have c5 := zz_eqT c5
      refine lv_aload_n hx hb dX8_forgets_17 rfl (lv_at hl 0 rfl) ?_
      refine lv_iconst (v := 1) hx hb dX8_forgets_18 (by decide) ?_
      refine zz_callVi (As := [.int 1]) (rest := []) ⟨hx, hb, hml, hown, hts⟩ hK hP hS (c_X8_refuse l E σ h0 1 g0 (by omega)) (cwV 1 hts gX8_forgets_X8_refuse rfl rfl rfl (by decide +kernel) ⟨Nat.le_of_ble_eq_true rfl, Nat.le_of_ble_eq_true rfl⟩) (g0.1) rfl rfl hl.1 rfl (Nat.le_of_ble_eq_true rfl) dX8_forgets_19 ⟨Nat.zero_le _, Nat.zero_le _⟩ (fun r8 σ8 H locs q8 hP1 hS1 => ?_)
      replace hP := hP1
      replace hS := hS1
      clear hP1 hS1
      try dsimp only at q8
      obtain ⟨w8, f8⟩ := q8
      replace hC := hC.tr (w8.mono (dS13_5 h0))
      replace t0 : σ8 (h0 + 1) 0 = σ (h0 + 1) 0 := (w8 (h0 + 1) 0 (dS13_6 h0)).trans t0
      replace t1 : σ8 (h0 + 1) 1 = σ (h0 + 1) 1 := (w8 (h0 + 1) 1 (dS13_6 h0)).trans t1
      replace t2 : σ8 (h0 + 1) 4 = σ (h0 + 1) 4 := (w8 (h0 + 1) 4 (dS13_6 h0)).trans t2
      replace t3 : σ8 (h0 + 1) 6 = σ (h0 + 1) 6 := (w8 (h0 + 1) 6 (dS13_6 h0)).trans t3
      exact zz_iret hx hb hr hlocks hK hP hS dX8_forgets_22 (by exact ⟨hC, hI.soft (w8.mono (by intro a k h; omega)), Or.inl ⟨by omega, by omega, by rw [zz_DXk (r := h0 + 1) w8 (by intro j hj k hk; first | (dsimp only; omega) | omega)]⟩⟩)
theorem gX8_personIs_X8_isPerson : GoodIn wzX8_personIs (wsV RX8 124 RX8 yX8_isPerson wzX8_isPerson) := wz_co bm_328 (wz_co bm_329 (wz_co bm_330 (wz_co bm_2 (wz_in bm_331))))
theorem gX8_personIs_X8_within : GoodIn wzX8_personIs (va_wsS RX8 64 yX8_within wzX8_within) := wz_co bm_112 (wz_co bm_113 (wz_co bm_2 (wz_in bm_114)))
theorem gX8_personIs_X8_refuse : GoodIn wzX8_personIs (wsV RX8 68 RX8 yX8_refuse wzX8_refuse) := wz_co bm_118 (wz_co bm_119 (wz_co bm_120 (wz_co bm_2 (wz_in bm_121))))
theorem gX8_personIs_X4_look : GoodIn wzX8_personIs (wsV RX8 139 RX4 yX4_look wzX4_look) := wz_co bm_333 (wz_co bm_334 (wz_co bm_335 (wz_co bm_30 (wz_in bm_336))))
theorem gX8_personIs_X4_guilt : GoodIn wzX8_personIs (wsV RX8 143 RX4 yX4_guilt wzX4_guilt) := wz_co bm_356 (wz_co bm_357 (wz_co bm_358 (wz_co bm_30 (wz_in bm_359))))
theorem gX8_personIs_X2_fine : GoodIn wzX8_personIs (wsV RX8 146 RX2 yX2_fine wzX2_fine) := wz_co bm_367 (wz_co bm_368 (wz_co bm_369 (wz_co bm_15 (wz_in bm_370))))
set_option maxHeartbeats 4000000 in
set_option maxRecDepth 100000 in
theorem c_X8_personIs (l : Launch) (E : zz_E) (σ : zz_S) (h0 : Nat) (ps : Int32) (what : Int32) (g0 : zz_L E h0) (hI : zz_IX σ h0) (K : zy_W) (hW : zy_XW σ (h0 + 1) K) : Met l yX8_personIs wzX8_personIs ({ frames := 5, cells := 0, slots := 0, locals := 121 }) (va_Pc [.ref h0, .int ps, .int what] (zz_B E σ)) (va_Qi (fun r σ1 => zz_ch (fun a k => a = h0 + 24 ∨ a = h0 + 27 ∨ (h0 + 58 ≤ a ∧ a ≤ h0 + 67)) σ σ1 ∧ (zy_p8 K (σ (h0 + 1) 6).toInt (zz_PX 0 σ (h0 + 1)) (zz_PX 1 σ (h0 + 1)) (σ (h0 + 1) 0).toInt ps what r)) (zz_B E) (zz_A E)) 0 0 (zz_A E) := by
  refine zz_met (cc := cX8_personIs) (maxL := 4) (ret := (some .int)) (by decide) rfl (Nat.le_of_ble_eq_true rfl) ?_
  intro p e s m args below meth c ls hx hb hr hts hown hlocks hml hK hP hS hl
  have hl : lv_has ls 4 [(0, .ref h0), (1, .int ps), (2, .int what)] := hl
  have hown : s.vm.findClass RX8 = some m.cls := hown
  have hi1 : ∀ w ∈ wsX10, w ∈ wzX8_personIs := fun w h => List.mem_cons_of_mem _ (hbw1 w h)
  have hi2 : ∀ w ∈ wsX20, w ∈ wzX8_personIs := fun w h => List.mem_cons_of_mem _ (hbw2 w h)
  have hi8 : ∀ w ∈ wsX80, w ∈ wzX8_personIs := fun w h => List.mem_cons_of_mem _ (hbw8 w h)
  have k_0 : (0 : Int32).toInt = 0 := by decide +kernel
  have k_1 : (1 : Int32).toInt = 1 := by decide +kernel
  have k_3 : (3 : Int32).toInt = 3 := by decide +kernel
  replace t0 : σ (h0 + 1) 0 = σ (h0 + 1) 0 := rfl
  replace t1 : σ (h0 + 1) 1 = σ (h0 + 1) 1 := rfl
  replace t2 : σ (h0 + 1) 4 = σ (h0 + 1) 4 := rfl
  replace t3 : σ (h0 + 1) 6 = σ (h0 + 1) 6 := rfl
  have hC : zz_ch (fun a k => a = h0 + 24 ∨ a = h0 + 27 ∨ (h0 + 58 ≤ a ∧ a ≤ h0 + 67)) σ σ := zz_ch.rf σ
  obtain ⟨⟨hh, hsl, hd, hp, htc, hwc, ht, hft, hst, hid⟩, hkI, hsh, hspk⟩ := id hI
  have hct := hW.2.1
  have hlt := hW.2.2.1
  refine lv_aload_n hx hb dX8_personIs_0 rfl (lv_at hl 0 rfl) ?_
  refine lv_iload_n hx hb dX8_personIs_1 rfl (lv_at hl 1 rfl) ?_
  refine zz_callVp (As := [.int ps]) (rest := []) ⟨hx, hb, hml, hown, hts⟩ hK hP hS (c_X8_isPerson l E σ h0 ps g0 (by exact hp)) (cwV 1 hts gX8_personIs_X8_isPerson rfl rfl rfl (by decide +kernel) ⟨Nat.le_of_ble_eq_true rfl, Nat.le_of_ble_eq_true rfl⟩) (g0.1) rfl rfl hl.1 rfl (Nat.le_of_ble_eq_true rfl) dX8_personIs_2 ⟨Nat.zero_le _, Nat.zero_le _⟩ (fun r1 H locs f1 hP1 hS1 => ?_)
  replace hP := hP1
  replace hS := hS1
  clear hP1 hS1
  refine lv_if_eq (tgt := 17) hx hb dX8_personIs_5 (by decide) (fun c2 => ?_) (fun c2 => ?_)
  · have c2 := zz_eqT c2
    refine lv_aload_n hx hb dX8_personIs_17 rfl (lv_at hl 0 rfl) ?_
    refine lv_iconst (v := 1) hx hb dX8_personIs_18 (by decide) ?_
    refine zz_callVi (As := [.int 1]) (rest := []) ⟨hx, hb, hml, hown, hts⟩ hK hP hS (c_X8_refuse l E σ h0 1 g0 (by omega)) (cwV 1 hts gX8_personIs_X8_refuse rfl rfl rfl (by decide +kernel) ⟨Nat.le_of_ble_eq_true rfl, Nat.le_of_ble_eq_true rfl⟩) (g0.1) rfl rfl hl.1 rfl (Nat.le_of_ble_eq_true rfl) dX8_personIs_19 ⟨Nat.zero_le _, Nat.zero_le _⟩ (fun r3 σ3 H locs q3 hP1 hS1 => ?_)
    replace hP := hP1
    replace hS := hS1
    clear hP1 hS1
    try dsimp only at q3
    obtain ⟨w3, f3⟩ := q3
    replace hC := hC.tr (w3.mono (dS13_7 h0))
    replace t0 : σ3 (h0 + 1) 0 = σ (h0 + 1) 0 := (w3 (h0 + 1) 0 (dS13_6 h0)).trans t0
    replace t1 : σ3 (h0 + 1) 1 = σ (h0 + 1) 1 := (w3 (h0 + 1) 1 (dS13_6 h0)).trans t1
    replace t2 : σ3 (h0 + 1) 4 = σ (h0 + 1) 4 := (w3 (h0 + 1) 4 (dS13_6 h0)).trans t2
    replace t3 : σ3 (h0 + 1) 6 = σ (h0 + 1) 6 := (w3 (h0 + 1) 6 (dS13_6 h0)).trans t3
    exact zz_iret hx hb hr hlocks hK hP hS dX8_personIs_22 (by exact ⟨hC, Or.inl ⟨by omega, by omega⟩⟩)
  · have c2 := zz_neT c2
    refine lv_iload_n hx hb dX8_personIs_8 rfl (lv_at hl 2 rfl) ?_
    refine lv_iconst (v := 0) hx hb dX8_personIs_9 (by decide) ?_
    refine lv_iconst (v := 3) hx hb dX8_personIs_10 (by decide) ?_
    refine zz_callSp (As := [.int what, .int 0, .int 3]) (rest := []) ⟨hx, hb, hml, hown, hts⟩ hK hP hS (c_X8_within l E σ what 0 3) (va_cwS 3 hts gX8_personIs_X8_within rfl rfl rfl (by decide +kernel) ⟨Nat.le_of_ble_eq_true rfl, Nat.le_of_ble_eq_true rfl⟩) rfl hl.1 rfl (Nat.le_of_ble_eq_true rfl) dX8_personIs_11 ⟨Nat.zero_le _, Nat.zero_le _⟩ (fun r4 H locs f4 hP1 hS1 => ?_)
    replace hP := hP1
    replace hS := hS1
    clear hP1 hS1
    refine lv_if_ne (tgt := 23) hx hb dX8_personIs_14 (by decide) (fun c5 => ?_) (fun c5 => ?_)
    · have c5 := zz_neT c5
      refine lv_aload_n hx hb dX8_personIs_23 rfl (lv_at hl 0 rfl) ?_
      refine zz_getr hx hb hts hi8 hown hK hP (g0.1) rfl 0 (by decide) (hts (.fieldLink RX8 10 "NoonLaw" "realm" "LNoonLaw$Realm;") (List.mem_cons_of_mem _ bm_16)) rfl rfl dX8_personIs_24 ?_
      refine zz_getr hx hb hts hi2 hown hK hP (g0.2.1.1) rfl 5 (by decide) (hts (.fieldLink RX8 127 "NoonLaw$Realm" "people" "[LNoonLaw$Person;") (List.mem_cons_of_mem _ bm_325)) rfl rfl dX8_personIs_27 ?_
      refine lv_iload_n hx hb dX8_personIs_30 rfl (lv_at hl 1 rfl) ?_
      refine zz_aald hx hb hK hP (g0.2.1.2.2.1) rfl (by omega) (by omega) dX8_personIs_31 (fun j6 q6 r6 => ?_)
      refine lv_astore_n (lv' := [(3, .ref ((h0 + 1) + 15 + 1 * j6)), (0, .ref h0), (1, .int ps), (2, .int what)]) hx hb dX8_personIs_32 rfl hl (by decide) rfl (fun ls hl => ?_)
      refine lv_iload_n hx hb dX8_personIs_33 rfl (lv_at hl 3 rfl) ?_
      by_cases c7 : (what).toInt = 0
      · refine lv_tableIn (off := 26) (tgt := 60) hx hb dX8_personIs_34 (by omega) (by omega) (by rw [show ((what).toInt - (0)).toNat = 0 from by omega]; rfl) (by decide) ?_
        refine lv_aload_n hx hb dX8_personIs_60 rfl (lv_at hl 0 rfl) ?_
        refine zz_geti hx hb hts hi1 hown hK hP ((g0.2.1.2.2.2.2.2.2.2.1 j6 r6)) rfl 0 (by decide) (hts (.fieldLink RX8 131 "NoonLaw$Person" "wont" "I") (List.mem_cons_of_mem _ bm_326)) rfl rfl rfl dX8_personIs_61 ?_
        exact zz_iret hx hb hr hlocks hK hP hS dX8_personIs_64 (by exact ⟨hC, Or.inr (Or.inl ⟨by omega, by rw [show ps.toInt.toNat = j6 from by omega, zz_PX.at r6]⟩)⟩)
      by_cases c8 : (what).toInt = 1
      · refine lv_tableIn (off := 31) (tgt := 65) hx hb dX8_personIs_34 (by omega) (by omega) (by rw [show ((what).toInt - (0)).toNat = 1 from by omega]; rfl) (by decide) ?_
        refine lv_aload_n hx hb dX8_personIs_65 rfl (lv_at hl 0 rfl) ?_
        refine zz_geti hx hb hts hi1 hown hK hP ((g0.2.1.2.2.2.2.2.2.2.1 j6 r6)) rfl 1 (by decide) (hts (.fieldLink RX8 136 "NoonLaw$Person" "fined" "I") (List.mem_cons_of_mem _ bm_327)) rfl rfl rfl dX8_personIs_66 ?_
        exact zz_iret hx hb hr hlocks hK hP hS dX8_personIs_69 (by exact ⟨hC, Or.inr (Or.inr (Or.inl ⟨by omega, by rw [show ps.toInt.toNat = j6 from by omega, zz_PX.at r6]⟩))⟩)
      by_cases c9 : (what).toInt = 2
      · refine lv_tableIn (off := 36) (tgt := 70) hx hb dX8_personIs_34 (by omega) (by omega) (by rw [show ((what).toInt - (0)).toNat = 2 from by omega]; rfl) (by decide) ?_
        have hwo : σ (h0 + 1 + 15 + 1 * j6) 0 = Int32.ofInt (zz_PX 0 σ (h0 + 1) ps.toInt.toNat) := zz_ofI (by rw [show ps.toInt.toNat = j6 from by omega, zz_PX.at r6])
        refine lv_aload_n hx hb dX8_personIs_70 rfl (lv_at hl 1 rfl) ?_
        refine zz_getr hx hb hts hi8 hown hK hP (g0.1) rfl 6 (by decide) (hts (.fieldLink RX8 42 "NoonLaw" "sight" "LNoonLaw$Sight;") (List.mem_cons_of_mem _ bm_31)) rfl rfl dX8_personIs_71 ?_
        refine lv_aload_n hx hb dX8_personIs_74 rfl (lv_at hl 1 rfl) ?_
        refine zz_getr hx hb hts hi8 hown hK hP (g0.1) rfl 0 (by decide) (hts (.fieldLink RX8 10 "NoonLaw" "realm" "LNoonLaw$Realm;") (List.mem_cons_of_mem _ bm_16)) rfl rfl dX8_personIs_75 ?_
        refine lv_aload_n hx hb dX8_personIs_78 rfl (lv_at hl 1 rfl) ?_
        refine zz_getr hx hb hts hi8 hown hK hP (g0.1) rfl 0 (by decide) (hts (.fieldLink RX8 10 "NoonLaw" "realm" "LNoonLaw$Realm;") (List.mem_cons_of_mem _ bm_16)) rfl rfl dX8_personIs_79 ?_
        refine zz_geti hx hb hts hi2 hown hK hP (g0.2.1.1) rfl 0 (by decide) (hts (.fieldLink RX8 104 "NoonLaw$Realm" "hour" "I") (List.mem_cons_of_mem _ bm_166)) rfl rfl t0 dX8_personIs_82 ?_
        refine zz_callVv (As := [.ref (h0 + 1), .int (σ (h0 + 1) 0)]) (rest := []) ⟨hx, hb, hml, hown, hts⟩ hK hP hS (c_X4_look l E σ (h0 + 61) (h0 + 1) (σ (h0 + 1) 0) (g0.2.2.2.2.2.2.2.1) (g0.2.1) (by exact hd) (by exact ht) (by omega) (by first | omega | exact ht | (rw [t0]; omega) | (rw [t1]; omega) | (rw [t2]; omega) | (rw [t3]; omega) | (intro j hj; rw [(hC _ _ (by first | (dsimp only; omega) | omega))]; exact ht j hj)) K (by exact hW)) (cwV 2 hts gX8_personIs_X4_look rfl rfl rfl (by decide +kernel) ⟨Nat.le_of_ble_eq_true rfl, Nat.le_of_ble_eq_true rfl⟩) (g0.2.2.2.2.2.2.2.1.1) rfl rfl hl.1 rfl (Nat.le_of_ble_eq_true rfl) dX8_personIs_85 ⟨Nat.zero_le _, Nat.zero_le _⟩ (fun σ10 H locs q10 hP1 hS1 => ?_)
        replace hP := hP1
        replace hS := hS1
        clear hP1 hS1
        try dsimp only at q10
        obtain ⟨w10, f10⟩ := q10
        replace hC := hC.tr (w10.mono (dS13_1 h0))
        replace t0 : σ10 (h0 + 1) 0 = σ (h0 + 1) 0 := (w10 (h0 + 1) 0 (dS13_2 h0)).trans t0
        replace t1 : σ10 (h0 + 1) 1 = σ (h0 + 1) 1 := (w10 (h0 + 1) 1 (dS13_2 h0)).trans t1
        replace t2 : σ10 (h0 + 1) 4 = σ (h0 + 1) 4 := (w10 (h0 + 1) 4 (dS13_2 h0)).trans t2
        replace t3 : σ10 (h0 + 1) 6 = σ (h0 + 1) 6 := (w10 (h0 + 1) 6 (dS13_2 h0)).trans t3
        refine lv_aload_n hx hb dX8_personIs_88 rfl (lv_at hl 1 rfl) ?_
        refine zz_getr hx hb hts hi8 hown hK hP (g0.1) rfl 6 (by decide) (hts (.fieldLink RX8 42 "NoonLaw" "sight" "LNoonLaw$Sight;") (List.mem_cons_of_mem _ bm_31)) rfl rfl dX8_personIs_89 ?_
        refine lv_aload_n hx hb dX8_personIs_92 rfl (lv_at hl 0 rfl) ?_
        refine zz_geti hx hb hts hi1 hown hK hP ((g0.2.1.2.2.2.2.2.2.2.1 j6 r6)) rfl 0 (by decide) (hts (.fieldLink RX8 131 "NoonLaw$Person" "wont" "I") (List.mem_cons_of_mem _ bm_326)) rfl rfl rfl dX8_personIs_93 ?_
        refine zz_callVp (As := [.int (σ10 ((h0 + 1) + 15 + 1 * j6) 0)]) (rest := []) ⟨hx, hb, hml, hown, hts⟩ hK hP hS (c_X4_guilt l E σ10 (h0 + 61) (σ10 ((h0 + 1) + 15 + 1 * j6) 0) (g0.2.2.2.2.2.2.2.1) K (σ (h0 + 1) 0).toInt (by exact f10)) (cwV 1 hts gX8_personIs_X4_guilt rfl rfl rfl (by decide +kernel) ⟨Nat.le_of_ble_eq_true rfl, Nat.le_of_ble_eq_true rfl⟩) (g0.2.2.2.2.2.2.2.1.1) rfl rfl hl.1 rfl (Nat.le_of_ble_eq_true rfl) dX8_personIs_96 ⟨Nat.zero_le _, Nat.zero_le _⟩ (fun r11 H locs f11 hP1 hS1 => ?_)
        replace hP := hP1
        replace hS := hS1
        clear hP1 hS1
        exact zz_iret hx hb hr hlocks hK hP hS dX8_personIs_99 (by exact ⟨hC, Or.inr (Or.inr (Or.inr (Or.inl ⟨by omega, by rw [f11, hC _ _ (by first | (dsimp only; omega) | omega), hwo]⟩)))⟩)
      refine lv_tableOut (tgt := 100) hx hb dX8_personIs_34 (by omega) (by decide) ?_
      have hwo : σ (h0 + 1 + 15 + 1 * j6) 0 = Int32.ofInt (zz_PX 0 σ (h0 + 1) ps.toInt.toNat) := zz_ofI (by rw [show ps.toInt.toNat = j6 from by omega, zz_PX.at r6])
      refine lv_aload_n hx hb dX8_personIs_100 rfl (lv_at hl 1 rfl) ?_
      refine zz_getr hx hb hts hi8 hown hK hP (g0.1) rfl 6 (by decide) (hts (.fieldLink RX8 42 "NoonLaw" "sight" "LNoonLaw$Sight;") (List.mem_cons_of_mem _ bm_31)) rfl rfl dX8_personIs_101 ?_
      refine lv_aload_n hx hb dX8_personIs_104 rfl (lv_at hl 1 rfl) ?_
      refine zz_getr hx hb hts hi8 hown hK hP (g0.1) rfl 0 (by decide) (hts (.fieldLink RX8 10 "NoonLaw" "realm" "LNoonLaw$Realm;") (List.mem_cons_of_mem _ bm_16)) rfl rfl dX8_personIs_105 ?_
      refine lv_aload_n hx hb dX8_personIs_108 rfl (lv_at hl 1 rfl) ?_
      refine zz_getr hx hb hts hi8 hown hK hP (g0.1) rfl 0 (by decide) (hts (.fieldLink RX8 10 "NoonLaw" "realm" "LNoonLaw$Realm;") (List.mem_cons_of_mem _ bm_16)) rfl rfl dX8_personIs_109 ?_
      refine zz_geti hx hb hts hi2 hown hK hP (g0.2.1.1) rfl 0 (by decide) (hts (.fieldLink RX8 104 "NoonLaw$Realm" "hour" "I") (List.mem_cons_of_mem _ bm_166)) rfl rfl t0 dX8_personIs_112 ?_
      refine zz_callVv (As := [.ref (h0 + 1), .int (σ (h0 + 1) 0)]) (rest := []) ⟨hx, hb, hml, hown, hts⟩ hK hP hS (c_X4_look l E σ (h0 + 61) (h0 + 1) (σ (h0 + 1) 0) (g0.2.2.2.2.2.2.2.1) (g0.2.1) (by exact hd) (by exact ht) (by omega) (by first | omega | exact ht | (rw [t0]; omega) | (rw [t1]; omega) | (rw [t2]; omega) | (rw [t3]; omega) | (intro j hj; rw [(hC _ _ (by first | (dsimp only; omega) | omega))]; exact ht j hj)) K (by exact hW)) (cwV 2 hts gX8_personIs_X4_look rfl rfl rfl (by decide +kernel) ⟨Nat.le_of_ble_eq_true rfl, Nat.le_of_ble_eq_true rfl⟩) (g0.2.2.2.2.2.2.2.1.1) rfl rfl hl.1 rfl (Nat.le_of_ble_eq_true rfl) dX8_personIs_115 ⟨Nat.zero_le _, Nat.zero_le _⟩ (fun σ12 H locs q12 hP1 hS1 => ?_)
      replace hP := hP1
      replace hS := hS1
      clear hP1 hS1
      try dsimp only at q12
      obtain ⟨w12, f12⟩ := q12
      replace hC := hC.tr (w12.mono (dS13_1 h0))
      replace t0 : σ12 (h0 + 1) 0 = σ (h0 + 1) 0 := (w12 (h0 + 1) 0 (dS13_2 h0)).trans t0
      replace t1 : σ12 (h0 + 1) 1 = σ (h0 + 1) 1 := (w12 (h0 + 1) 1 (dS13_2 h0)).trans t1
      replace t2 : σ12 (h0 + 1) 4 = σ (h0 + 1) 4 := (w12 (h0 + 1) 4 (dS13_2 h0)).trans t2
      replace t3 : σ12 (h0 + 1) 6 = σ (h0 + 1) 6 := (w12 (h0 + 1) 6 (dS13_2 h0)).trans t3
      refine lv_aload_n hx hb dX8_personIs_118 rfl (lv_at hl 1 rfl) ?_
      refine zz_getr hx hb hts hi8 hown hK hP (g0.1) rfl 0 (by decide) (hts (.fieldLink RX8 10 "NoonLaw" "realm" "LNoonLaw$Realm;") (List.mem_cons_of_mem _ bm_16)) rfl rfl dX8_personIs_119 ?_
      refine lv_aload_n hx hb dX8_personIs_122 rfl (lv_at hl 0 rfl) ?_
      refine lv_iload_n hx hb dX8_personIs_123 rfl (lv_at hl 2 rfl) ?_
      refine lv_aload_n hx hb dX8_personIs_124 rfl (lv_at hl 1 rfl) ?_
      refine zz_getr hx hb hts hi8 hown hK hP (g0.1) rfl 6 (by decide) (hts (.fieldLink RX8 42 "NoonLaw" "sight" "LNoonLaw$Sight;") (List.mem_cons_of_mem _ bm_31)) rfl rfl dX8_personIs_125 ?_
      refine zz_callVi (As := [.ref ((h0 + 1) + 15 + 1 * j6), .int ps, .ref (h0 + 61)]) (rest := []) ⟨hx, hb, hml, hown, hts⟩ hK hP hS (c_X2_fine l E σ12 (h0 + 1) ((h0 + 1) + 15 + 1 * j6) ps (h0 + 61) (g0.2.1) (g0.2.1.2.2.2.2.2.2.2.1 j6 r6) (g0.2.2.2.2.2.2.2.1) (by intro j hj; rw [(hC _ _ (by first | (dsimp only; omega) | omega))]; exact ht j hj) K (σ (h0 + 1) 0).toInt (by exact f12) (by exact hW.keep (fun a k q => hC a k (by first | (dsimp only; omega) | omega)))) (cwV 3 hts gX8_personIs_X2_fine rfl rfl rfl (by decide +kernel) ⟨Nat.le_of_ble_eq_true rfl, Nat.le_of_ble_eq_true rfl⟩) (g0.2.1.1) rfl rfl hl.1 rfl (Nat.le_of_ble_eq_true rfl) dX8_personIs_128 ⟨Nat.zero_le _, Nat.zero_le _⟩ (fun r13 σ13 H locs q13 hP1 hS1 => ?_)
      replace hP := hP1
      replace hS := hS1
      clear hP1 hS1
      try dsimp only at q13
      obtain ⟨w13, f13⟩ := q13
      replace hC := hC.tr (w13.mono (dS13_8 h0))
      try simp only [t0, t1, t2, t3] at f13
      replace t0 : σ13 (h0 + 1) 0 = σ (h0 + 1) 0 := (w13 (h0 + 1) 0 (dS13_9 h0)).trans t0
      replace t1 : σ13 (h0 + 1) 1 = σ (h0 + 1) 1 := (w13 (h0 + 1) 1 (dS13_9 h0)).trans t1
      replace t2 : σ13 (h0 + 1) 4 = σ (h0 + 1) 4 := (w13 (h0 + 1) 4 (dS13_9 h0)).trans t2
      replace t3 : σ13 (h0 + 1) 6 = σ (h0 + 1) 6 := (w13 (h0 + 1) 6 (dS13_9 h0)).trans t3
      exact zz_iret hx hb hr hlocks hK hP hS dX8_personIs_131 (by exact ⟨hC, Or.inr (Or.inr (Or.inr (Or.inr (⟨by omega, by rw [f13, w12 _ _ (by first | (dsimp only; omega) | omega), hwo]⟩))))⟩)
    · have c5 := zz_eqT c5
      refine lv_aload_n hx hb dX8_personIs_17 rfl (lv_at hl 0 rfl) ?_
      refine lv_iconst (v := 1) hx hb dX8_personIs_18 (by decide) ?_
      refine zz_callVi (As := [.int 1]) (rest := []) ⟨hx, hb, hml, hown, hts⟩ hK hP hS (c_X8_refuse l E σ h0 1 g0 (by omega)) (cwV 1 hts gX8_personIs_X8_refuse rfl rfl rfl (by decide +kernel) ⟨Nat.le_of_ble_eq_true rfl, Nat.le_of_ble_eq_true rfl⟩) (g0.1) rfl rfl hl.1 rfl (Nat.le_of_ble_eq_true rfl) dX8_personIs_19 ⟨Nat.zero_le _, Nat.zero_le _⟩ (fun r14 σ14 H locs q14 hP1 hS1 => ?_)
      replace hP := hP1
      replace hS := hS1
      clear hP1 hS1
      try dsimp only at q14
      obtain ⟨w14, f14⟩ := q14
      replace hC := hC.tr (w14.mono (dS13_7 h0))
      replace t0 : σ14 (h0 + 1) 0 = σ (h0 + 1) 0 := (w14 (h0 + 1) 0 (dS13_6 h0)).trans t0
      replace t1 : σ14 (h0 + 1) 1 = σ (h0 + 1) 1 := (w14 (h0 + 1) 1 (dS13_6 h0)).trans t1
      replace t2 : σ14 (h0 + 1) 4 = σ (h0 + 1) 4 := (w14 (h0 + 1) 4 (dS13_6 h0)).trans t2
      replace t3 : σ14 (h0 + 1) 6 = σ (h0 + 1) 6 := (w14 (h0 + 1) 6 (dS13_6 h0)).trans t3
      exact zz_iret hx hb hr hlocks hK hP hS dX8_personIs_22 (by exact ⟨hC, Or.inl ⟨by omega, by omega⟩⟩)
theorem gX8_takesTo_X8_isPerson : GoodIn wzX8_takesTo (wsV RX8 124 RX8 yX8_isPerson wzX8_isPerson) := wz_co bm_328 (wz_co bm_329 (wz_co bm_330 (wz_co bm_2 (wz_in bm_331))))
theorem gX8_takesTo_X8_within : GoodIn wzX8_takesTo (va_wsS RX8 64 yX8_within wzX8_within) := wz_co bm_112 (wz_co bm_113 (wz_co bm_2 (wz_in bm_114)))
theorem gX8_takesTo_X8_refuse : GoodIn wzX8_takesTo (wsV RX8 68 RX8 yX8_refuse wzX8_refuse) := wz_co bm_118 (wz_co bm_119 (wz_co bm_120 (wz_co bm_2 (wz_in bm_121))))
theorem dS13_10 (x0 : Nat) : ∀ a k : Nat, (a = (x0) + 65) → (a = x0 + 24 ∨ a = x0 + 27 ∨ (x0 + 58 ≤ a ∧ a ≤ x0 + 67) ∨ (x0 + 16 ≤ a ∧ a < x0 + 22 ∧ k = 0)) := by intro a k h; omega
set_option maxHeartbeats 4000000 in
set_option maxRecDepth 100000 in
theorem c_X8_takesTo (l : Launch) (E : zz_E) (σ : zz_S) (h0 : Nat) (ps : Int32) (wo : Int32) (g0 : zz_L E h0) (hI : zz_IX σ h0) : Met l yX8_takesTo wzX8_takesTo ({ frames := 2, cells := 0, slots := 0, locals := 43 }) (va_Pc [.ref h0, .int ps, .int wo] (zz_B E σ)) (va_Qi (fun r σ1 => zz_ch (fun a k => a = h0 + 24 ∨ a = h0 + 27 ∨ (h0 + 58 ≤ a ∧ a ≤ h0 + 67) ∨ (h0 + 16 ≤ a ∧ a < h0 + 22 ∧ k = 0)) σ σ1 ∧ (zz_IX σ1 h0 ∧ ((¬ (0 ≤ ps.toInt ∧ ps.toInt < (σ (h0 + 1) 6).toInt ∧ 0 ≤ wo.toInt ∧ wo.toInt ≤ 1023) ∧ r.toInt = -1000000001 ∧ zz_PX 0 σ1 (h0 + 1) = zz_PX 0 σ (h0 + 1)) ∨ ((0 ≤ ps.toInt ∧ ps.toInt < (σ (h0 + 1) 6).toInt ∧ 0 ≤ wo.toInt ∧ wo.toInt ≤ 1023) ∧ r.toInt = zz_PX 0 σ (h0 + 1) ps.toInt.toNat ∧ zz_PX 0 σ1 (h0 + 1) = zz_wn (zz_PX 0 σ (h0 + 1)) ps.toInt wo.toInt)))) (zz_B E) (zz_A E)) 0 0 (zz_A E) := by
  refine zz_met (cc := cX8_takesTo) (maxL := 5) (ret := (some .int)) (by decide) rfl (Nat.le_of_ble_eq_true rfl) ?_
  intro p e s m args below meth c ls hx hb hr hts hown hlocks hml hK hP hS hl
  have hl : lv_has ls 5 [(0, .ref h0), (1, .int ps), (2, .int wo)] := hl
  have hown : s.vm.findClass RX8 = some m.cls := hown
  have hi1 : ∀ w ∈ wsX10, w ∈ wzX8_takesTo := fun w h => List.mem_cons_of_mem _ (hbw1 w h)
  have hi2 : ∀ w ∈ wsX20, w ∈ wzX8_takesTo := fun w h => List.mem_cons_of_mem _ (hbw2 w h)
  have hi8 : ∀ w ∈ wsX80, w ∈ wzX8_takesTo := fun w h => List.mem_cons_of_mem _ (hbw8 w h)
  have k_0 : (0 : Int32).toInt = 0 := by decide +kernel
  have k_1 : (1 : Int32).toInt = 1 := by decide +kernel
  have k_1023 : (1023 : Int32).toInt = 1023 := by decide +kernel
  replace t0 : σ (h0 + 1) 0 = σ (h0 + 1) 0 := rfl
  replace t1 : σ (h0 + 1) 1 = σ (h0 + 1) 1 := rfl
  replace t2 : σ (h0 + 1) 4 = σ (h0 + 1) 4 := rfl
  replace t3 : σ (h0 + 1) 6 = σ (h0 + 1) 6 := rfl
  have hC : zz_ch (fun a k => a = h0 + 24 ∨ a = h0 + 27 ∨ (h0 + 58 ≤ a ∧ a ≤ h0 + 67) ∨ (h0 + 16 ≤ a ∧ a < h0 + 22 ∧ k = 0)) σ σ := zz_ch.rf σ
  obtain ⟨⟨hh, hsl, hd, hp, htc, hwc, ht, hft, hst, hid⟩, hkI, hsh, hspk⟩ := id hI
  refine lv_aload_n hx hb dX8_takesTo_0 rfl (lv_at hl 0 rfl) ?_
  refine lv_iload_n hx hb dX8_takesTo_1 rfl (lv_at hl 1 rfl) ?_
  refine zz_callVp (As := [.int ps]) (rest := []) ⟨hx, hb, hml, hown, hts⟩ hK hP hS (c_X8_isPerson l E σ h0 ps g0 (by exact hp)) (cwV 1 hts gX8_takesTo_X8_isPerson rfl rfl rfl (by decide +kernel) ⟨Nat.le_of_ble_eq_true rfl, Nat.le_of_ble_eq_true rfl⟩) (g0.1) rfl rfl hl.1 rfl (Nat.le_of_ble_eq_true rfl) dX8_takesTo_2 ⟨Nat.zero_le _, Nat.zero_le _⟩ (fun r1 H locs f1 hP1 hS1 => ?_)
  replace hP := hP1
  replace hS := hS1
  clear hP1 hS1
  refine lv_if_eq (tgt := 19) hx hb dX8_takesTo_5 (by decide) (fun c2 => ?_) (fun c2 => ?_)
  · have c2 := zz_eqT c2
    refine lv_aload_n hx hb dX8_takesTo_19 rfl (lv_at hl 0 rfl) ?_
    refine lv_iconst (v := 1) hx hb dX8_takesTo_20 (by decide) ?_
    refine zz_callVi (As := [.int 1]) (rest := []) ⟨hx, hb, hml, hown, hts⟩ hK hP hS (c_X8_refuse l E σ h0 1 g0 (by omega)) (cwV 1 hts gX8_takesTo_X8_refuse rfl rfl rfl (by decide +kernel) ⟨Nat.le_of_ble_eq_true rfl, Nat.le_of_ble_eq_true rfl⟩) (g0.1) rfl rfl hl.1 rfl (Nat.le_of_ble_eq_true rfl) dX8_takesTo_21 ⟨Nat.zero_le _, Nat.zero_le _⟩ (fun r3 σ3 H locs q3 hP1 hS1 => ?_)
    replace hP := hP1
    replace hS := hS1
    clear hP1 hS1
    try dsimp only at q3
    obtain ⟨w3, f3⟩ := q3
    replace hC := hC.tr (w3.mono (dS13_10 h0))
    replace t0 : σ3 (h0 + 1) 0 = σ (h0 + 1) 0 := (w3 (h0 + 1) 0 (dS13_6 h0)).trans t0
    replace t1 : σ3 (h0 + 1) 1 = σ (h0 + 1) 1 := (w3 (h0 + 1) 1 (dS13_6 h0)).trans t1
    replace t2 : σ3 (h0 + 1) 4 = σ (h0 + 1) 4 := (w3 (h0 + 1) 4 (dS13_6 h0)).trans t2
    replace t3 : σ3 (h0 + 1) 6 = σ (h0 + 1) 6 := (w3 (h0 + 1) 6 (dS13_6 h0)).trans t3
    exact zz_iret hx hb hr hlocks hK hP hS dX8_takesTo_24 (by exact ⟨hC, hI.soft (w3.mono (by intro a k h; omega)), Or.inl ⟨by omega, by omega, by rw [zz_PXk (f := 0) (r := h0 + 1) w3 (by intro j hj; first | (dsimp only; omega) | omega)]⟩⟩)
  · have c2 := zz_neT c2
    refine lv_iload_n hx hb dX8_takesTo_8 rfl (lv_at hl 2 rfl) ?_
    refine lv_iconst (v := 0) hx hb dX8_takesTo_9 (by decide) ?_
    refine lv_sipush (v := 1023) hx hb dX8_takesTo_10 (by decide) ?_
    refine zz_callSp (As := [.int wo, .int 0, .int 1023]) (rest := []) ⟨hx, hb, hml, hown, hts⟩ hK hP hS (c_X8_within l E σ wo 0 1023) (va_cwS 3 hts gX8_takesTo_X8_within rfl rfl rfl (by decide +kernel) ⟨Nat.le_of_ble_eq_true rfl, Nat.le_of_ble_eq_true rfl⟩) rfl hl.1 rfl (Nat.le_of_ble_eq_true rfl) dX8_takesTo_13 ⟨Nat.zero_le _, Nat.zero_le _⟩ (fun r4 H locs f4 hP1 hS1 => ?_)
    replace hP := hP1
    replace hS := hS1
    clear hP1 hS1
    refine lv_if_ne (tgt := 25) hx hb dX8_takesTo_16 (by decide) (fun c5 => ?_) (fun c5 => ?_)
    · have c5 := zz_neT c5
      refine lv_aload_n hx hb dX8_takesTo_25 rfl (lv_at hl 0 rfl) ?_
      refine zz_getr hx hb hts hi8 hown hK hP (g0.1) rfl 0 (by decide) (hts (.fieldLink RX8 10 "NoonLaw" "realm" "LNoonLaw$Realm;") (List.mem_cons_of_mem _ bm_16)) rfl rfl dX8_takesTo_26 ?_
      refine zz_getr hx hb hts hi2 hown hK hP (g0.2.1.1) rfl 5 (by decide) (hts (.fieldLink RX8 127 "NoonLaw$Realm" "people" "[LNoonLaw$Person;") (List.mem_cons_of_mem _ bm_325)) rfl rfl dX8_takesTo_29 ?_
      refine lv_iload_n hx hb dX8_takesTo_32 rfl (lv_at hl 1 rfl) ?_
      refine zz_aald hx hb hK hP (g0.2.1.2.2.1) rfl (by omega) (by omega) dX8_takesTo_33 (fun j6 q6 r6 => ?_)
      refine lv_astore_n (lv' := [(3, .ref ((h0 + 1) + 15 + 1 * j6)), (0, .ref h0), (1, .int ps), (2, .int wo)]) hx hb dX8_takesTo_34 rfl hl (by decide) rfl (fun ls hl => ?_)
      refine lv_aload_n hx hb dX8_takesTo_35 rfl (lv_at hl 0 rfl) ?_
      refine zz_geti hx hb hts hi1 hown hK hP ((g0.2.1.2.2.2.2.2.2.2.1 j6 r6)) rfl 0 (by decide) (hts (.fieldLink RX8 131 "NoonLaw$Person" "wont" "I") (List.mem_cons_of_mem _ bm_326)) rfl rfl rfl dX8_takesTo_36 ?_
      refine lv_istore (lv' := [(4, .int (σ ((h0 + 1) + 15 + 1 * j6) 0)), (3, .ref ((h0 + 1) + 15 + 1 * j6)), (0, .ref h0), (1, .int ps), (2, .int wo)]) hx hb dX8_takesTo_39 hl (by decide) rfl (fun ls hl => ?_)
      refine lv_aload_n hx hb dX8_takesTo_41 rfl (lv_at hl 1 rfl) ?_
      refine lv_iload_n hx hb dX8_takesTo_42 rfl (lv_at hl 4 rfl) ?_
      refine zz_puti (v := wo) (ty := .int) hx hb hts hi1 tyX1 tyX1_ok nmX1 hown hK hP hS ((g0.2.1.2.2.2.2.2.2.2.1 j6 r6)) rfl 0 (by decide) (hts (.fieldLink RX8 131 "NoonLaw$Person" "wont" "I") (List.mem_cons_of_mem _ bm_326)) rfl rfl (by decide +kernel) rfl rfl rfl dX8_takesTo_43 (fun σ7 H locs w7 hP1 hS1 => ?_)
      replace hP := hP1
      replace hS := hS1
      clear hP1 hS1
      replace hC := hC.u w7 (by first | (dsimp only; omega) | omega | (dsimp only; done))
      replace t0 : σ7 (h0 + 1) 0 = σ (h0 + 1) 0 := (zz_w (b := (h0 + 1)) (j := 0) w7 (by omega)).trans t0
      replace t1 : σ7 (h0 + 1) 1 = σ (h0 + 1) 1 := (zz_w (b := (h0 + 1)) (j := 1) w7 (by omega)).trans t1
      replace t2 : σ7 (h0 + 1) 4 = σ (h0 + 1) 4 := (zz_w (b := (h0 + 1)) (j := 4) w7 (by omega)).trans t2
      replace t3 : σ7 (h0 + 1) 6 = σ (h0 + 1) 6 := (zz_w (b := (h0 + 1)) (j := 6) w7 (by omega)).trans t3
      refine lv_iload hx hb dX8_takesTo_46 (lv_at hl 0 rfl) ?_
      have hPq : zz_PX 0 σ7 (h0 + 1) = zz_wn (zz_PX 0 σ (h0 + 1)) ps.toInt wo.toInt := by rw [zz_PXw w7 q6 r6]
      exact zz_iret hx hb hr hlocks hK hP hS dX8_takesTo_48 (by exact ⟨hC, ⟨(hI.1.keep (fun k => hC _ _ (by first | (dsimp only; omega) | omega)) (fun k => hC _ _ (by first | (dsimp only; omega) | omega)) (fun j hj k => hC _ _ (by first | (dsimp only; omega) | omega)) (fun j hj f hf => hC _ _ (by first | (dsimp only; omega) | omega))), (hkI.keep (fun k => hC _ _ (by first | (dsimp only; omega) | omega)) (fun k => hC _ _ (by first | (dsimp only; omega) | omega)) (fun j hj k => hC _ _ (by first | (dsimp only; omega) | omega)) (fun j hj f hf => hC _ _ (by first | (dsimp only; omega) | omega))), (fun j hj => by rw [hC _ _ (by first | (dsimp only; omega) | omega)]; exact hsh j hj), (by rw [hC _ _ (by first | (dsimp only; omega) | omega)]; exact hspk)⟩, Or.inr ⟨by omega, by rw [show ps.toInt.toNat = j6 from by omega, zz_PX.at r6], hPq⟩⟩)
    · have c5 := zz_eqT c5
      refine lv_aload_n hx hb dX8_takesTo_19 rfl (lv_at hl 0 rfl) ?_
      refine lv_iconst (v := 1) hx hb dX8_takesTo_20 (by decide) ?_
      refine zz_callVi (As := [.int 1]) (rest := []) ⟨hx, hb, hml, hown, hts⟩ hK hP hS (c_X8_refuse l E σ h0 1 g0 (by omega)) (cwV 1 hts gX8_takesTo_X8_refuse rfl rfl rfl (by decide +kernel) ⟨Nat.le_of_ble_eq_true rfl, Nat.le_of_ble_eq_true rfl⟩) (g0.1) rfl rfl hl.1 rfl (Nat.le_of_ble_eq_true rfl) dX8_takesTo_21 ⟨Nat.zero_le _, Nat.zero_le _⟩ (fun r8 σ8 H locs q8 hP1 hS1 => ?_)
      replace hP := hP1
      replace hS := hS1
      clear hP1 hS1
      try dsimp only at q8
      obtain ⟨w8, f8⟩ := q8
      replace hC := hC.tr (w8.mono (dS13_10 h0))
      replace t0 : σ8 (h0 + 1) 0 = σ (h0 + 1) 0 := (w8 (h0 + 1) 0 (dS13_6 h0)).trans t0
      replace t1 : σ8 (h0 + 1) 1 = σ (h0 + 1) 1 := (w8 (h0 + 1) 1 (dS13_6 h0)).trans t1
      replace t2 : σ8 (h0 + 1) 4 = σ (h0 + 1) 4 := (w8 (h0 + 1) 4 (dS13_6 h0)).trans t2
      replace t3 : σ8 (h0 + 1) 6 = σ (h0 + 1) 6 := (w8 (h0 + 1) 6 (dS13_6 h0)).trans t3
      exact zz_iret hx hb hr hlocks hK hP hS dX8_takesTo_24 (by exact ⟨hC, hI.soft (w8.mono (by intro a k h; omega)), Or.inl ⟨by omega, by omega, by rw [zz_PXk (f := 0) (r := h0 + 1) w8 (by intro j hj; first | (dsimp only; omega) | omega)]⟩⟩)
theorem gX8_law_X8_isUse : GoodIn wzX8_law (va_wsS RX8 157 yX8_isUse wzX8_isUse) := wz_co bm_443 (wz_co bm_444 (wz_co bm_2 (wz_in bm_445)))
theorem gX8_law_X8_refuse : GoodIn wzX8_law (wsV RX8 68 RX8 yX8_refuse wzX8_refuse) := wz_co bm_118 (wz_co bm_119 (wz_co bm_120 (wz_co bm_2 (wz_in bm_121))))
theorem gX8_law_X2_gives : GoodIn wzX8_law (wsV RX8 187 RX2 yX2_gives wzX2_gives) := wz_co bm_572 (wz_co bm_207 (wz_co bm_208 (wz_co bm_15 (wz_in bm_209))))
set_option maxHeartbeats 4000000 in
set_option maxRecDepth 100000 in
theorem c_X8_law (l : Launch) (E : zz_E) (σ : zz_S) (h0 : Nat) (use : Int32) (x1 : Int32) (x2 : Int32) (x3 : Int32) (g0 : zz_L E h0) (hI : zz_IX σ h0) (K : zy_W) (hW : zy_XW σ (h0 + 1) K) : Met l yX8_law wzX8_law ({ frames := 3, cells := 0, slots := 0, locals := 74 }) (va_Pc [.ref h0, .int use, .int x1, .int x2, .int x3] (zz_B E σ)) (va_Qi (fun r σ1 => zz_ch (fun a k => a = h0 + 24 ∨ a = h0 + 27 ∨ (h0 + 58 ≤ a ∧ a ≤ h0 + 67)) σ σ1 ∧ (True)) (zz_B E) (zz_A E)) 0 0 (zz_A E) := by
  refine zz_met (cc := cX8_law) (maxL := 5) (ret := (some .int)) (by decide) rfl (Nat.le_of_ble_eq_true rfl) ?_
  intro p e s m args below meth c ls hx hb hr hts hown hlocks hml hK hP hS hl
  have hl : lv_has ls 5 [(0, .ref h0), (1, .int use), (2, .int x1), (3, .int x2), (4, .int x3)] := hl
  have hown : s.vm.findClass RX8 = some m.cls := hown
  have hi8 : ∀ w ∈ wsX80, w ∈ wzX8_law := fun w h => List.mem_cons_of_mem _ (hbw8 w h)
  have k_0 : (0 : Int32).toInt = 0 := by decide +kernel
  have k_1 : (1 : Int32).toInt = 1 := by decide +kernel
  replace t0 : σ (h0 + 1) 0 = σ (h0 + 1) 0 := rfl
  replace t1 : σ (h0 + 1) 1 = σ (h0 + 1) 1 := rfl
  replace t2 : σ (h0 + 1) 4 = σ (h0 + 1) 4 := rfl
  replace t3 : σ (h0 + 1) 6 = σ (h0 + 1) 6 := rfl
  have hC : zz_ch (fun a k => a = h0 + 24 ∨ a = h0 + 27 ∨ (h0 + 58 ≤ a ∧ a ≤ h0 + 67)) σ σ := zz_ch.rf σ
  obtain ⟨⟨hh, hsl, hd, hp, htc, hwc, ht, hft, hst, hid⟩, hkI, hsh, hspk⟩ := id hI
  have hct := hW.2.1
  have hlt := hW.2.2.1
  refine lv_iload_n hx hb dX8_law_0 rfl (lv_at hl 1 rfl) ?_
  refine zz_callSp (As := [.int use]) (rest := []) ⟨hx, hb, hml, hown, hts⟩ hK hP hS (c_X8_isUse l E σ use) (va_cwS 1 hts gX8_law_X8_isUse rfl rfl rfl (by decide +kernel) ⟨Nat.le_of_ble_eq_true rfl, Nat.le_of_ble_eq_true rfl⟩) rfl hl.1 rfl (Nat.le_of_ble_eq_true rfl) dX8_law_1 ⟨Nat.zero_le _, Nat.zero_le _⟩ (fun r1 H locs f1 hP1 hS1 => ?_)
  replace hP := hP1
  replace hS := hS1
  clear hP1 hS1
  refine lv_if_ne (tgt := 13) hx hb dX8_law_4 (by decide) (fun c2 => ?_) (fun c2 => ?_)
  · have c2 := zz_neT c2
    refine lv_aload_n hx hb dX8_law_13 rfl (lv_at hl 0 rfl) ?_
    refine zz_getr hx hb hts hi8 hown hK hP (g0.1) rfl 0 (by decide) (hts (.fieldLink RX8 10 "NoonLaw" "realm" "LNoonLaw$Realm;") (List.mem_cons_of_mem _ bm_16)) rfl rfl dX8_law_14 ?_
    refine lv_iload_n hx hb dX8_law_17 rfl (lv_at hl 1 rfl) ?_
    refine lv_iload_n hx hb dX8_law_18 rfl (lv_at hl 2 rfl) ?_
    refine lv_iload_n hx hb dX8_law_19 rfl (lv_at hl 3 rfl) ?_
    refine lv_iload hx hb dX8_law_20 (lv_at hl 4 rfl) ?_
    refine zz_callVi (As := [.int use, .int x1, .int x2, .int x3]) (rest := []) ⟨hx, hb, hml, hown, hts⟩ hK hP hS (c_X2_gives l E σ (h0 + 1) use x1 x2 x3 (g0.2.1) (by first | omega | exact ht | (rw [t0]; omega) | (rw [t1]; omega) | (rw [t2]; omega) | (rw [t3]; omega) | (intro j hj; rw [(hC _ _ (by first | (dsimp only; omega) | omega))]; exact ht j hj)) (by exact ht) K (by exact hW)) (cwV 4 hts gX8_law_X2_gives rfl rfl rfl (by decide +kernel) ⟨Nat.le_of_ble_eq_true rfl, Nat.le_of_ble_eq_true rfl⟩) (g0.2.1.1) rfl rfl hl.1 rfl (Nat.le_of_ble_eq_true rfl) dX8_law_22 ⟨Nat.zero_le _, Nat.zero_le _⟩ (fun r3 σ3 H locs q3 hP1 hS1 => ?_)
    replace hP := hP1
    replace hS := hS1
    clear hP1 hS1
    try dsimp only at q3
    obtain ⟨w3, f3⟩ := q3
    replace hC := hC.tr (w3.mono (dS13_8 h0))
    replace t0 : σ3 (h0 + 1) 0 = σ (h0 + 1) 0 := (w3 (h0 + 1) 0 (dS13_9 h0)).trans t0
    replace t1 : σ3 (h0 + 1) 1 = σ (h0 + 1) 1 := (w3 (h0 + 1) 1 (dS13_9 h0)).trans t1
    replace t2 : σ3 (h0 + 1) 4 = σ (h0 + 1) 4 := (w3 (h0 + 1) 4 (dS13_9 h0)).trans t2
    replace t3 : σ3 (h0 + 1) 6 = σ (h0 + 1) 6 := (w3 (h0 + 1) 6 (dS13_9 h0)).trans t3
    exact zz_iret hx hb hr hlocks hK hP hS dX8_law_25 (by exact ⟨hC, trivial⟩)
  · have c2 := zz_eqT c2
    refine lv_aload_n hx hb dX8_law_7 rfl (lv_at hl 0 rfl) ?_
    refine lv_iconst (v := 1) hx hb dX8_law_8 (by decide) ?_
    refine zz_callVi (As := [.int 1]) (rest := []) ⟨hx, hb, hml, hown, hts⟩ hK hP hS (c_X8_refuse l E σ h0 1 g0 (by omega)) (cwV 1 hts gX8_law_X8_refuse rfl rfl rfl (by decide +kernel) ⟨Nat.le_of_ble_eq_true rfl, Nat.le_of_ble_eq_true rfl⟩) (g0.1) rfl rfl hl.1 rfl (Nat.le_of_ble_eq_true rfl) dX8_law_9 ⟨Nat.zero_le _, Nat.zero_le _⟩ (fun r4 σ4 H locs q4 hP1 hS1 => ?_)
    replace hP := hP1
    replace hS := hS1
    clear hP1 hS1
    try dsimp only at q4
    obtain ⟨w4, f4⟩ := q4
    replace hC := hC.tr (w4.mono (dS13_7 h0))
    replace t0 : σ4 (h0 + 1) 0 = σ (h0 + 1) 0 := (w4 (h0 + 1) 0 (dS13_6 h0)).trans t0
    replace t1 : σ4 (h0 + 1) 1 = σ (h0 + 1) 1 := (w4 (h0 + 1) 1 (dS13_6 h0)).trans t1
    replace t2 : σ4 (h0 + 1) 4 = σ (h0 + 1) 4 := (w4 (h0 + 1) 4 (dS13_6 h0)).trans t2
    replace t3 : σ4 (h0 + 1) 6 = σ (h0 + 1) 6 := (w4 (h0 + 1) 6 (dS13_6 h0)).trans t3
    exact zz_iret hx hb hr hlocks hK hP hS dX8_law_12 (by exact ⟨hC, trivial⟩)
theorem gX8_rule_X8_isMatter : GoodIn wzX8_rule (va_wsS RX8 204 yX8_isMatter wzX8_isMatter) := wz_co bm_637 (wz_co bm_345 (wz_co bm_2 (wz_in bm_346)))
theorem gX8_rule_X8_within : GoodIn wzX8_rule (va_wsS RX8 64 yX8_within wzX8_within) := wz_co bm_112 (wz_co bm_113 (wz_co bm_2 (wz_in bm_114)))
theorem gX8_rule_X8_refuse : GoodIn wzX8_rule (wsV RX8 68 RX8 yX8_refuse wzX8_refuse) := wz_co bm_118 (wz_co bm_119 (wz_co bm_120 (wz_co bm_2 (wz_in bm_121))))
theorem gX8_rule_X4_look : GoodIn wzX8_rule (wsV RX8 139 RX4 yX4_look wzX4_look) := wz_co bm_333 (wz_co bm_334 (wz_co bm_335 (wz_co bm_30 (wz_in bm_336))))
theorem gX8_rule_X4_under : GoodIn wzX8_rule (wsV RX8 207 RX4 yX4_under wzX4_under) := wz_co bm_638 (wz_co bm_639 (wz_co bm_640 (wz_co bm_30 (wz_in bm_641))))
set_option maxHeartbeats 4000000 in
set_option maxRecDepth 100000 in
theorem c_X8_rule (l : Launch) (E : zz_E) (σ : zz_S) (h0 : Nat) (mt : Int32) (nn : Int32) (g0 : zz_L E h0) (hI : zz_IX σ h0) (K : zy_W) (hW : zy_XW σ (h0 + 1) K) : Met l yX8_rule wzX8_rule ({ frames := 5, cells := 0, slots := 0, locals := 121 }) (va_Pc [.ref h0, .int mt, .int nn] (zz_B E σ)) (va_Qi (fun r σ1 => zz_ch (fun a k => a = h0 + 24 ∨ a = h0 + 27 ∨ (h0 + 58 ≤ a ∧ a ≤ h0 + 67)) σ σ1 ∧ (zy_p18 K (σ (h0 + 1) 0).toInt mt.toInt nn.toInt r)) (zz_B E) (zz_A E)) 0 0 (zz_A E) := by
  refine zz_met (cc := cX8_rule) (maxL := 3) (ret := (some .int)) (by decide) rfl (Nat.le_of_ble_eq_true rfl) ?_
  intro p e s m args below meth c ls hx hb hr hts hown hlocks hml hK hP hS hl
  have hl : lv_has ls 3 [(0, .ref h0), (1, .int mt), (2, .int nn)] := hl
  have hown : s.vm.findClass RX8 = some m.cls := hown
  have hi2 : ∀ w ∈ wsX20, w ∈ wzX8_rule := fun w h => List.mem_cons_of_mem _ (hbw2 w h)
  have hi8 : ∀ w ∈ wsX80, w ∈ wzX8_rule := fun w h => List.mem_cons_of_mem _ (hbw8 w h)
  have k_0 : (0 : Int32).toInt = 0 := by decide +kernel
  have k_1 : (1 : Int32).toInt = 1 := by decide +kernel
  have k_240 : (240 : Int32).toInt = 240 := by decide +kernel
  replace t0 : σ (h0 + 1) 0 = σ (h0 + 1) 0 := rfl
  replace t1 : σ (h0 + 1) 1 = σ (h0 + 1) 1 := rfl
  replace t2 : σ (h0 + 1) 4 = σ (h0 + 1) 4 := rfl
  replace t3 : σ (h0 + 1) 6 = σ (h0 + 1) 6 := rfl
  have hC : zz_ch (fun a k => a = h0 + 24 ∨ a = h0 + 27 ∨ (h0 + 58 ≤ a ∧ a ≤ h0 + 67)) σ σ := zz_ch.rf σ
  obtain ⟨⟨hh, hsl, hd, hp, htc, hwc, ht, hft, hst, hid⟩, hkI, hsh, hspk⟩ := id hI
  have hct := hW.2.1
  have hlt := hW.2.2.1
  refine lv_iload_n hx hb dX8_rule_0 rfl (lv_at hl 1 rfl) ?_
  refine zz_callSp (As := [.int mt]) (rest := []) ⟨hx, hb, hml, hown, hts⟩ hK hP hS (c_X8_isMatter l E σ mt) (va_cwS 1 hts gX8_rule_X8_isMatter rfl rfl rfl (by decide +kernel) ⟨Nat.le_of_ble_eq_true rfl, Nat.le_of_ble_eq_true rfl⟩) rfl hl.1 rfl (Nat.le_of_ble_eq_true rfl) dX8_rule_1 ⟨Nat.zero_le _, Nat.zero_le _⟩ (fun r1 H locs f1 hP1 hS1 => ?_)
  replace hP := hP1
  replace hS := hS1
  clear hP1 hS1
  refine lv_if_eq (tgt := 18) hx hb dX8_rule_4 (by decide) (fun c2 => ?_) (fun c2 => ?_)
  · have c2 := zz_eqT c2
    refine lv_aload_n hx hb dX8_rule_18 rfl (lv_at hl 0 rfl) ?_
    refine lv_iconst (v := 1) hx hb dX8_rule_19 (by decide) ?_
    refine zz_callVi (As := [.int 1]) (rest := []) ⟨hx, hb, hml, hown, hts⟩ hK hP hS (c_X8_refuse l E σ h0 1 g0 (by omega)) (cwV 1 hts gX8_rule_X8_refuse rfl rfl rfl (by decide +kernel) ⟨Nat.le_of_ble_eq_true rfl, Nat.le_of_ble_eq_true rfl⟩) (g0.1) rfl rfl hl.1 rfl (Nat.le_of_ble_eq_true rfl) dX8_rule_20 ⟨Nat.zero_le _, Nat.zero_le _⟩ (fun r3 σ3 H locs q3 hP1 hS1 => ?_)
    replace hP := hP1
    replace hS := hS1
    clear hP1 hS1
    try dsimp only at q3
    obtain ⟨w3, f3⟩ := q3
    replace hC := hC.tr (w3.mono (dS13_7 h0))
    replace t0 : σ3 (h0 + 1) 0 = σ (h0 + 1) 0 := (w3 (h0 + 1) 0 (dS13_6 h0)).trans t0
    replace t1 : σ3 (h0 + 1) 1 = σ (h0 + 1) 1 := (w3 (h0 + 1) 1 (dS13_6 h0)).trans t1
    replace t2 : σ3 (h0 + 1) 4 = σ (h0 + 1) 4 := (w3 (h0 + 1) 4 (dS13_6 h0)).trans t2
    replace t3 : σ3 (h0 + 1) 6 = σ (h0 + 1) 6 := (w3 (h0 + 1) 6 (dS13_6 h0)).trans t3
    exact zz_iret hx hb hr hlocks hK hP hS dX8_rule_23 (by exact ⟨hC, Or.inl ⟨by omega, by omega⟩⟩)
  · have c2 := zz_neT c2
    refine lv_iload_n hx hb dX8_rule_7 rfl (lv_at hl 2 rfl) ?_
    refine lv_iconst (v := 0) hx hb dX8_rule_8 (by decide) ?_
    refine lv_sipush (v := 240) hx hb dX8_rule_9 (by decide) ?_
    refine zz_callSp (As := [.int nn, .int 0, .int 240]) (rest := []) ⟨hx, hb, hml, hown, hts⟩ hK hP hS (c_X8_within l E σ nn 0 240) (va_cwS 3 hts gX8_rule_X8_within rfl rfl rfl (by decide +kernel) ⟨Nat.le_of_ble_eq_true rfl, Nat.le_of_ble_eq_true rfl⟩) rfl hl.1 rfl (Nat.le_of_ble_eq_true rfl) dX8_rule_12 ⟨Nat.zero_le _, Nat.zero_le _⟩ (fun r4 H locs f4 hP1 hS1 => ?_)
    replace hP := hP1
    replace hS := hS1
    clear hP1 hS1
    refine lv_if_ne (tgt := 24) hx hb dX8_rule_15 (by decide) (fun c5 => ?_) (fun c5 => ?_)
    · have c5 := zz_neT c5
      refine lv_aload_n hx hb dX8_rule_24 rfl (lv_at hl 0 rfl) ?_
      refine zz_getr hx hb hts hi8 hown hK hP (g0.1) rfl 6 (by decide) (hts (.fieldLink RX8 42 "NoonLaw" "sight" "LNoonLaw$Sight;") (List.mem_cons_of_mem _ bm_31)) rfl rfl dX8_rule_25 ?_
      refine lv_aload_n hx hb dX8_rule_28 rfl (lv_at hl 0 rfl) ?_
      refine zz_getr hx hb hts hi8 hown hK hP (g0.1) rfl 0 (by decide) (hts (.fieldLink RX8 10 "NoonLaw" "realm" "LNoonLaw$Realm;") (List.mem_cons_of_mem _ bm_16)) rfl rfl dX8_rule_29 ?_
      refine lv_aload_n hx hb dX8_rule_32 rfl (lv_at hl 0 rfl) ?_
      refine zz_getr hx hb hts hi8 hown hK hP (g0.1) rfl 0 (by decide) (hts (.fieldLink RX8 10 "NoonLaw" "realm" "LNoonLaw$Realm;") (List.mem_cons_of_mem _ bm_16)) rfl rfl dX8_rule_33 ?_
      refine zz_geti hx hb hts hi2 hown hK hP (g0.2.1.1) rfl 0 (by decide) (hts (.fieldLink RX8 104 "NoonLaw$Realm" "hour" "I") (List.mem_cons_of_mem _ bm_166)) rfl rfl t0 dX8_rule_36 ?_
      refine lv_iload_n hx hb dX8_rule_39 rfl (lv_at hl 2 rfl) ?_
      refine lv_iadd hx hb dX8_rule_40 ?_
      refine lv_topi (fun n6 e6 => ?_)
      have f6 : n6.toInt = (σ (h0 + 1) 0).toInt + (nn).toInt := zz_addT e6 (by omega) (by omega)
      refine zz_callVv (As := [.ref (h0 + 1), .int n6]) (rest := []) ⟨hx, hb, hml, hown, hts⟩ hK hP hS (c_X4_look l E σ (h0 + 61) (h0 + 1) n6 (g0.2.2.2.2.2.2.2.1) (g0.2.1) (by exact hd) (by exact ht) (by omega) (by first | omega | exact ht | (rw [t0]; omega) | (rw [t1]; omega) | (rw [t2]; omega) | (rw [t3]; omega) | (intro j hj; rw [(hC _ _ (by first | (dsimp only; omega) | omega))]; exact ht j hj)) K (by exact hW)) (cwV 2 hts gX8_rule_X4_look rfl rfl rfl (by decide +kernel) ⟨Nat.le_of_ble_eq_true rfl, Nat.le_of_ble_eq_true rfl⟩) (g0.2.2.2.2.2.2.2.1.1) rfl rfl hl.1 rfl (Nat.le_of_ble_eq_true rfl) dX8_rule_41 ⟨Nat.zero_le _, Nat.zero_le _⟩ (fun σ7 H locs q7 hP1 hS1 => ?_)
      replace hP := hP1
      replace hS := hS1
      clear hP1 hS1
      try dsimp only at q7
      obtain ⟨w7, f7⟩ := q7
      replace hC := hC.tr (w7.mono (dS13_1 h0))
      replace t0 : σ7 (h0 + 1) 0 = σ (h0 + 1) 0 := (w7 (h0 + 1) 0 (dS13_2 h0)).trans t0
      replace t1 : σ7 (h0 + 1) 1 = σ (h0 + 1) 1 := (w7 (h0 + 1) 1 (dS13_2 h0)).trans t1
      replace t2 : σ7 (h0 + 1) 4 = σ (h0 + 1) 4 := (w7 (h0 + 1) 4 (dS13_2 h0)).trans t2
      replace t3 : σ7 (h0 + 1) 6 = σ (h0 + 1) 6 := (w7 (h0 + 1) 6 (dS13_2 h0)).trans t3
      refine lv_aload_n hx hb dX8_rule_44 rfl (lv_at hl 0 rfl) ?_
      refine zz_getr hx hb hts hi8 hown hK hP (g0.1) rfl 6 (by decide) (hts (.fieldLink RX8 42 "NoonLaw" "sight" "LNoonLaw$Sight;") (List.mem_cons_of_mem _ bm_31)) rfl rfl dX8_rule_45 ?_
      refine lv_iload_n hx hb dX8_rule_48 rfl (lv_at hl 1 rfl) ?_
      refine zz_callVp (As := [.int mt]) (rest := []) ⟨hx, hb, hml, hown, hts⟩ hK hP hS (c_X4_under l E σ7 (h0 + 61) mt (g0.2.2.2.2.2.2.2.1) K n6.toInt (by exact f7) (by first | omega | exact ht | (rw [t0]; omega) | (rw [t1]; omega) | (rw [t2]; omega) | (rw [t3]; omega) | (intro j hj; rw [(hC _ _ (by first | (dsimp only; omega) | omega))]; exact ht j hj))) (cwV 1 hts gX8_rule_X4_under rfl rfl rfl (by decide +kernel) ⟨Nat.le_of_ble_eq_true rfl, Nat.le_of_ble_eq_true rfl⟩) (g0.2.2.2.2.2.2.2.1.1) rfl rfl hl.1 rfl (Nat.le_of_ble_eq_true rfl) dX8_rule_49 ⟨Nat.zero_le _, Nat.zero_le _⟩ (fun r8 H locs f8 hP1 hS1 => ?_)
      replace hP := hP1
      replace hS := hS1
      clear hP1 hS1
      exact zz_iret hx hb hr hlocks hK hP hS dX8_rule_52 (by exact ⟨hC, Or.inr ⟨by omega, by rw [f8]; exact congrArg (fun q => zy_u K q mt.toInt) (by omega)⟩⟩)
    · have c5 := zz_eqT c5
      refine lv_aload_n hx hb dX8_rule_18 rfl (lv_at hl 0 rfl) ?_
      refine lv_iconst (v := 1) hx hb dX8_rule_19 (by decide) ?_
      refine zz_callVi (As := [.int 1]) (rest := []) ⟨hx, hb, hml, hown, hts⟩ hK hP hS (c_X8_refuse l E σ h0 1 g0 (by omega)) (cwV 1 hts gX8_rule_X8_refuse rfl rfl rfl (by decide +kernel) ⟨Nat.le_of_ble_eq_true rfl, Nat.le_of_ble_eq_true rfl⟩) (g0.1) rfl rfl hl.1 rfl (Nat.le_of_ble_eq_true rfl) dX8_rule_20 ⟨Nat.zero_le _, Nat.zero_le _⟩ (fun r9 σ9 H locs q9 hP1 hS1 => ?_)
      replace hP := hP1
      replace hS := hS1
      clear hP1 hS1
      try dsimp only at q9
      obtain ⟨w9, f9⟩ := q9
      replace hC := hC.tr (w9.mono (dS13_7 h0))
      replace t0 : σ9 (h0 + 1) 0 = σ (h0 + 1) 0 := (w9 (h0 + 1) 0 (dS13_6 h0)).trans t0
      replace t1 : σ9 (h0 + 1) 1 = σ (h0 + 1) 1 := (w9 (h0 + 1) 1 (dS13_6 h0)).trans t1
      replace t2 : σ9 (h0 + 1) 4 = σ (h0 + 1) 4 := (w9 (h0 + 1) 4 (dS13_6 h0)).trans t2
      replace t3 : σ9 (h0 + 1) 6 = σ (h0 + 1) 6 := (w9 (h0 + 1) 6 (dS13_6 h0)).trans t3
      exact zz_iret hx hb hr hlocks hK hP hS dX8_rule_23 (by exact ⟨hC, Or.inl ⟨by omega, by omega⟩⟩)
theorem gX8_now_X8_within : GoodIn wzX8_now (va_wsS RX8 64 yX8_within wzX8_within) := wz_co bm_112 (wz_co bm_113 (wz_co bm_2 (wz_in bm_114)))
theorem gX8_now_X8_refuse : GoodIn wzX8_now (wsV RX8 68 RX8 yX8_refuse wzX8_refuse) := wz_co bm_118 (wz_co bm_119 (wz_co bm_120 (wz_co bm_2 (wz_in bm_121))))
theorem gX8_now_X4_look : GoodIn wzX8_now (wsV RX8 139 RX4 yX4_look wzX4_look) := wz_co bm_333 (wz_co bm_334 (wz_co bm_335 (wz_co bm_30 (wz_in bm_336))))
theorem gX8_now_J6_bitCount_0f7a4 : GoodIn wzX8_now (va_wsS RX8 222 yJ6_bitCount_0f7a4 wzJ6_bitCount_0f7a4) := wz_co bm_657 (wz_co bm_361 (wz_co bm_362 (wz_in bm_363)))
set_option maxHeartbeats 4000000 in
set_option maxRecDepth 100000 in
theorem c_X8_now (l : Launch) (E : zz_E) (σ : zz_S) (h0 : Nat) (what : Int32) (g0 : zz_L E h0) (hI : zz_IX σ h0) (K : zy_W) (hW : zy_XW σ (h0 + 1) K) : Met l yX8_now wzX8_now ({ frames := 5, cells := 0, slots := 0, locals := 121 }) (va_Pc [.ref h0, .int what] (zz_B E σ)) (va_Qi (fun r σ1 => zz_ch (fun a k => a = h0 + 24 ∨ a = h0 + 27 ∨ (h0 + 58 ≤ a ∧ a ≤ h0 + 67)) σ σ1 ∧ (zy_p19 K (σ (h0 + 1) 0).toInt what.toInt r)) (zz_B E) (zz_A E)) 0 0 (zz_A E) := by
  refine zz_met (cc := cX8_now) (maxL := 2) (ret := (some .int)) (by decide) rfl (Nat.le_of_ble_eq_true rfl) ?_
  intro p e s m args below meth c ls hx hb hr hts hown hlocks hml hK hP hS hl
  have hl : lv_has ls 2 [(0, .ref h0), (1, .int what)] := hl
  have hown : s.vm.findClass RX8 = some m.cls := hown
  have hi2 : ∀ w ∈ wsX20, w ∈ wzX8_now := fun w h => List.mem_cons_of_mem _ (hbw2 w h)
  have hi4 : ∀ w ∈ wsX40, w ∈ wzX8_now := fun w h => List.mem_cons_of_mem _ (hbw4 w h)
  have hi8 : ∀ w ∈ wsX80, w ∈ wzX8_now := fun w h => List.mem_cons_of_mem _ (hbw8 w h)
  have k_0 : (0 : Int32).toInt = 0 := by decide +kernel
  have k_1 : (1 : Int32).toInt = 1 := by decide +kernel
  have k_3 : (3 : Int32).toInt = 3 := by decide +kernel
  replace t0 : σ (h0 + 1) 0 = σ (h0 + 1) 0 := rfl
  replace t1 : σ (h0 + 1) 1 = σ (h0 + 1) 1 := rfl
  replace t2 : σ (h0 + 1) 4 = σ (h0 + 1) 4 := rfl
  replace t3 : σ (h0 + 1) 6 = σ (h0 + 1) 6 := rfl
  have hC : zz_ch (fun a k => a = h0 + 24 ∨ a = h0 + 27 ∨ (h0 + 58 ≤ a ∧ a ≤ h0 + 67)) σ σ := zz_ch.rf σ
  obtain ⟨⟨hh, hsl, hd, hp, htc, hwc, ht, hft, hst, hid⟩, hkI, hsh, hspk⟩ := id hI
  have hct := hW.2.1
  have hlt := hW.2.2.1
  refine lv_iload_n hx hb dX8_now_0 rfl (lv_at hl 1 rfl) ?_
  refine lv_iconst (v := 0) hx hb dX8_now_1 (by decide) ?_
  refine lv_iconst (v := 3) hx hb dX8_now_2 (by decide) ?_
  refine zz_callSp (As := [.int what, .int 0, .int 3]) (rest := []) ⟨hx, hb, hml, hown, hts⟩ hK hP hS (c_X8_within l E σ what 0 3) (va_cwS 3 hts gX8_now_X8_within rfl rfl rfl (by decide +kernel) ⟨Nat.le_of_ble_eq_true rfl, Nat.le_of_ble_eq_true rfl⟩) rfl hl.1 rfl (Nat.le_of_ble_eq_true rfl) dX8_now_3 ⟨Nat.zero_le _, Nat.zero_le _⟩ (fun r1 H locs f1 hP1 hS1 => ?_)
  replace hP := hP1
  replace hS := hS1
  clear hP1 hS1
  refine lv_if_ne (tgt := 15) hx hb dX8_now_6 (by decide) (fun c2 => ?_) (fun c2 => ?_)
  · have c2 := zz_neT c2
    refine lv_aload_n hx hb dX8_now_15 rfl (lv_at hl 0 rfl) ?_
    refine zz_getr hx hb hts hi8 hown hK hP (g0.1) rfl 6 (by decide) (hts (.fieldLink RX8 42 "NoonLaw" "sight" "LNoonLaw$Sight;") (List.mem_cons_of_mem _ bm_31)) rfl rfl dX8_now_16 ?_
    refine lv_aload_n hx hb dX8_now_19 rfl (lv_at hl 0 rfl) ?_
    refine zz_getr hx hb hts hi8 hown hK hP (g0.1) rfl 0 (by decide) (hts (.fieldLink RX8 10 "NoonLaw" "realm" "LNoonLaw$Realm;") (List.mem_cons_of_mem _ bm_16)) rfl rfl dX8_now_20 ?_
    refine lv_aload_n hx hb dX8_now_23 rfl (lv_at hl 0 rfl) ?_
    refine zz_getr hx hb hts hi8 hown hK hP (g0.1) rfl 0 (by decide) (hts (.fieldLink RX8 10 "NoonLaw" "realm" "LNoonLaw$Realm;") (List.mem_cons_of_mem _ bm_16)) rfl rfl dX8_now_24 ?_
    refine zz_geti hx hb hts hi2 hown hK hP (g0.2.1.1) rfl 0 (by decide) (hts (.fieldLink RX8 104 "NoonLaw$Realm" "hour" "I") (List.mem_cons_of_mem _ bm_166)) rfl rfl t0 dX8_now_27 ?_
    refine zz_callVv (As := [.ref (h0 + 1), .int (σ (h0 + 1) 0)]) (rest := []) ⟨hx, hb, hml, hown, hts⟩ hK hP hS (c_X4_look l E σ (h0 + 61) (h0 + 1) (σ (h0 + 1) 0) (g0.2.2.2.2.2.2.2.1) (g0.2.1) (by exact hd) (by exact ht) (by omega) (by first | omega | exact ht | (rw [t0]; omega) | (rw [t1]; omega) | (rw [t2]; omega) | (rw [t3]; omega) | (intro j hj; rw [(hC _ _ (by first | (dsimp only; omega) | omega))]; exact ht j hj)) K (by exact hW)) (cwV 2 hts gX8_now_X4_look rfl rfl rfl (by decide +kernel) ⟨Nat.le_of_ble_eq_true rfl, Nat.le_of_ble_eq_true rfl⟩) (g0.2.2.2.2.2.2.2.1.1) rfl rfl hl.1 rfl (Nat.le_of_ble_eq_true rfl) dX8_now_30 ⟨Nat.zero_le _, Nat.zero_le _⟩ (fun σ3 H locs q3 hP1 hS1 => ?_)
    replace hP := hP1
    replace hS := hS1
    clear hP1 hS1
    try dsimp only at q3
    obtain ⟨w3, f3⟩ := q3
    replace hC := hC.tr (w3.mono (dS13_1 h0))
    replace t0 : σ3 (h0 + 1) 0 = σ (h0 + 1) 0 := (w3 (h0 + 1) 0 (dS13_2 h0)).trans t0
    replace t1 : σ3 (h0 + 1) 1 = σ (h0 + 1) 1 := (w3 (h0 + 1) 1 (dS13_2 h0)).trans t1
    replace t2 : σ3 (h0 + 1) 4 = σ (h0 + 1) 4 := (w3 (h0 + 1) 4 (dS13_2 h0)).trans t2
    replace t3 : σ3 (h0 + 1) 6 = σ (h0 + 1) 6 := (w3 (h0 + 1) 6 (dS13_2 h0)).trans t3
    refine lv_iload_n hx hb dX8_now_33 rfl (lv_at hl 1 rfl) ?_
    by_cases c4 : (what).toInt = 0
    · refine lv_tableIn (off := 26) (tgt := 60) hx hb dX8_now_34 (by omega) (by omega) (by rw [show ((what).toInt - (0)).toNat = 0 from by omega]; rfl) (by decide) ?_
      refine lv_aload_n hx hb dX8_now_60 rfl (lv_at hl 0 rfl) ?_
      refine zz_getr hx hb hts hi8 hown hK hP (g0.1) rfl 6 (by decide) (hts (.fieldLink RX8 42 "NoonLaw" "sight" "LNoonLaw$Sight;") (List.mem_cons_of_mem _ bm_31)) rfl rfl dX8_now_61 ?_
      refine zz_geti hx hb hts hi4 hown hK hP (g0.2.2.2.2.2.2.2.1.1) rfl 0 (by decide) (hts (.fieldLink RX8 210 "NoonLaw$Sight" "inForce" "I") (List.mem_cons_of_mem _ bm_653)) rfl rfl rfl dX8_now_64 ?_
      exact zz_iret hx hb hr hlocks hK hP hS dX8_now_67 (by exact ⟨hC, Or.inr (Or.inl ⟨by omega, congrArg Int32.toInt f3.1⟩)⟩)
    by_cases c5 : (what).toInt = 1
    · refine lv_tableIn (off := 34) (tgt := 68) hx hb dX8_now_34 (by omega) (by omega) (by rw [show ((what).toInt - (0)).toNat = 1 from by omega]; rfl) (by decide) ?_
      refine lv_aload_n hx hb dX8_now_68 rfl (lv_at hl 0 rfl) ?_
      refine zz_getr hx hb hts hi8 hown hK hP (g0.1) rfl 6 (by decide) (hts (.fieldLink RX8 42 "NoonLaw" "sight" "LNoonLaw$Sight;") (List.mem_cons_of_mem _ bm_31)) rfl rfl dX8_now_69 ?_
      refine zz_geti hx hb hts hi4 hown hK hP (g0.2.2.2.2.2.2.2.1.1) rfl 1 (by decide) (hts (.fieldLink RX8 213 "NoonLaw$Sight" "bidden" "I") (List.mem_cons_of_mem _ bm_654)) rfl rfl rfl dX8_now_72 ?_
      exact zz_iret hx hb hr hlocks hK hP hS dX8_now_75 (by exact ⟨hC, Or.inr (Or.inr (Or.inl ⟨by omega, congrArg Int32.toInt f3.2.1⟩))⟩)
    by_cases c6 : (what).toInt = 2
    · refine lv_tableIn (off := 42) (tgt := 76) hx hb dX8_now_34 (by omega) (by omega) (by rw [show ((what).toInt - (0)).toNat = 2 from by omega]; rfl) (by decide) ?_
      refine lv_aload_n hx hb dX8_now_76 rfl (lv_at hl 0 rfl) ?_
      refine zz_getr hx hb hts hi8 hown hK hP (g0.1) rfl 6 (by decide) (hts (.fieldLink RX8 42 "NoonLaw" "sight" "LNoonLaw$Sight;") (List.mem_cons_of_mem _ bm_31)) rfl rfl dX8_now_77 ?_
      refine zz_geti hx hb hts hi4 hown hK hP (g0.2.2.2.2.2.2.2.1.1) rfl 2 (by decide) (hts (.fieldLink RX8 216 "NoonLaw$Sight" "banned" "I") (List.mem_cons_of_mem _ bm_655)) rfl rfl rfl dX8_now_80 ?_
      exact zz_iret hx hb hr hlocks hK hP hS dX8_now_83 (by exact ⟨hC, Or.inr (Or.inr (Or.inr (Or.inl ⟨by omega, congrArg Int32.toInt f3.2.2.1⟩)))⟩)
    refine lv_tableOut (tgt := 84) hx hb dX8_now_34 (by omega) (by decide) ?_
    refine lv_aload_n hx hb dX8_now_84 rfl (lv_at hl 0 rfl) ?_
    refine zz_getr hx hb hts hi8 hown hK hP (g0.1) rfl 6 (by decide) (hts (.fieldLink RX8 42 "NoonLaw" "sight" "LNoonLaw$Sight;") (List.mem_cons_of_mem _ bm_31)) rfl rfl dX8_now_85 ?_
    refine zz_geti hx hb hts hi4 hown hK hP (g0.2.2.2.2.2.2.2.1.1) rfl 3 (by decide) (hts (.fieldLink RX8 219 "NoonLaw$Sight" "disputed" "I") (List.mem_cons_of_mem _ bm_656)) rfl rfl rfl dX8_now_88 ?_
    refine zz_callSp (As := [.int (σ3 (h0 + 61) 3)]) (rest := []) ⟨hx, hb, hml, hown, hts⟩ hK hP hS (c_J6_bitCount_0f7a4 l E σ3 (σ3 (h0 + 61) 3)) (va_cwS 1 hts gX8_now_J6_bitCount_0f7a4 rfl rfl rfl (by decide +kernel) ⟨Nat.le_of_ble_eq_true rfl, Nat.le_of_ble_eq_true rfl⟩) rfl hl.1 rfl (Nat.le_of_ble_eq_true rfl) dX8_now_91 ⟨Nat.zero_le _, Nat.zero_le _⟩ (fun r7 H locs f7 hP1 hS1 => ?_)
    replace hP := hP1
    replace hS := hS1
    clear hP1 hS1
    have hz := zy_bc_pc f3.r3 f7
    exact zz_iret hx hb hr hlocks hK hP hS dX8_now_94 (by exact ⟨hC, Or.inr (Or.inr (Or.inr (Or.inr (⟨by omega, hz.trans f3.nd.1⟩))))⟩)
  · have c2 := zz_eqT c2
    refine lv_aload_n hx hb dX8_now_9 rfl (lv_at hl 0 rfl) ?_
    refine lv_iconst (v := 1) hx hb dX8_now_10 (by decide) ?_
    refine zz_callVi (As := [.int 1]) (rest := []) ⟨hx, hb, hml, hown, hts⟩ hK hP hS (c_X8_refuse l E σ h0 1 g0 (by omega)) (cwV 1 hts gX8_now_X8_refuse rfl rfl rfl (by decide +kernel) ⟨Nat.le_of_ble_eq_true rfl, Nat.le_of_ble_eq_true rfl⟩) (g0.1) rfl rfl hl.1 rfl (Nat.le_of_ble_eq_true rfl) dX8_now_11 ⟨Nat.zero_le _, Nat.zero_le _⟩ (fun r8 σ8 H locs q8 hP1 hS1 => ?_)
    replace hP := hP1
    replace hS := hS1
    clear hP1 hS1
    try dsimp only at q8
    obtain ⟨w8, f8⟩ := q8
    replace hC := hC.tr (w8.mono (dS13_7 h0))
    replace t0 : σ8 (h0 + 1) 0 = σ (h0 + 1) 0 := (w8 (h0 + 1) 0 (dS13_6 h0)).trans t0
    replace t1 : σ8 (h0 + 1) 1 = σ (h0 + 1) 1 := (w8 (h0 + 1) 1 (dS13_6 h0)).trans t1
    replace t2 : σ8 (h0 + 1) 4 = σ (h0 + 1) 4 := (w8 (h0 + 1) 4 (dS13_6 h0)).trans t2
    replace t3 : σ8 (h0 + 1) 6 = σ (h0 + 1) 6 := (w8 (h0 + 1) 6 (dS13_6 h0)).trans t3
    exact zz_iret hx hb hr hlocks hK hP hS dX8_now_14 (by exact ⟨hC, Or.inl ⟨by omega, by omega⟩⟩)
