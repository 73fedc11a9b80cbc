def k_X5_utter (l : Launch) (E : zz_E) (rk : Nat) (v : Int) : Prop := ∀ (σ : zz_S) (h0 : Nat) (vo : Int32) (fr : Int32) (x1 : Int32) (de : Int32) (g0 : zz_Sp E h0) (hl1 : 0 ≤ (σ h0 1).toInt ∧ (σ h0 1).toInt ≤ 30) (ho : de.toInt = v), Met l yX5_utter wzX5_utter (zz_rm rk) (va_Pc [.ref h0, .int vo, .int fr, .int x1, .int de] (zz_B E σ)) (va_Qi (fun r σ1 => zz_ch (fun a k => (a = h0 ∧ (k = 1 ∨ k = 2)) ∨ a = h0 + 1) σ σ1 ∧ ((0 ≤ (σ1 h0 1).toInt ∧ (σ1 h0 1).toInt ≤ 30) ∧ zz_vp σ σ1 h0 r (zz_U (20 - v).toNat (σ h0 3) (σ h0 4) (σ h0 5) vo fr x1 (σ h0 2).toInt))) (zz_B E) (zz_A E)) 0 0 (zz_A E)
def k_X5_dreamBody (l : Launch) (E : zz_E) (rk : Nat) (v : Int) : Prop := ∀ (σ : zz_S) (h0 : Nat) (nu : Int32) (x1 : Int32) (de : Int32) (g0 : zz_Sp E h0) (hl1 : 0 ≤ (σ h0 1).toInt ∧ (σ h0 1).toInt ≤ 30) (ho : de.toInt = v), Met l yX5_dreamBody wzX5_dreamBody (zz_rm rk) (va_Pc [.ref h0, .int nu, .int x1, .int de] (zz_B E σ)) (va_Qi (fun r σ1 => zz_ch (fun a k => (a = h0 ∧ (k = 1 ∨ k = 2)) ∨ a = h0 + 1) σ σ1 ∧ ((0 ≤ (σ1 h0 1).toInt ∧ (σ1 h0 1).toInt ≤ 30) ∧ zz_vp σ σ1 h0 r (zz_DB (zz_U (20 - v).toNat (σ h0 3) (σ h0 4) (σ h0 5)) (σ h0 3) (σ h0 4) (σ h0 5) nu x1 (σ h0 2).toInt))) (zz_B E) (zz_A E)) 0 0 (zz_A E)
def k_X5_ownBody (l : Launch) (E : zz_E) (rk : Nat) (v : Int) : Prop := ∀ (σ : zz_S) (h0 : Nat) (nu : Int32) (ab : Int32) (x1 : Int32) (de : Int32) (g0 : zz_Sp E h0) (hl1 : 0 ≤ (σ h0 1).toInt ∧ (σ h0 1).toInt ≤ 30) (ho : de.toInt = v), Met l yX5_ownBody wzX5_ownBody (zz_rm rk) (va_Pc [.ref h0, .int nu, .int ab, .int x1, .int de] (zz_B E σ)) (va_Qi (fun r σ1 => zz_ch (fun a k => (a = h0 ∧ (k = 1 ∨ k = 2)) ∨ a = h0 + 1) σ σ1 ∧ ((0 ≤ (σ1 h0 1).toInt ∧ (σ1 h0 1).toInt ≤ 30) ∧ zz_vp σ σ1 h0 r (zz_OB (zz_U (20 - v).toNat (σ h0 3) (σ h0 4) (σ h0 5)) (σ h0 3) (σ h0 4) (σ h0 5) nu ab x1 (σ h0 2).toInt))) (zz_B E) (zz_A E)) 0 0 (zz_A E)
set_option maxHeartbeats 4000000 in
set_option maxRecDepth 100000 in
theorem c_X5_bodyAt (l : Launch) (E : zz_E) (σ : zz_S) (kd : Int32) (vo : Int32)  : Met l yX5_bodyAt wzX5_bodyAt ({ frames := 0, cells := 0, slots := 0, locals := 0 }) (va_Pc [.int kd, .int vo] (zz_B E σ)) (va_Qi (fun r σ1 => σ1 = σ ∧ (r = zz_ba kd vo)) (zz_B E) (zz_A E)) 0 0 (zz_A E) := by
  refine zz_met (cc := cX5_bodyAt) (maxL := 3) (ret := (some .int)) (by decide) rfl (Nat.le_of_ble_eq_true rfl) ?_
  intro p e s m args below meth c ls hx hb hr hts hown hlocks hml hK hP hS hl
  have hl : lv_has ls 3 [(0, .int kd), (1, .int vo)] := hl
  have hown : s.vm.findClass RX5 = some m.cls := hown
  have k_0 : (0 : Int32).toInt = 0 := by decide +kernel
  have k_4 : (4 : Int32).toInt = 4 := by decide +kernel
  have k_28 : (28 : Int32).toInt = 28 := by decide +kernel
  refine lv_iload_n hx hb dX5_bodyAt_0 rfl (lv_at hl 0 rfl) ?_
  refine lv_iconst (v := 4) hx hb dX5_bodyAt_1 (by decide) ?_
  refine lv_imul hx hb dX5_bodyAt_2 ?_
  refine lv_topi (fun n1 e1 => ?_)
  refine lv_iload_n hx hb dX5_bodyAt_3 rfl (lv_at hl 1 rfl) ?_
  refine lv_iadd hx hb dX5_bodyAt_4 ?_
  refine lv_topi (fun n2 e2 => ?_)
  refine lv_istore_n (lv' := [(2, .int n2), (0, .int kd), (1, .int vo)]) hx hb dX5_bodyAt_5 rfl hl (by decide) rfl (fun ls hl => ?_)
  refine lv_iload_n hx hb dX5_bodyAt_6 rfl (lv_at hl 0 rfl) ?_
  refine lv_if_lt (tgt := 26) hx hb dX5_bodyAt_7 (by decide) (fun c3 => ?_) (fun c3 => ?_)
  · have c3 := zz_ltT c3
    refine lv_iconst (v := 0) hx hb dX5_bodyAt_26 (by decide) ?_
    exact zz_iret hx hb hr hlocks hK hP hS dX5_bodyAt_27 (by refine ⟨rfl, ?_⟩; unfold zz_ba; rw [← e1, ← e2, if_neg (by omega)])
  · have c3 := zz_nltT c3
    refine lv_iload_n hx hb dX5_bodyAt_10 rfl (lv_at hl 0 rfl) ?_
    refine va_getsN hx hb hK.2.1.2.1.1 hS hown (va_Nw.use rfl (hK.2.2.2.2.2.2.2)) (fun _ h9 => h9) dX5_bodyAt_11 ?_
    refine va_tlen hx hb hK.2.1.2.1.2 hS (v := 28) (by decide) dX5_bodyAt_14 ?_
    refine lv_icmp_ge (tgt := 26) hx hb dX5_bodyAt_15 (by decide) (fun c4 => ?_) (fun c4 => ?_)
    · have c4 := zz_leT c4
      refine lv_iconst (v := 0) hx hb dX5_bodyAt_26 (by decide) ?_
      exact zz_iret hx hb hr hlocks hK hP hS dX5_bodyAt_27 (by refine ⟨rfl, ?_⟩; unfold zz_ba; rw [← e1, ← e2, if_neg (by omega)])
    · have c4 := zz_nleT c4
      refine va_getsN hx hb hK.2.1.2.1.1 hS hown (va_Nw.use rfl (hK.2.2.2.2.2.2.2)) (fun _ h9 => h9) dX5_bodyAt_18 ?_
      refine lv_iload_n hx hb dX5_bodyAt_21 rfl (lv_at hl 0 rfl) ?_
      refine va_ti (v := .int (zz_vB (n2 : Int32).toNatClampNeg)) hx hb hK.2.1.2.1.2 hS (vp_in_iff.mpr ⟨by omega, by omega⟩) rfl dX5_bodyAt_22 ?_
      refine lv_topi (fun n5 e5 => ?_)
      refine lv_goto (tgt := 27) hx hb dX5_bodyAt_23 (by decide) ?_
      exact zz_iret hx hb hr hlocks hK hP hS dX5_bodyAt_27 (by refine ⟨rfl, ?_⟩; unfold zz_ba; rw [← e1, ← e2, if_pos ⟨by omega, by omega⟩, e5])
theorem dS10_1 (x0 : Nat) : ((x0) = x0 ∧ (1) = 1) ∨ (x0) = x0 + 1 := by omega
set_option maxHeartbeats 4000000 in
set_option maxRecDepth 100000 in
theorem c_X5_begin (l : Launch) (E : zz_E) (σ : zz_S) (h0 : Nat) (nu : Int32) (g0 : zz_Sp E h0) (hl1 : 0 ≤ (σ h0 1).toInt ∧ (σ h0 1).toInt ≤ 30) : Met l yX5_begin wzX5_begin ({ frames := 0, cells := 0, slots := 0, locals := 0 }) (va_Pc [.ref h0, .int nu] (zz_B E σ)) (va_Qv (fun σ1 => zz_ch (fun a k => (a = h0 ∧ k = 1) ∨ a = h0 + 1) σ σ1 ∧ ((0 ≤ (σ1 h0 1).toInt ∧ (σ1 h0 1).toInt ≤ 30) ∧ zz_tg σ σ1 (h0 + 1) h0 1 [nu.toInt])) (zz_B E) (zz_A E)) 0 0 (zz_A E) := by
  refine zz_met (cc := cX5_begin) (maxL := 2) (ret := none) (by decide) rfl (Nat.le_of_ble_eq_true rfl) ?_
  intro p e s m args below meth c ls hx hb hr hts hown hlocks hml hK hP hS hl
  have hl : lv_has ls 2 [(0, .ref h0), (1, .int nu)] := hl
  have hown : s.vm.findClass RX5 = some m.cls := hown
  have hi5 : ∀ w ∈ wsX50, w ∈ wzX5_begin := fun w h => List.mem_cons_of_mem _ (hbw5 w h)
  have k_1 : (1 : Int32).toInt = 1 := by decide +kernel
  have k_30 : (30 : Int32).toInt = 30 := by decide +kernel
  replace t0 : σ h0 1 = σ h0 1 := rfl
  have hC : zz_ch (fun a k => (a = h0 ∧ k = 1) ∨ a = h0 + 1) σ σ := zz_ch.rf σ
  refine lv_aload_n hx hb dX5_begin_0 rfl (lv_at hl 0 rfl) ?_
  refine zz_geti hx hb hts hi5 hown hK hP (g0.1) rfl 1 (by decide) (hts (.fieldLink RX5 29 "NoonLaw$Speaker" "length" "I") (List.mem_cons_of_mem _ bm_802)) rfl rfl t0 dX5_begin_1 ?_
  refine lv_bipush (v := 30) hx hb dX5_begin_4 (by decide) ?_
  refine lv_icmp_ge (tgt := 29) hx hb dX5_begin_6 (by decide) (fun c1 => ?_) (fun c1 => ?_)
  · have c1 := zz_leT c1
    exact zz_vret hx hb hr hlocks hK hP hS dX5_begin_29 (by exact ⟨hC, by rw [t0]; omega, zz_tg.full (by omega)⟩)
  · have c1 := zz_nleT c1
    refine lv_aload_n hx hb dX5_begin_9 rfl (lv_at hl 0 rfl) ?_
    refine zz_getr hx hb hts hi5 hown hK hP (g0.1) rfl 0 (by decide) (hts (.fieldLink RX5 9 "NoonLaw$Speaker" "trace" "[I") (List.mem_cons_of_mem _ bm_73)) rfl rfl dX5_begin_10 ?_
    refine lv_aload_n hx hb dX5_begin_13 rfl (lv_at hl 0 rfl) ?_
    refine zz_geti hx hb hts hi5 hown hK hP (g0.1) rfl 1 (by decide) (hts (.fieldLink RX5 29 "NoonLaw$Speaker" "length" "I") (List.mem_cons_of_mem _ bm_802)) rfl rfl t0 dX5_begin_14 ?_
    refine lv_iload_n hx hb dX5_begin_17 rfl (lv_at hl 1 rfl) ?_
    refine zz_iast hx hb hK hP hS (g0.2) (by omega) (by omega) dX5_begin_18 (fun j2 σ2 H locs q2 r2 w2 hP1 hS1 => ?_)
    replace hP := hP1
    replace hS := hS1
    clear hP1 hS1
    replace hC := hC.u w2 (by first | (dsimp only; omega) | omega | (dsimp only; done))
    replace t0 : σ2 h0 1 = σ h0 1 := (zz_w (b := h0) (j := 1) w2 (fun q9 => zz_na (a := h0) (i := 0) (j := 1) (by decide) q9.1)).trans t0
    refine lv_aload_n hx hb dX5_begin_19 rfl (lv_at hl 0 rfl) ?_
    refine lv_dup hx hb dX5_begin_20 rfl ?_
    refine zz_geti hx hb hts hi5 hown hK hP (g0.1) rfl 1 (by decide) (hts (.fieldLink RX5 29 "NoonLaw$Speaker" "length" "I") (List.mem_cons_of_mem _ bm_802)) rfl rfl t0 dX5_begin_21 ?_
    refine lv_iconst (v := 1) hx hb dX5_begin_24 (by decide) ?_
    refine lv_iadd hx hb dX5_begin_25 ?_
    refine lv_topi (fun n3 e3 => ?_)
    have f3 : n3.toInt = (σ h0 1).toInt + (1 : Int32).toInt := zz_addT e3 (by omega) (by omega)
    refine zz_puti (v := n3) (ty := .int) hx hb hts hi5 tyX5 tyX5_ok nmX5 hown hK hP hS (g0.1) rfl 1 (by decide) (hts (.fieldLink RX5 29 "NoonLaw$Speaker" "length" "I") (List.mem_cons_of_mem _ bm_802)) rfl rfl (by decide +kernel) rfl rfl rfl dX5_begin_26 (fun σ4 H locs w4 hP1 hS1 => ?_)
    replace hP := hP1
    replace hS := hS1
    clear hP1 hS1
    replace hC := hC.u w4 (dS10_1 h0)
    replace t0 : σ4 h0 1 = n3 := zz_w1 w4
    exact zz_vret hx hb hr hlocks hK hP hS dX5_begin_29 (by exact ⟨hC, by rw [t0]; omega, zz_tg.begin w2 w4 (by omega) (by omega) (by omega) (by omega)⟩)
theorem gX5_utter_X5_bodyAt : GoodIn wzX5_utter (va_wsS RX5 40 yX5_bodyAt wzX5_bodyAt) := wz_co bm_808 (wz_co bm_809 (wz_co bm_22 (wz_in bm_810)))
theorem gX5_utter_X8_above_n44 : GoodIn wzX5_utter (wzX8_above) := wz_in bm_291
theorem gX5_utter_X5_begin : GoodIn wzX5_utter (wsV RX5 48 RX5 yX5_begin wzX5_begin) := wz_co bm_811 (wz_co bm_812 (wz_co bm_813 (wz_co bm_22 (wz_in bm_814))))
theorem gX5_utter_X5_dreamBody : GoodIn wzX5_utter (wsV RX5 52 RX5 yX5_dreamBody wzX5_dreamBody) := wz_co bm_815 (wz_co bm_816 (wz_co bm_817 (wz_co bm_22 (wz_in bm_821))))
theorem gX5_utter_X5_ownBody : GoodIn wzX5_utter (wsV RX5 56 RX5 yX5_ownBody wzX5_ownBody) := wz_co bm_818 (wz_co bm_819 (wz_co bm_820 (wz_co bm_22 (wz_in bm_822))))
theorem dS10_2 (x0 : Nat) : ∀ a k : Nat, ((a = (x0) ∧ k = 1) ∨ a = (x0) + 1) → ((a = x0 ∧ (k = 1 ∨ k = 2)) ∨ a = x0 + 1) := by intro a k h; omega
theorem dS10_3 (x0 : Nat) : ¬ (((x0) = (x0) ∧ (2) = 1) ∨ (x0) = (x0) + 1) := by omega
theorem dS10_4 (x0 : Nat) : ¬ (((x0) = (x0) ∧ (3) = 1) ∨ (x0) = (x0) + 1) := by omega
theorem dS10_5 (x0 : Nat) : ¬ (((x0) = (x0) ∧ (4) = 1) ∨ (x0) = (x0) + 1) := by omega
theorem dS10_6 (x0 : Nat) : ¬ (((x0) = (x0) ∧ (5) = 1) ∨ (x0) = (x0) + 1) := by omega
theorem dS10_7 (x0 : Nat) : ∀ a k : Nat, ((a = (x0) ∧ (k = 1 ∨ k = 2)) ∨ a = (x0) + 1) → ((a = x0 ∧ (k = 1 ∨ k = 2)) ∨ a = x0 + 1) := by intro a k h; omega
theorem dS10_8 (x0 : Nat) : ¬ (((x0) = (x0) ∧ ((3) = 1 ∨ (3) = 2)) ∨ (x0) = (x0) + 1) := by omega
theorem dS10_9 (x0 : Nat) : ¬ (((x0) = (x0) ∧ ((4) = 1 ∨ (4) = 2)) ∨ (x0) = (x0) + 1) := by omega
theorem dS10_10 (x0 : Nat) : ¬ (((x0) = (x0) ∧ ((5) = 1 ∨ (5) = 2)) ∨ (x0) = (x0) + 1) := by omega
set_option maxHeartbeats 4000000 in
set_option maxRecDepth 100000 in
theorem g_X5_utter (l : Launch) (E : zz_E) (rk : Nat) (v : Int) (h05 : 0 ≤ v ∧ v ≤ 20) (HD : v < 20 → ∃ nc : Nat, nc < rk ∧ k_X5_dreamBody l E nc (v + 1)) (HO : v < 20 → ∃ nc : Nat, nc < rk ∧ k_X5_ownBody l E nc (v + 1)) : k_X5_utter l E rk v := by
  intro σ h0 vo fr x1 de g0 hl1 ho
  refine zz_met (cc := cX5_utter) (maxL := 7) (ret := (some .int)) (by decide) rfl (Nat.le_of_ble_eq_true rfl) ?_
  intro p e s m args below meth c ls hx hb hr hts hown hlocks hml hK hP hS hl
  have hl : lv_has ls 7 [(0, .ref h0), (1, .int vo), (2, .int fr), (3, .int x1), (4, .int de)] := hl
  have hown : s.vm.findClass RX5 = some m.cls := hown
  have hi5 : ∀ w ∈ wsX50, w ∈ wzX5_utter := fun w h => List.mem_cons_of_mem _ (hbw5 w h)
  have k_0 : (0 : Int32).toInt = 0 := by decide +kernel
  have k_1 : (1 : Int32).toInt = 1 := by decide +kernel
  have k_7 : (7 : Int32).toInt = 7 := by decide +kernel
  have k_20 : (20 : Int32).toInt = 20 := by decide +kernel
  replace t0 : σ h0 1 = σ h0 1 := rfl
  replace t1 : σ h0 2 = σ h0 2 := rfl
  replace t2 : σ h0 3 = σ h0 3 := rfl
  replace t3 : σ h0 4 = σ h0 4 := rfl
  replace t4 : σ h0 5 = σ h0 5 := rfl
  have hC : zz_ch (fun a k => (a = h0 ∧ (k = 1 ∨ k = 2)) ∨ a = h0 + 1) σ σ := zz_ch.rf σ
  refine lv_iload_n hx hb dX5_utter_0 rfl (lv_at hl 2 rfl) ?_
  refine lv_istore (lv' := [(5, .int fr), (0, .ref h0), (1, .int vo), (2, .int fr), (3, .int x1), (4, .int de)]) hx hb dX5_utter_1 hl (by decide) rfl (fun ls hl => ?_)
  have J40 : ∀ (ow : Int32) (H : Heap) (locs : List Loc) (ls : Array Slot),  (zz_ow 7 vo fr = ow) → zz_P E σ H → va_S (zz_A E) s.heap H locs → lv_has ls 7 [(5, .int ow), (0, .ref h0), (1, .int vo), (2, .int fr), (3, .int x1), (4, .int de)] → W p l e (headSpec wzX5_utter (zz_rm rk)).room s m args below meth c H locs 0 0 (MQ below (va_Qi (fun r σ1 => zz_ch (fun a k => (a = h0 ∧ (k = 1 ∨ k = 2)) ∨ a = h0 + 1) σ σ1 ∧ ((0 ≤ (σ1 h0 1).toInt ∧ (σ1 h0 1).toInt ≤ 30) ∧ zz_vp σ σ1 h0 r (zz_U (20 - v).toNat (σ h0 3) (σ h0 4) (σ h0 5) vo fr x1 (σ h0 2).toInt))) (zz_B E) (zz_A E)) args s 0 0 (zz_A E)) (F0 m 40 ls []) := by
    intro ow H locs ls f40_0 hP hS hl
    refine lv_iload hx hb dX5_utter_40 (lv_at hl 0 rfl) ?_
    refine lv_if_lt (tgt := 59) hx hb dX5_utter_42 (by decide) (fun c1 => ?_) (fun c1 => ?_)
    · have c1 := zz_ltT c1
      refine lv_iconst (v := 0) hx hb dX5_utter_59 (by decide) ?_
      exact zz_iret hx hb hr hlocks hK hP hS dX5_utter_60 (by exact ⟨hC, by rw [t0]; omega, by rw [zz_U_stop (by rw [f40_0]; omega)]; exact ⟨rfl, zz_tg.rf _ _ _ _, rfl⟩⟩)
    · have c1 := zz_nltT c1
      refine lv_aload_n hx hb dX5_utter_45 rfl (lv_at hl 1 rfl) ?_
      refine zz_geti hx hb hts hi5 hown hK hP (g0.1) rfl 2 (by decide) (hts (.fieldLink RX5 32 "NoonLaw$Speaker" "parted" "Z") (List.mem_cons_of_mem _ bm_803)) rfl rfl t1 dX5_utter_46 ?_
      refine lv_if_ne (tgt := 59) hx hb dX5_utter_49 (by decide) (fun c2 => ?_) (fun c2 => ?_)
      · have c2 := zz_neT c2
        refine lv_iconst (v := 0) hx hb dX5_utter_59 (by decide) ?_
        exact zz_iret hx hb hr hlocks hK hP hS dX5_utter_60 (by exact ⟨hC, by rw [t0]; omega, by rw [zz_U_stop (by rw [f40_0]; omega)]; exact ⟨rfl, zz_tg.rf _ _ _ _, rfl⟩⟩)
      · have c2 := zz_eqT c2
        refine lv_iload hx hb dX5_utter_52 (lv_at hl 5 rfl) ?_
        refine lv_bipush (v := 20) hx hb dX5_utter_54 (by decide) ?_
        refine lv_icmp_lt (tgt := 61) hx hb dX5_utter_56 (by decide) (fun c3 => ?_) (fun c3 => ?_)
        · have c3 := zz_ltT c3
          refine lv_iload hx hb dX5_utter_61 (lv_at hl 0 rfl) ?_
          refine lv_iload_n hx hb dX5_utter_63 rfl (lv_at hl 2 rfl) ?_
          refine zz_callSp (As := [.int ow, .int vo]) (rest := []) ⟨hx, hb, hml, hown, hts⟩ hK hP hS (c_X5_bodyAt l E σ ow vo) (va_cwS 2 hts gX5_utter_X5_bodyAt rfl rfl rfl (by decide +kernel) ⟨by show 0 + 1 ≤ 10 + rk; omega, by show 8 + (3 + 11) + 0 ≤ 300 + 60 * rk; omega⟩) rfl hl.1 rfl (Nat.le_of_ble_eq_true rfl) dX5_utter_64 ⟨Nat.zero_le _, Nat.zero_le _⟩ (fun r4 H locs f4 hP1 hS1 => ?_)
          replace hP := hP1
          replace hS := hS1
          clear hP1 hS1
          skip
          refine lv_istore (lv' := [(6, .int r4), (5, .int ow), (0, .ref h0), (1, .int vo), (2, .int fr), (3, .int x1), (4, .int de)]) hx hb dX5_utter_67 hl (by decide) rfl (fun ls hl => ?_)
          refine lv_aload_n hx hb dX5_utter_69 rfl (lv_at hl 2 rfl) ?_
          refine lv_iload hx hb dX5_utter_70 (lv_at hl 0 rfl) ?_
          refine zz_callVv (As := [.int r4]) (rest := []) ⟨hx, hb, hml, hown, hts⟩ hK hP hS (c_X5_begin l E σ h0 r4 g0 (by first | omega | (rw [t0]; omega))) (cwV 1 hts gX5_utter_X5_begin rfl rfl rfl (by decide +kernel) ⟨by show 0 + 1 ≤ 10 + rk; omega, by show 8 + (2 + 11) + 0 ≤ 300 + 60 * rk; omega⟩) (g0.1) rfl rfl hl.1 rfl (Nat.le_of_ble_eq_true rfl) dX5_utter_72 ⟨Nat.zero_le _, Nat.zero_le _⟩ (fun σ5 H locs q5 hP1 hS1 => ?_)
          replace hP := hP1
          replace hS := hS1
          clear hP1 hS1
          try dsimp only at q5
          obtain ⟨w5, f5⟩ := q5
          replace hC := hC.tr (w5.mono (dS10_2 h0))
          replace t0 : σ5 h0 1 = σ5 h0 1 := rfl
          replace t1 : σ5 h0 2 = σ h0 2 := (w5 h0 2 (dS10_3 h0)).trans t1
          replace t2 : σ5 h0 3 = σ h0 3 := (w5 h0 3 (dS10_4 h0)).trans t2
          replace t3 : σ5 h0 4 = σ h0 4 := (w5 h0 4 (dS10_5 h0)).trans t3
          replace t4 : σ5 h0 5 = σ h0 5 := (w5 h0 5 (dS10_6 h0)).trans t4
          refine lv_iload hx hb dX5_utter_75 (lv_at hl 0 rfl) ?_
          refine lv_bipush (v := 20) hx hb dX5_utter_77 (by decide) ?_
          refine lv_icmp_ge (tgt := 96) hx hb dX5_utter_79 (by decide) (fun c6 => ?_) (fun c6 => ?_)
          · have c6 := zz_leT c6
            refine lv_aload_n hx hb dX5_utter_96 rfl (lv_at hl 2 rfl) ?_
            refine lv_iload hx hb dX5_utter_97 (lv_at hl 0 rfl) ?_
            refine lv_iload hx hb dX5_utter_99 (lv_at hl 1 rfl) ?_
            refine zz_callNp (As := [.int ow]) (rest := [.int r4, .ref h0]) ⟨hx, hb, hml, hown, hts⟩ hK hP hS (c_X8_above l E σ5 ow) ⟨va_cnB 1 hts gX5_utter_X8_above_n44 rfl rfl rfl (hK.2.2.2.2.2.1) (hts (.initialized RX8) (List.mem_cons_of_mem _ bm_2)) (by decide +kernel) ⟨by show 1 + 1 ≤ 10 + rk; omega, by show 8 + (1 + 11) + 22 ≤ 300 + 60 * rk; omega⟩, hts (.static yX8_above) (by decide +kernel), trivial⟩ rfl hl.1 rfl (Nat.le_of_ble_eq_true rfl) dX5_utter_101 ⟨Nat.zero_le _, Nat.zero_le _⟩ (fun r7 H locs f7 hP1 hS1 => ?_)
            replace hP := hP1
            replace hS := hS1
            clear hP1 hS1
            refine lv_iload_n hx hb dX5_utter_104 rfl (lv_at hl 5 rfl) ?_
            refine lv_iload hx hb dX5_utter_105 (lv_at hl 6 rfl) ?_
            refine lv_iconst (v := 1) hx hb dX5_utter_107 (by decide) ?_
            refine lv_iadd hx hb dX5_utter_108 ?_
            refine lv_topi (fun n8 e8 => ?_)
            have f8 : n8.toInt = (de).toInt + (1 : Int32).toInt := zz_addT e8 (by omega) (by omega)
            skip
            obtain ⟨nc9, hc9, C9⟩ := HO (by first | trivial | omega)
            refine zz_callVi (As := [.int r4, .int r7, .int x1, .int n8]) (rest := []) ⟨hx, hb, hml, hown, hts⟩ hK hP hS (C9 σ5 h0 r4 r7 x1 n8 g0 (by first | omega | (rw [t0]; omega)) (by first | omega | (rw [t0]; omega))) (cwV 4 hts gX5_utter_X5_ownBody rfl rfl rfl (by decide +kernel) ⟨by show 10 + nc9 + 1 ≤ 10 + rk; omega, by show 8 + (5 + 11) + (300 + 60 * nc9) ≤ 300 + 60 * rk; omega⟩) (g0.1) rfl rfl hl.1 rfl (Nat.le_of_ble_eq_true rfl) dX5_utter_109 ⟨Nat.zero_le _, Nat.zero_le _⟩ (fun r9 σ9 H locs q9 hP1 hS1 => ?_)
            replace hP := hP1
            replace hS := hS1
            clear hP1 hS1
            try dsimp only at q9
            obtain ⟨w9, f9⟩ := q9
            replace hC := hC.tr (w9.mono (dS10_7 h0))
            try simp only [t1, t2, t3, t4] at f9
            replace t0 : σ9 h0 1 = σ9 h0 1 := rfl
            replace t1 : σ9 h0 2 = σ9 h0 2 := rfl
            replace t2 : σ9 h0 3 = σ h0 3 := (w9 h0 3 (dS10_8 h0)).trans t2
            replace t3 : σ9 h0 4 = σ h0 4 := (w9 h0 4 (dS10_9 h0)).trans t3
            replace t4 : σ9 h0 5 = σ h0 5 := (w9 h0 5 (dS10_10 h0)).trans t4
            have hu : (20 - v).toNat = (20 - (v + 1)).toNat + 1 := by omega
            exact zz_iret hx hb hr hlocks hK hP hS dX5_utter_112 (by exact ⟨hC, by rw [t0]; omega, by rw [zz_U_O (b := r4) (ab := r7) hu (by rw [f40_0]; omega) (by omega) (by rw [f40_0]; exact f4.symm) (by omega) (by rw [f40_0]; exact f7.1.symm)]; exact ⟨f9.2.1, f5.2.tr f9.2.2.1, f9.2.2.2⟩⟩)
          · have c6 := zz_nleT c6
            refine lv_aload_n hx hb dX5_utter_82 rfl (lv_at hl 2 rfl) ?_
            refine lv_iload hx hb dX5_utter_83 (lv_at hl 0 rfl) ?_
            refine lv_iload_n hx hb dX5_utter_85 rfl (lv_at hl 5 rfl) ?_
            refine lv_iload hx hb dX5_utter_86 (lv_at hl 6 rfl) ?_
            refine lv_iconst (v := 1) hx hb dX5_utter_88 (by decide) ?_
            refine lv_iadd hx hb dX5_utter_89 ?_
            refine lv_topi (fun n10 e10 => ?_)
            have f10 : n10.toInt = (de).toInt + (1 : Int32).toInt := zz_addT e10 (by omega) (by omega)
            obtain ⟨nc11, hc11, C11⟩ := HD (by first | trivial | omega)
            refine zz_callVi (As := [.int r4, .int x1, .int n10]) (rest := []) ⟨hx, hb, hml, hown, hts⟩ hK hP hS (C11 σ5 h0 r4 x1 n10 g0 (by first | omega | (rw [t0]; omega)) (by first | omega | (rw [t0]; omega))) (cwV 3 hts gX5_utter_X5_dreamBody rfl rfl rfl (by decide +kernel) ⟨by show 10 + nc11 + 1 ≤ 10 + rk; omega, by show 8 + (5 + 11) + (300 + 60 * nc11) ≤ 300 + 60 * rk; omega⟩) (g0.1) rfl rfl hl.1 rfl (Nat.le_of_ble_eq_true rfl) dX5_utter_90 ⟨Nat.zero_le _, Nat.zero_le _⟩ (fun r11 σ11 H locs q11 hP1 hS1 => ?_)
            replace hP := hP1
            replace hS := hS1
            clear hP1 hS1
            try dsimp only at q11
            obtain ⟨w11, f11⟩ := q11
            replace hC := hC.tr (w11.mono (dS10_7 h0))
            try simp only [t1, t2, t3, t4] at f11
            replace t0 : σ11 h0 1 = σ11 h0 1 := rfl
            replace t1 : σ11 h0 2 = σ11 h0 2 := rfl
            replace t2 : σ11 h0 3 = σ h0 3 := (w11 h0 3 (dS10_8 h0)).trans t2
            replace t3 : σ11 h0 4 = σ h0 4 := (w11 h0 4 (dS10_9 h0)).trans t3
            replace t4 : σ11 h0 5 = σ h0 5 := (w11 h0 5 (dS10_10 h0)).trans t4
            refine lv_goto (tgt := 112) hx hb dX5_utter_93 (by decide) ?_
            have hu : (20 - v).toNat = (20 - (v + 1)).toNat + 1 := by omega
            exact zz_iret hx hb hr hlocks hK hP hS dX5_utter_112 (by exact ⟨hC, by rw [t0]; omega, by rw [zz_U_D (b := r4) hu (by rw [f40_0]; omega) (by omega) (by rw [f40_0]; exact f4.symm) (by omega)]; exact ⟨f11.2.1, f5.2.tr f11.2.2.1, f11.2.2.2⟩⟩)
        · have c3 := zz_nltT c3
          refine lv_iconst (v := 0) hx hb dX5_utter_59 (by decide) ?_
          exact zz_iret hx hb hr hlocks hK hP hS dX5_utter_60 (by exact ⟨hC, by rw [t0]; omega, by rw [zz_U_stop (by rw [f40_0]; omega)]; exact ⟨rfl, zz_tg.rf _ _ _ _, rfl⟩⟩)
  refine lv_iconst (v := 0) hx hb dX5_utter_3 (by decide) ?_
  refine lv_istore (lv' := [(6, .int 0), (5, .int fr), (0, .ref h0), (1, .int vo), (2, .int fr), (3, .int x1), (4, .int de)]) hx hb dX5_utter_4 hl (by decide) rfl (fun ls hl => ?_)
  have J6 : ∀ (n : Nat) (ow : Int32) (ii : Int32) (H : Heap) (locs : List Loc) (ls : Array Slot), ((7 - ii.toInt).toNat) < n → (0 ≤ ii.toInt) → (zz_ow (7 - ii.toInt).toNat vo ow = zz_ow 7 vo fr) → zz_P E σ H → va_S (zz_A E) s.heap H locs → lv_has ls 7 [(6, .int ii), (5, .int ow), (0, .ref h0), (1, .int vo), (2, .int fr), (3, .int x1), (4, .int de)] → W p l e (headSpec wzX5_utter (zz_rm rk)).room s m args below meth c H locs 0 0 (MQ below (va_Qi (fun r σ1 => zz_ch (fun a k => (a = h0 ∧ (k = 1 ∨ k = 2)) ∨ a = h0 + 1) σ σ1 ∧ ((0 ≤ (σ1 h0 1).toInt ∧ (σ1 h0 1).toInt ≤ 30) ∧ zz_vp σ σ1 h0 r (zz_U (20 - v).toNat (σ h0 3) (σ h0 4) (σ h0 5) vo fr x1 (σ h0 2).toInt))) (zz_B E) (zz_A E)) args s 0 0 (zz_A E)) (F0 m 6 ls []) := by
    intro n
    induction n with
    | zero => intro ow ii H locs ls hm; exact absurd hm (Nat.not_lt_zero _)
    | succ n ih6 =>
      intro ow ii H locs ls hm f6_0 f6_1 hP hS hl
      refine lv_iload hx hb dX5_utter_6 (lv_at hl 0 rfl) ?_
      refine lv_bipush (v := 7) hx hb dX5_utter_8 (by decide) ?_
      refine lv_icmp_ge (tgt := 40) hx hb dX5_utter_10 (by decide) (fun c12 => ?_) (fun c12 => ?_)
      · have c12 := zz_leT c12
        exact J40 ow _ _ _ (by rw [← f6_1, show (7 - ii.toInt).toNat = 0 from by omega]; rfl) hP hS (lv_sub hl [1, 2, 3, 4, 5, 6] rfl)
      · have c12 := zz_nleT c12
        skip
        refine lv_iload hx hb dX5_utter_13 (lv_at hl 1 rfl) ?_
        refine lv_if_lt (tgt := 40) hx hb dX5_utter_15 (by decide) (fun c13 => ?_) (fun c13 => ?_)
        · have c13 := zz_ltT c13
          exact J40 ow _ _ _ (by rw [← f6_1]; exact zz_ow_stop (Or.inl (by omega)) _) hP hS (lv_sub hl [1, 2, 3, 4, 5, 6] rfl)
        · have c13 := zz_nltT c13
          refine lv_iload hx hb dX5_utter_18 (lv_at hl 1 rfl) ?_
          refine lv_iload_n hx hb dX5_utter_20 rfl (lv_at hl 3 rfl) ?_
          refine zz_callSp (As := [.int ow, .int vo]) (rest := []) ⟨hx, hb, hml, hown, hts⟩ hK hP hS (c_X5_bodyAt l E σ ow vo) (va_cwS 2 hts gX5_utter_X5_bodyAt rfl rfl rfl (by decide +kernel) ⟨by show 0 + 1 ≤ 10 + rk; omega, by show 8 + (3 + 11) + 0 ≤ 300 + 60 * rk; omega⟩) rfl hl.1 rfl (Nat.le_of_ble_eq_true rfl) dX5_utter_21 ⟨Nat.zero_le _, Nat.zero_le _⟩ (fun r14 H locs f14 hP1 hS1 => ?_)
          replace hP := hP1
          replace hS := hS1
          clear hP1 hS1
          skip
          refine lv_if_ne (tgt := 40) hx hb dX5_utter_24 (by decide) (fun c15 => ?_) (fun c15 => ?_)
          · have c15 := zz_neT c15
            exact J40 ow _ _ _ (by rw [← f6_1]; exact zz_ow_stop (Or.inr (by rw [← f14]; omega)) _) hP hS (lv_sub hl [1, 2, 3, 4, 5, 6] rfl)
          · have c15 := zz_eqT c15
            refine lv_iload hx hb dX5_utter_27 (lv_at hl 1 rfl) ?_
            refine zz_callNp (As := [.int ow]) (rest := []) ⟨hx, hb, hml, hown, hts⟩ hK hP hS (c_X8_above l E σ ow) ⟨va_cnB 1 hts gX5_utter_X8_above_n44 rfl rfl rfl (hK.2.2.2.2.2.1) (hts (.initialized RX8) (List.mem_cons_of_mem _ bm_2)) (by decide +kernel) ⟨by show 1 + 1 ≤ 10 + rk; omega, by show 8 + (1 + 11) + 22 ≤ 300 + 60 * rk; omega⟩, hts (.static yX8_above) (by decide +kernel), trivial⟩ rfl hl.1 rfl (Nat.le_of_ble_eq_true rfl) dX5_utter_29 ⟨Nat.zero_le _, Nat.zero_le _⟩ (fun r16 H locs f16 hP1 hS1 => ?_)
            replace hP := hP1
            replace hS := hS1
            clear hP1 hS1
            refine lv_istore (lv' := [(5, .int r16), (6, .int ii), (0, .ref h0), (1, .int vo), (2, .int fr), (3, .int x1), (4, .int de)]) hx hb dX5_utter_32 hl (by decide) rfl (fun ls hl => ?_)
            obtain ⟨n17, e17⟩ : ∃ y : Int32, y = ii + 1 := ⟨_, rfl⟩
            have f17 : n17.toInt = (ii).toInt + (1) := by have h9 := zz_addT e17 (by omega) (by omega); omega
            refine lv_iinc (v := n17) (lv' := [(6, .int n17), (5, .int r16), (0, .ref h0), (1, .int vo), (2, .int fr), (3, .int x1), (4, .int de)]) hx hb dX5_utter_34 hl (k := 1) rfl (by rw [e17]; rfl) (by decide) rfl (fun ls hl => ?_)
            refine lv_goto (tgt := 6) hx hb dX5_utter_37 (by decide) ?_
            exact ih6 r16 n17 _ _ _ (by omega) (by first | omega | (rw [t0]; omega)) (by rw [← f6_1, zz_ow_up (vo := vo) (n := (7 - ii.toInt).toNat) (m := (7 - n17.toInt).toNat) (by omega) (by rw [← f14]; omega) (by omega), f16.1]) hP hS (lv_sub hl [0, 1, 2, 3, 4, 5, 6] rfl)
  exact J6 _ fr 0 _ _ _ (Nat.lt_succ_self _) (by first | omega | (rw [t0]; omega)) (by rw [show (7 - (0 : Int32).toInt).toNat = 7 from by decide]) hP hS (lv_sub hl [0, 1, 2, 3, 4, 5, 6] rfl)
theorem gX5_dreamBody_X5_utter : GoodIn wzX5_dreamBody (wsV RX5 36 RX5 yX5_utter wzX5_utter) := wz_co bm_804 (wz_co bm_805 (wz_co bm_806 (wz_co bm_22 (wz_in bm_807))))
theorem dS10_11 (x0 : Nat) : ((x0) = x0 ∧ ((2) = 1 ∨ (2) = 2)) ∨ (x0) = x0 + 1 := by omega
set_option maxHeartbeats 4000000 in
set_option maxRecDepth 100000 in
theorem g_X5_dreamBody (l : Launch) (E : zz_E) (rk : Nat) (v : Int) (HU : True → ∃ nc : Nat, nc < rk ∧ k_X5_utter l E nc v) : k_X5_dreamBody l E rk v := by
  intro σ h0 nu x1 de g0 hl1 ho
  refine zz_met (cc := cX5_dreamBody) (maxL := 5) (ret := (some .int)) (by decide) rfl (Nat.le_of_ble_eq_true rfl) ?_
  intro p e s m args below meth c ls hx hb hr hts hown hlocks hml hK hP hS hl
  have hl : lv_has ls 5 [(0, .ref h0), (1, .int nu), (2, .int x1), (3, .int de)] := hl
  have hown : s.vm.findClass RX5 = some m.cls := hown
  have hi5 : ∀ w ∈ wsX50, w ∈ wzX5_dreamBody := fun w h => List.mem_cons_of_mem _ (hbw5 w h)
  have k_0 : (0 : Int32).toInt = 0 := by decide +kernel
  have k_1 : (1 : Int32).toInt = 1 := by decide +kernel
  have k_2 : (2 : Int32).toInt = 2 := by decide +kernel
  replace t0 : σ h0 1 = σ h0 1 := rfl
  replace t1 : σ h0 2 = σ h0 2 := rfl
  replace t2 : σ h0 3 = σ h0 3 := rfl
  replace t3 : σ h0 4 = σ h0 4 := rfl
  replace t4 : σ h0 5 = σ h0 5 := rfl
  have hC : zz_ch (fun a k => (a = h0 ∧ (k = 1 ∨ k = 2)) ∨ a = h0 + 1) σ σ := zz_ch.rf σ
  refine lv_iload_n hx hb dX5_dreamBody_0 rfl (lv_at hl 1 rfl) ?_
  by_cases c1 : (nu).toInt = 10
  · refine lv_tableIn (off := 27) (tgt := 28) hx hb dX5_dreamBody_1 (by omega) (by omega) (by rw [show ((nu).toInt - (10)).toNat = 0 from by omega]; rfl) (by decide) ?_
    refine lv_iload_n hx hb dX5_dreamBody_28 rfl (lv_at hl 2 rfl) ?_
    refine lv_aload_n hx hb dX5_dreamBody_29 rfl (lv_at hl 0 rfl) ?_
    refine zz_geti hx hb hts hi5 hown hK hP (g0.1) rfl 5 (by decide) (hts (.fieldLink RX5 26 "NoonLaw$Speaker" "k" "I") (List.mem_cons_of_mem _ bm_801)) rfl rfl t4 dX5_dreamBody_30 ?_
    refine lv_iadd hx hb dX5_dreamBody_33 ?_
    refine lv_topi (fun n2 e2 => ?_)
    exact zz_iret hx hb hr hlocks hK hP hS dX5_dreamBody_34 (by exact ⟨hC, by rw [t0]; omega, by unfold zz_DB; rw [if_pos (by omega)]; exact ⟨e2, zz_tg.rf _ _ _ _, rfl⟩⟩)
  by_cases c3 : (nu).toInt = 11
  · refine lv_tableIn (off := 34) (tgt := 35) hx hb dX5_dreamBody_1 (by omega) (by omega) (by rw [show ((nu).toInt - (10)).toNat = 1 from by omega]; rfl) (by decide) ?_
    refine lv_aload_n hx hb dX5_dreamBody_35 rfl (lv_at hl 0 rfl) ?_
    refine lv_iconst (v := 0) hx hb dX5_dreamBody_36 (by decide) ?_
    refine lv_aload_n hx hb dX5_dreamBody_37 rfl (lv_at hl 0 rfl) ?_
    refine zz_geti hx hb hts hi5 hown hK hP (g0.1) rfl 3 (by decide) (hts (.fieldLink RX5 21 "NoonLaw$Speaker" "kind" "I") (List.mem_cons_of_mem _ bm_798)) rfl rfl t2 dX5_dreamBody_38 ?_
    refine lv_iload_n hx hb dX5_dreamBody_41 rfl (lv_at hl 2 rfl) ?_
    refine lv_iload_n hx hb dX5_dreamBody_42 rfl (lv_at hl 3 rfl) ?_
    obtain ⟨nc4, hc4, C4⟩ := HU (by first | trivial | omega)
    refine zz_callVi (As := [.int 0, .int (σ h0 3), .int x1, .int de]) (rest := []) ⟨hx, hb, hml, hown, hts⟩ hK hP hS (C4 σ h0 0 (σ h0 3) x1 de g0 (by first | omega | (rw [t0]; omega)) (by first | omega | (rw [t0]; omega))) (cwV 4 hts gX5_dreamBody_X5_utter rfl rfl rfl (by decide +kernel) ⟨by show 10 + nc4 + 1 ≤ 10 + rk; omega, by show 8 + (7 + 11) + (300 + 60 * nc4) ≤ 300 + 60 * rk; omega⟩) (g0.1) rfl rfl hl.1 rfl (Nat.le_of_ble_eq_true rfl) dX5_dreamBody_43 ⟨Nat.zero_le _, Nat.zero_le _⟩ (fun r4 σ4 H locs q4 hP1 hS1 => ?_)
    replace hP := hP1
    replace hS := hS1
    clear hP1 hS1
    try dsimp only at q4
    obtain ⟨w4, f4⟩ := q4
    replace hC := hC.tr (w4.mono (dS10_7 h0))
    replace t0 : σ4 h0 1 = σ4 h0 1 := rfl
    replace t1 : σ4 h0 2 = σ4 h0 2 := rfl
    replace t2 : σ4 h0 3 = σ h0 3 := (w4 h0 3 (dS10_8 h0)).trans t2
    replace t3 : σ4 h0 4 = σ h0 4 := (w4 h0 4 (dS10_9 h0)).trans t3
    replace t4 : σ4 h0 5 = σ h0 5 := (w4 h0 5 (dS10_10 h0)).trans t4
    refine lv_iconst (v := 2) hx hb dX5_dreamBody_46 (by decide) ?_
    refine lv_imul hx hb dX5_dreamBody_47 ?_
    refine lv_topi (fun n5 e5 => ?_)
    exact zz_iret hx hb hr hlocks hK hP hS dX5_dreamBody_48 (by exact ⟨hC, by rw [t0]; omega, by unfold zz_DB; rw [if_neg (by omega), if_pos (by omega)]; exact ⟨by rw [e5, f4.2.1], f4.2.2.1, f4.2.2.2⟩⟩)
  by_cases c6 : (nu).toInt = 12
  · refine lv_tableIn (off := 48) (tgt := 49) hx hb dX5_dreamBody_1 (by omega) (by omega) (by rw [show ((nu).toInt - (10)).toNat = 2 from by omega]; rfl) (by decide) ?_
    refine lv_aload_n hx hb dX5_dreamBody_49 rfl (lv_at hl 0 rfl) ?_
    refine lv_iconst (v := 1) hx hb dX5_dreamBody_50 (by decide) ?_
    refine lv_aload_n hx hb dX5_dreamBody_51 rfl (lv_at hl 0 rfl) ?_
    refine zz_geti hx hb hts hi5 hown hK hP (g0.1) rfl 3 (by decide) (hts (.fieldLink RX5 21 "NoonLaw$Speaker" "kind" "I") (List.mem_cons_of_mem _ bm_798)) rfl rfl t2 dX5_dreamBody_52 ?_
    refine lv_iload_n hx hb dX5_dreamBody_55 rfl (lv_at hl 2 rfl) ?_
    refine lv_iload_n hx hb dX5_dreamBody_56 rfl (lv_at hl 3 rfl) ?_
    obtain ⟨nc7, hc7, C7⟩ := HU (by first | trivial | omega)
    refine zz_callVi (As := [.int 1, .int (σ h0 3), .int x1, .int de]) (rest := []) ⟨hx, hb, hml, hown, hts⟩ hK hP hS (C7 σ h0 1 (σ h0 3) x1 de g0 (by first | omega | (rw [t0]; omega)) (by first | omega | (rw [t0]; omega))) (cwV 4 hts gX5_dreamBody_X5_utter rfl rfl rfl (by decide +kernel) ⟨by show 10 + nc7 + 1 ≤ 10 + rk; omega, by show 8 + (7 + 11) + (300 + 60 * nc7) ≤ 300 + 60 * rk; omega⟩) (g0.1) rfl rfl hl.1 rfl (Nat.le_of_ble_eq_true rfl) dX5_dreamBody_57 ⟨Nat.zero_le _, Nat.zero_le _⟩ (fun r7 σ7 H locs q7 hP1 hS1 => ?_)
    replace hP := hP1
    replace hS := hS1
    clear hP1 hS1
    try dsimp only at q7
    obtain ⟨w7, f7⟩ := q7
    replace hC := hC.tr (w7.mono (dS10_7 h0))
    replace t0 : σ7 h0 1 = σ7 h0 1 := rfl
    replace t1 : σ7 h0 2 = σ7 h0 2 := rfl
    replace t2 : σ7 h0 3 = σ h0 3 := (w7 h0 3 (dS10_8 h0)).trans t2
    replace t3 : σ7 h0 4 = σ h0 4 := (w7 h0 4 (dS10_9 h0)).trans t3
    replace t4 : σ7 h0 5 = σ h0 5 := (w7 h0 5 (dS10_10 h0)).trans t4
    refine lv_aload_n hx hb dX5_dreamBody_60 rfl (lv_at hl 0 rfl) ?_
    refine zz_geti hx hb hts hi5 hown hK hP (g0.1) rfl 4 (by decide) (hts (.fieldLink RX5 25 "NoonLaw$Speaker" "m" "I") (List.mem_cons_of_mem _ bm_800)) rfl rfl t3 dX5_dreamBody_61 ?_
    refine lv_isub hx hb dX5_dreamBody_64 ?_
    refine lv_topi (fun n8 e8 => ?_)
    exact zz_iret hx hb hr hlocks hK hP hS dX5_dreamBody_65 (by exact ⟨hC, by rw [t0]; omega, by unfold zz_DB; rw [if_neg (by omega), if_neg (by omega), if_pos (by omega)]; exact ⟨by rw [e8, f7.2.1], f7.2.2.1, f7.2.2.2⟩⟩)
  refine lv_tableOut (tgt := 66) hx hb dX5_dreamBody_1 (by omega) (by decide) ?_
  refine lv_aload_n hx hb dX5_dreamBody_66 rfl (lv_at hl 0 rfl) ?_
  refine zz_geti hx hb hts hi5 hown hK hP (g0.1) rfl 4 (by decide) (hts (.fieldLink RX5 25 "NoonLaw$Speaker" "m" "I") (List.mem_cons_of_mem _ bm_800)) rfl rfl t3 dX5_dreamBody_67 ?_
  refine lv_aload_n hx hb dX5_dreamBody_70 rfl (lv_at hl 0 rfl) ?_
  refine zz_geti hx hb hts hi5 hown hK hP (g0.1) rfl 5 (by decide) (hts (.fieldLink RX5 26 "NoonLaw$Speaker" "k" "I") (List.mem_cons_of_mem _ bm_801)) rfl rfl t4 dX5_dreamBody_71 ?_
  refine lv_isub hx hb dX5_dreamBody_74 ?_
  refine lv_topi (fun n9 e9 => ?_)
  refine lv_istore (lv' := [(4, .int n9), (0, .ref h0), (1, .int nu), (2, .int x1), (3, .int de)]) hx hb dX5_dreamBody_75 hl (by decide) rfl (fun ls hl => ?_)
  refine lv_aload_n hx hb dX5_dreamBody_77 rfl (lv_at hl 1 rfl) ?_
  refine lv_iload hx hb dX5_dreamBody_78 (lv_at hl 0 rfl) ?_
  refine lv_if_ne (tgt := 87) hx hb dX5_dreamBody_80 (by decide) (fun c10 => ?_) (fun c10 => ?_)
  · have c10 := zz_neT c10
    skip
    refine lv_iconst (v := 0) hx hb dX5_dreamBody_87 (by decide) ?_
    refine zz_puti (v := 0) (ty := .boolean) hx hb hts hi5 tyX5 tyX5_ok nmX5 hown hK hP hS (g0.1) rfl 2 (by decide) (hts (.fieldLink RX5 32 "NoonLaw$Speaker" "parted" "Z") (List.mem_cons_of_mem _ bm_803)) rfl rfl (by decide +kernel) (zz_nz (by omega)) (zz_fz (by omega)) rfl dX5_dreamBody_88 (fun σ11 H locs w11 hP1 hS1 => ?_)
    replace hP := hP1
    replace hS := hS1
    clear hP1 hS1
    replace hC := hC.u w11 (dS10_11 h0)
    replace t0 : σ11 h0 1 = σ h0 1 := (zz_w (b := h0) (j := 1) w11 (fun q9 => absurd q9.2 (by decide))).trans t0
    replace t1 : σ11 h0 2 = 0 := zz_w1 w11
    replace t2 : σ11 h0 3 = σ h0 3 := (zz_w (b := h0) (j := 3) w11 (fun q9 => absurd q9.2 (by decide))).trans t2
    replace t3 : σ11 h0 4 = σ h0 4 := (zz_w (b := h0) (j := 4) w11 (fun q9 => absurd q9.2 (by decide))).trans t3
    replace t4 : σ11 h0 5 = σ h0 5 := (zz_w (b := h0) (j := 5) w11 (fun q9 => absurd q9.2 (by decide))).trans t4
    refine lv_iload hx hb dX5_dreamBody_91 (lv_at hl 0 rfl) ?_
    refine lv_if_ne (tgt := 100) hx hb dX5_dreamBody_93 (by decide) (fun c12 => ?_) (fun c12 => ?_)
    · have c12 := zz_neT c12
      skip
      refine lv_iload_n hx hb dX5_dreamBody_100 rfl (lv_at hl 3 rfl) ?_
      refine lv_iload hx hb dX5_dreamBody_101 (lv_at hl 0 rfl) ?_
      refine lv_idiv hx hb dX5_dreamBody_103 (zz_ne0 (by omega)) ?_
      refine lv_topi (fun n13 e13 => ?_)
      exact zz_iret hx hb hr hlocks hK hP hS dX5_dreamBody_104 (by exact ⟨hC, by rw [t0]; omega, by unfold zz_DB; rw [if_neg (by omega), if_neg (by omega), if_neg (by omega), ← e9, if_neg (by omega)]; exact ⟨e13, (zz_tg.rf _ _ _ _).out (fun k _ => by rw [w11, zz_un (by omega)]) (by rw [w11, zz_un (by omega)]), by rw [t1]; exact k_0⟩⟩)
    · have c12 := zz_eqT c12
      skip
      refine lv_iconst (v := 0) hx hb dX5_dreamBody_96 (by decide) ?_
      refine lv_goto (tgt := 104) hx hb dX5_dreamBody_97 (by decide) ?_
      exact zz_iret hx hb hr hlocks hK hP hS dX5_dreamBody_104 (by exfalso; omega)
  · have c10 := zz_eqT c10
    skip
    refine lv_iconst (v := 1) hx hb dX5_dreamBody_83 (by decide) ?_
    refine lv_goto (tgt := 88) hx hb dX5_dreamBody_84 (by decide) ?_
    refine zz_puti (v := 1) (ty := .boolean) hx hb hts hi5 tyX5 tyX5_ok nmX5 hown hK hP hS (g0.1) rfl 2 (by decide) (hts (.fieldLink RX5 32 "NoonLaw$Speaker" "parted" "Z") (List.mem_cons_of_mem _ bm_803)) rfl rfl (by decide +kernel) (zz_nz (by omega)) (zz_fz (by omega)) rfl dX5_dreamBody_88 (fun σ14 H locs w14 hP1 hS1 => ?_)
    replace hP := hP1
    replace hS := hS1
    clear hP1 hS1
    replace hC := hC.u w14 (dS10_11 h0)
    replace t0 : σ14 h0 1 = σ h0 1 := (zz_w (b := h0) (j := 1) w14 (fun q9 => absurd q9.2 (by decide))).trans t0
    replace t1 : σ14 h0 2 = 1 := zz_w1 w14
    replace t2 : σ14 h0 3 = σ h0 3 := (zz_w (b := h0) (j := 3) w14 (fun q9 => absurd q9.2 (by decide))).trans t2
    replace t3 : σ14 h0 4 = σ h0 4 := (zz_w (b := h0) (j := 4) w14 (fun q9 => absurd q9.2 (by decide))).trans t3
    replace t4 : σ14 h0 5 = σ h0 5 := (zz_w (b := h0) (j := 5) w14 (fun q9 => absurd q9.2 (by decide))).trans t4
    refine lv_iload hx hb dX5_dreamBody_91 (lv_at hl 0 rfl) ?_
    refine lv_if_ne (tgt := 100) hx hb dX5_dreamBody_93 (by decide) (fun c15 => ?_) (fun c15 => ?_)
    · have c15 := zz_neT c15
      skip
      refine lv_iload_n hx hb dX5_dreamBody_100 rfl (lv_at hl 3 rfl) ?_
      refine lv_iload hx hb dX5_dreamBody_101 (lv_at hl 0 rfl) ?_
      refine lv_idiv hx hb dX5_dreamBody_103 (zz_ne0 (by omega)) ?_
      refine lv_topi (fun n16 e16 => ?_)
      exact zz_iret hx hb hr hlocks hK hP hS dX5_dreamBody_104 (by exfalso; omega)
    · have c15 := zz_eqT c15
      skip
      refine lv_iconst (v := 0) hx hb dX5_dreamBody_96 (by decide) ?_
      refine lv_goto (tgt := 104) hx hb dX5_dreamBody_97 (by decide) ?_
      exact zz_iret hx hb hr hlocks hK hP hS dX5_dreamBody_104 (by exact ⟨hC, by rw [t0]; omega, by unfold zz_DB; rw [if_neg (by omega), if_neg (by omega), if_neg (by omega), ← e9, if_pos (by omega)]; exact ⟨rfl, (zz_tg.rf _ _ _ _).out (fun k _ => by rw [w14, zz_un (by omega)]) (by rw [w14, zz_un (by omega)]), by rw [t1]; exact k_1⟩⟩)
theorem gX5_ownBody_X5_utter : GoodIn wzX5_ownBody (wsV RX5 36 RX5 yX5_utter wzX5_utter) := wz_co bm_804 (wz_co bm_805 (wz_co bm_806 (wz_co bm_22 (wz_in bm_807))))
set_option maxHeartbeats 4000000 in
set_option maxRecDepth 100000 in
theorem g_X5_ownBody (l : Launch) (E : zz_E) (rk : Nat) (v : Int) (HU : True → ∃ nc : Nat, nc < rk ∧ k_X5_utter l E nc v) : k_X5_ownBody l E rk v := by
  intro σ h0 nu ab x1 de g0 hl1 ho
  refine zz_met (cc := cX5_ownBody) (maxL := 5) (ret := (some .int)) (by decide) rfl (Nat.le_of_ble_eq_true rfl) ?_
  intro p e s m args below meth c ls hx hb hr hts hown hlocks hml hK hP hS hl
  have hl : lv_has ls 5 [(0, .ref h0), (1, .int nu), (2, .int ab), (3, .int x1), (4, .int de)] := hl
  have hown : s.vm.findClass RX5 = some m.cls := hown
  have hi5 : ∀ w ∈ wsX50, w ∈ wzX5_ownBody := fun w h => List.mem_cons_of_mem _ (hbw5 w h)
  have k_0 : (0 : Int32).toInt = 0 := by decide +kernel
  have k_1 : (1 : Int32).toInt = 1 := by decide +kernel
  have k_2 : (2 : Int32).toInt = 2 := by decide +kernel
  have k_3 : (3 : Int32).toInt = 3 := by decide +kernel
  have k_4 : (4 : Int32).toInt = 4 := by decide +kernel
  have k_9 : (9 : Int32).toInt = 9 := by decide +kernel
  replace t0 : σ h0 1 = σ h0 1 := rfl
  replace t1 : σ h0 2 = σ h0 2 := rfl
  replace t2 : σ h0 3 = σ h0 3 := rfl
  replace t3 : σ h0 4 = σ h0 4 := rfl
  replace t4 : σ h0 5 = σ h0 5 := rfl
  have hC : zz_ch (fun a k => (a = h0 ∧ (k = 1 ∨ k = 2)) ∨ a = h0 + 1) σ σ := zz_ch.rf σ
  refine lv_iload_n hx hb dX5_ownBody_0 rfl (lv_at hl 1 rfl) ?_
  by_cases c1 : (nu).toInt = 20
  · refine lv_lookup (off := 75) (tgt := 76) hx hb dX5_ownBody_1 (by decide) (by rw [c1]; decide) (by decide) ?_
    refine lv_aload_n hx hb dX5_ownBody_76 rfl (lv_at hl 0 rfl) ?_
    refine lv_iconst (v := 0) hx hb dX5_ownBody_77 (by decide) ?_
    refine lv_iload_n hx hb dX5_ownBody_78 rfl (lv_at hl 2 rfl) ?_
    refine lv_iload_n hx hb dX5_ownBody_79 rfl (lv_at hl 3 rfl) ?_
    refine lv_iload hx hb dX5_ownBody_80 (lv_at hl 4 rfl) ?_
    obtain ⟨nc2, hc2, C2⟩ := HU (by first | trivial | omega)
    refine zz_callVi (As := [.int 0, .int ab, .int x1, .int de]) (rest := []) ⟨hx, hb, hml, hown, hts⟩ hK hP hS (C2 σ h0 0 ab x1 de g0 (by first | omega | (rw [t0]; omega)) (by first | omega | (rw [t0]; omega))) (cwV 4 hts gX5_ownBody_X5_utter rfl rfl rfl (by decide +kernel) ⟨by show 10 + nc2 + 1 ≤ 10 + rk; omega, by show 8 + (7 + 11) + (300 + 60 * nc2) ≤ 300 + 60 * rk; omega⟩) (g0.1) rfl rfl hl.1 rfl (Nat.le_of_ble_eq_true rfl) dX5_ownBody_82 ⟨Nat.zero_le _, Nat.zero_le _⟩ (fun r2 σ2 H locs q2 hP1 hS1 => ?_)
    replace hP := hP1
    replace hS := hS1
    clear hP1 hS1
    try dsimp only at q2
    obtain ⟨w2, f2⟩ := q2
    replace hC := hC.tr (w2.mono (dS10_7 h0))
    replace t0 : σ2 h0 1 = σ2 h0 1 := rfl
    replace t1 : σ2 h0 2 = σ2 h0 2 := rfl
    replace t2 : σ2 h0 3 = σ h0 3 := (w2 h0 3 (dS10_8 h0)).trans t2
    replace t3 : σ2 h0 4 = σ h0 4 := (w2 h0 4 (dS10_9 h0)).trans t3
    replace t4 : σ2 h0 5 = σ h0 5 := (w2 h0 5 (dS10_10 h0)).trans t4
    refine lv_iconst (v := 4) hx hb dX5_ownBody_85 (by decide) ?_
    refine lv_isub hx hb dX5_ownBody_86 ?_
    refine lv_topi (fun n3 e3 => ?_)
    exact zz_iret hx hb hr hlocks hK hP hS dX5_ownBody_87 (by exact ⟨hC, by rw [t0]; omega, by unfold zz_OB; rw [if_pos (by omega)]; exact ⟨by rw [e3, f2.2.1], f2.2.2.1, f2.2.2.2⟩⟩)
  by_cases c4 : (nu).toInt = 21
  · refine lv_lookup (off := 87) (tgt := 88) hx hb dX5_ownBody_1 (by decide) (by rw [c4]; decide) (by decide) ?_
    refine lv_aload_n hx hb dX5_ownBody_88 rfl (lv_at hl 0 rfl) ?_
    refine lv_iconst (v := 3) hx hb dX5_ownBody_89 (by decide) ?_
    refine lv_iload_n hx hb dX5_ownBody_90 rfl (lv_at hl 2 rfl) ?_
    refine lv_iload_n hx hb dX5_ownBody_91 rfl (lv_at hl 3 rfl) ?_
    refine lv_iload hx hb dX5_ownBody_92 (lv_at hl 4 rfl) ?_
    obtain ⟨nc5, hc5, C5⟩ := HU (by first | trivial | omega)
    refine zz_callVi (As := [.int 3, .int ab, .int x1, .int de]) (rest := []) ⟨hx, hb, hml, hown, hts⟩ hK hP hS (C5 σ h0 3 ab x1 de g0 (by first | omega | (rw [t0]; omega)) (by first | omega | (rw [t0]; omega))) (cwV 4 hts gX5_ownBody_X5_utter rfl rfl rfl (by decide +kernel) ⟨by show 10 + nc5 + 1 ≤ 10 + rk; omega, by show 8 + (7 + 11) + (300 + 60 * nc5) ≤ 300 + 60 * rk; omega⟩) (g0.1) rfl rfl hl.1 rfl (Nat.le_of_ble_eq_true rfl) dX5_ownBody_94 ⟨Nat.zero_le _, Nat.zero_le _⟩ (fun r5 σ5 H locs q5 hP1 hS1 => ?_)
    replace hP := hP1
    replace hS := hS1
    clear hP1 hS1
    try dsimp only at q5
    obtain ⟨w5, f5⟩ := q5
    replace hC := hC.tr (w5.mono (dS10_7 h0))
    replace t0 : σ5 h0 1 = σ5 h0 1 := rfl
    replace t1 : σ5 h0 2 = σ5 h0 2 := rfl
    replace t2 : σ5 h0 3 = σ h0 3 := (w5 h0 3 (dS10_8 h0)).trans t2
    replace t3 : σ5 h0 4 = σ h0 4 := (w5 h0 4 (dS10_9 h0)).trans t3
    replace t4 : σ5 h0 5 = σ h0 5 := (w5 h0 5 (dS10_10 h0)).trans t4
    refine lv_aload_n hx hb dX5_ownBody_97 rfl (lv_at hl 0 rfl) ?_
    refine lv_iconst (v := 1) hx hb dX5_ownBody_98 (by decide) ?_
    refine lv_aload_n hx hb dX5_ownBody_99 rfl (lv_at hl 0 rfl) ?_
    refine zz_geti hx hb hts hi5 hown hK hP (g0.1) rfl 3 (by decide) (hts (.fieldLink RX5 21 "NoonLaw$Speaker" "kind" "I") (List.mem_cons_of_mem _ bm_798)) rfl rfl t2 dX5_ownBody_100 ?_
    refine lv_iconst (v := 1) hx hb dX5_ownBody_103 (by decide) ?_
    refine lv_iload hx hb dX5_ownBody_104 (lv_at hl 4 rfl) ?_
    obtain ⟨nc6, hc6, C6⟩ := HU (by first | trivial | omega)
    refine zz_callVi (As := [.int 1, .int (σ h0 3), .int 1, .int de]) (rest := [.int r5]) ⟨hx, hb, hml, hown, hts⟩ hK hP hS (C6 σ5 h0 1 (σ h0 3) 1 de g0 (by first | omega | (rw [t0]; omega)) (by first | omega | (rw [t0]; omega))) (cwV 4 hts gX5_ownBody_X5_utter rfl rfl rfl (by decide +kernel) ⟨by show 10 + nc6 + 1 ≤ 10 + rk; omega, by show 8 + (7 + 11) + (300 + 60 * nc6) ≤ 300 + 60 * rk; omega⟩) (g0.1) rfl rfl hl.1 rfl (Nat.le_of_ble_eq_true rfl) dX5_ownBody_106 ⟨Nat.zero_le _, Nat.zero_le _⟩ (fun r6 σ6 H locs q6 hP1 hS1 => ?_)
    replace hP := hP1
    replace hS := hS1
    clear hP1 hS1
    try dsimp only at q6
    obtain ⟨w6, f6⟩ := q6
    replace hC := hC.tr (w6.mono (dS10_7 h0))
    try simp only [t2, t3, t4] at f6
    replace t0 : σ6 h0 1 = σ6 h0 1 := rfl
    replace t1 : σ6 h0 2 = σ6 h0 2 := rfl
    replace t2 : σ6 h0 3 = σ h0 3 := (w6 h0 3 (dS10_8 h0)).trans t2
    replace t3 : σ6 h0 4 = σ h0 4 := (w6 h0 4 (dS10_9 h0)).trans t3
    replace t4 : σ6 h0 5 = σ h0 5 := (w6 h0 5 (dS10_10 h0)).trans t4
    refine lv_iadd hx hb dX5_ownBody_109 ?_
    refine lv_topi (fun n7 e7 => ?_)
    have g2 := f6.2
    rw [f5.2.2.2] at g2
    exact zz_iret hx hb hr hlocks hK hP hS dX5_ownBody_110 (by exact ⟨hC, by rw [t0]; omega, by unfold zz_OB; rw [if_neg (by omega), if_pos (by omega)]; exact ⟨by rw [e7, f5.2.1, g2.1], f5.2.2.1.tr g2.2.1, g2.2.2⟩⟩)
  by_cases c8 : (nu).toInt = 30
  · refine lv_lookup (off := 110) (tgt := 111) hx hb dX5_ownBody_1 (by decide) (by rw [c8]; decide) (by decide) ?_
    refine lv_iconst (v := 0) hx hb dX5_ownBody_111 (by decide) ?_
    refine lv_aload_n hx hb dX5_ownBody_112 rfl (lv_at hl 0 rfl) ?_
    refine lv_iconst (v := 1) hx hb dX5_ownBody_113 (by decide) ?_
    refine lv_iload_n hx hb dX5_ownBody_114 rfl (lv_at hl 2 rfl) ?_
    refine lv_iload_n hx hb dX5_ownBody_115 rfl (lv_at hl 3 rfl) ?_
    refine lv_iload hx hb dX5_ownBody_116 (lv_at hl 4 rfl) ?_
    obtain ⟨nc9, hc9, C9⟩ := HU (by first | trivial | omega)
    refine zz_callVi (As := [.int 1, .int ab, .int x1, .int de]) (rest := [.int 0]) ⟨hx, hb, hml, hown, hts⟩ hK hP hS (C9 σ h0 1 ab x1 de g0 (by first | omega | (rw [t0]; omega)) (by first | omega | (rw [t0]; omega))) (cwV 4 hts gX5_ownBody_X5_utter rfl rfl rfl (by decide +kernel) ⟨by show 10 + nc9 + 1 ≤ 10 + rk; omega, by show 8 + (7 + 11) + (300 + 60 * nc9) ≤ 300 + 60 * rk; omega⟩) (g0.1) rfl rfl hl.1 rfl (Nat.le_of_ble_eq_true rfl) dX5_ownBody_118 ⟨Nat.zero_le _, Nat.zero_le _⟩ (fun r9 σ9 H locs q9 hP1 hS1 => ?_)
    replace hP := hP1
    replace hS := hS1
    clear hP1 hS1
    try dsimp only at q9
    obtain ⟨w9, f9⟩ := q9
    replace hC := hC.tr (w9.mono (dS10_7 h0))
    replace t0 : σ9 h0 1 = σ9 h0 1 := rfl
    replace t1 : σ9 h0 2 = σ9 h0 2 := rfl
    replace t2 : σ9 h0 3 = σ h0 3 := (w9 h0 3 (dS10_8 h0)).trans t2
    replace t3 : σ9 h0 4 = σ h0 4 := (w9 h0 4 (dS10_9 h0)).trans t3
    replace t4 : σ9 h0 5 = σ h0 5 := (w9 h0 5 (dS10_10 h0)).trans t4
    refine lv_isub hx hb dX5_ownBody_121 ?_
    refine lv_topi (fun n10 e10 => ?_)
    exact zz_iret hx hb hr hlocks hK hP hS dX5_ownBody_122 (by exact ⟨hC, by rw [t0]; omega, by unfold zz_OB; rw [if_neg (by omega), if_neg (by omega), if_pos (by omega)]; exact ⟨by rw [e10, f9.2.1], f9.2.2.1, f9.2.2.2⟩⟩)
  by_cases c11 : (nu).toInt = 40
  · refine lv_lookup (off := 122) (tgt := 123) hx hb dX5_ownBody_1 (by decide) (by rw [c11]; decide) (by decide) ?_
    refine lv_aload_n hx hb dX5_ownBody_123 rfl (lv_at hl 0 rfl) ?_
    refine lv_iconst (v := 2) hx hb dX5_ownBody_124 (by decide) ?_
    refine lv_iload_n hx hb dX5_ownBody_125 rfl (lv_at hl 2 rfl) ?_
    refine lv_iload_n hx hb dX5_ownBody_126 rfl (lv_at hl 3 rfl) ?_
    refine lv_iconst (v := 2) hx hb dX5_ownBody_127 (by decide) ?_
    refine lv_idiv hx hb dX5_ownBody_128 (by decide) ?_
    refine lv_topi (fun n12 e12 => ?_)
    refine lv_iload hx hb dX5_ownBody_129 (lv_at hl 4 rfl) ?_
    skip
    obtain ⟨nc13, hc13, C13⟩ := HU (by first | trivial | omega)
    refine zz_callVi (As := [.int 2, .int ab, .int n12, .int de]) (rest := []) ⟨hx, hb, hml, hown, hts⟩ hK hP hS (C13 σ h0 2 ab n12 de g0 (by first | omega | (rw [t0]; omega)) (by first | omega | (rw [t0]; omega))) (cwV 4 hts gX5_ownBody_X5_utter rfl rfl rfl (by decide +kernel) ⟨by show 10 + nc13 + 1 ≤ 10 + rk; omega, by show 8 + (7 + 11) + (300 + 60 * nc13) ≤ 300 + 60 * rk; omega⟩) (g0.1) rfl rfl hl.1 rfl (Nat.le_of_ble_eq_true rfl) dX5_ownBody_131 ⟨Nat.zero_le _, Nat.zero_le _⟩ (fun r13 σ13 H locs q13 hP1 hS1 => ?_)
    replace hP := hP1
    replace hS := hS1
    clear hP1 hS1
    try dsimp only at q13
    obtain ⟨w13, f13⟩ := q13
    replace hC := hC.tr (w13.mono (dS10_7 h0))
    replace t0 : σ13 h0 1 = σ13 h0 1 := rfl
    replace t1 : σ13 h0 2 = σ13 h0 2 := rfl
    replace t2 : σ13 h0 3 = σ h0 3 := (w13 h0 3 (dS10_8 h0)).trans t2
    replace t3 : σ13 h0 4 = σ h0 4 := (w13 h0 4 (dS10_9 h0)).trans t3
    replace t4 : σ13 h0 5 = σ h0 5 := (w13 h0 5 (dS10_10 h0)).trans t4
    exact zz_iret hx hb hr hlocks hK hP hS dX5_ownBody_134 (by exact ⟨hC, by rw [t0]; omega, by unfold zz_OB; rw [if_neg (by omega), if_neg (by omega), if_neg (by omega), if_pos (by omega)]; rw [← e12]; exact f13.2⟩)
  by_cases c14 : (nu).toInt = 50
  · refine lv_lookup (off := 134) (tgt := 135) hx hb dX5_ownBody_1 (by decide) (by rw [c14]; decide) (by decide) ?_
    refine lv_aload_n hx hb dX5_ownBody_135 rfl (lv_at hl 0 rfl) ?_
    refine lv_iconst (v := 0) hx hb dX5_ownBody_136 (by decide) ?_
    refine lv_iload_n hx hb dX5_ownBody_137 rfl (lv_at hl 2 rfl) ?_
    refine lv_iload_n hx hb dX5_ownBody_138 rfl (lv_at hl 3 rfl) ?_
    refine lv_iload hx hb dX5_ownBody_139 (lv_at hl 4 rfl) ?_
    obtain ⟨nc15, hc15, C15⟩ := HU (by first | trivial | omega)
    refine zz_callVi (As := [.int 0, .int ab, .int x1, .int de]) (rest := []) ⟨hx, hb, hml, hown, hts⟩ hK hP hS (C15 σ h0 0 ab x1 de g0 (by first | omega | (rw [t0]; omega)) (by first | omega | (rw [t0]; omega))) (cwV 4 hts gX5_ownBody_X5_utter rfl rfl rfl (by decide +kernel) ⟨by show 10 + nc15 + 1 ≤ 10 + rk; omega, by show 8 + (7 + 11) + (300 + 60 * nc15) ≤ 300 + 60 * rk; omega⟩) (g0.1) rfl rfl hl.1 rfl (Nat.le_of_ble_eq_true rfl) dX5_ownBody_141 ⟨Nat.zero_le _, Nat.zero_le _⟩ (fun r15 σ15 H locs q15 hP1 hS1 => ?_)
    replace hP := hP1
    replace hS := hS1
    clear hP1 hS1
    try dsimp only at q15
    obtain ⟨w15, f15⟩ := q15
    replace hC := hC.tr (w15.mono (dS10_7 h0))
    replace t0 : σ15 h0 1 = σ15 h0 1 := rfl
    replace t1 : σ15 h0 2 = σ15 h0 2 := rfl
    replace t2 : σ15 h0 3 = σ h0 3 := (w15 h0 3 (dS10_8 h0)).trans t2
    replace t3 : σ15 h0 4 = σ h0 4 := (w15 h0 4 (dS10_9 h0)).trans t3
    replace t4 : σ15 h0 5 = σ h0 5 := (w15 h0 5 (dS10_10 h0)).trans t4
    refine lv_iconst (v := 3) hx hb dX5_ownBody_144 (by decide) ?_
    refine lv_imul hx hb dX5_ownBody_145 ?_
    refine lv_topi (fun n16 e16 => ?_)
    exact zz_iret hx hb hr hlocks hK hP hS dX5_ownBody_146 (by exact ⟨hC, by rw [t0]; omega, by unfold zz_OB; rw [if_neg (by omega), if_neg (by omega), if_neg (by omega), if_neg (by omega), if_pos (by omega)]; exact ⟨by rw [e16, f15.2.1], f15.2.2.1, f15.2.2.2⟩⟩)
  by_cases c17 : (nu).toInt = 51
  · refine lv_lookup (off := 146) (tgt := 147) hx hb dX5_ownBody_1 (by decide) (by rw [c17]; decide) (by decide) ?_
    refine lv_aload_n hx hb dX5_ownBody_147 rfl (lv_at hl 0 rfl) ?_
    refine lv_iconst (v := 2) hx hb dX5_ownBody_148 (by decide) ?_
    refine lv_iload_n hx hb dX5_ownBody_149 rfl (lv_at hl 2 rfl) ?_
    refine lv_iload_n hx hb dX5_ownBody_150 rfl (lv_at hl 3 rfl) ?_
    refine lv_iload hx hb dX5_ownBody_151 (lv_at hl 4 rfl) ?_
    obtain ⟨nc18, hc18, C18⟩ := HU (by first | trivial | omega)
    refine zz_callVi (As := [.int 2, .int ab, .int x1, .int de]) (rest := []) ⟨hx, hb, hml, hown, hts⟩ hK hP hS (C18 σ h0 2 ab x1 de g0 (by first | omega | (rw [t0]; omega)) (by first | omega | (rw [t0]; omega))) (cwV 4 hts gX5_ownBody_X5_utter rfl rfl rfl (by decide +kernel) ⟨by show 10 + nc18 + 1 ≤ 10 + rk; omega, by show 8 + (7 + 11) + (300 + 60 * nc18) ≤ 300 + 60 * rk; omega⟩) (g0.1) rfl rfl hl.1 rfl (Nat.le_of_ble_eq_true rfl) dX5_ownBody_153 ⟨Nat.zero_le _, Nat.zero_le _⟩ (fun r18 σ18 H locs q18 hP1 hS1 => ?_)
    replace hP := hP1
    replace hS := hS1
    clear hP1 hS1
    try dsimp only at q18
    obtain ⟨w18, f18⟩ := q18
    replace hC := hC.tr (w18.mono (dS10_7 h0))
    replace t0 : σ18 h0 1 = σ18 h0 1 := rfl
    replace t1 : σ18 h0 2 = σ18 h0 2 := rfl
    replace t2 : σ18 h0 3 = σ h0 3 := (w18 h0 3 (dS10_8 h0)).trans t2
    replace t3 : σ18 h0 4 = σ h0 4 := (w18 h0 4 (dS10_9 h0)).trans t3
    replace t4 : σ18 h0 5 = σ h0 5 := (w18 h0 5 (dS10_10 h0)).trans t4
    refine lv_aload_n hx hb dX5_ownBody_156 rfl (lv_at hl 0 rfl) ?_
    refine zz_geti hx hb hts hi5 hown hK hP (g0.1) rfl 5 (by decide) (hts (.fieldLink RX5 26 "NoonLaw$Speaker" "k" "I") (List.mem_cons_of_mem _ bm_801)) rfl rfl t4 dX5_ownBody_157 ?_
    refine lv_ixor hx hb dX5_ownBody_160 ?_
    refine lv_topi (fun n19 e19 => ?_)
    exact zz_iret hx hb hr hlocks hK hP hS dX5_ownBody_161 (by exact ⟨hC, by rw [t0]; omega, by unfold zz_OB; rw [if_neg (by omega), if_neg (by omega), if_neg (by omega), if_neg (by omega), if_neg (by omega), if_pos (by omega)]; exact ⟨by rw [e19, f18.2.1], f18.2.2.1, f18.2.2.2⟩⟩)
  by_cases c20 : (nu).toInt = 60
  · refine lv_lookup (off := 161) (tgt := 162) hx hb dX5_ownBody_1 (by decide) (by rw [c20]; decide) (by decide) ?_
    refine lv_aload_n hx hb dX5_ownBody_162 rfl (lv_at hl 0 rfl) ?_
    refine lv_iconst (v := 1) hx hb dX5_ownBody_163 (by decide) ?_
    refine lv_iload_n hx hb dX5_ownBody_164 rfl (lv_at hl 2 rfl) ?_
    refine lv_iload_n hx hb dX5_ownBody_165 rfl (lv_at hl 3 rfl) ?_
    refine lv_iconst (v := 1) hx hb dX5_ownBody_166 (by decide) ?_
    refine lv_iadd hx hb dX5_ownBody_167 ?_
    refine lv_topi (fun n21 e21 => ?_)
    refine lv_iload hx hb dX5_ownBody_168 (lv_at hl 4 rfl) ?_
    skip
    obtain ⟨nc22, hc22, C22⟩ := HU (by first | trivial | omega)
    refine zz_callVi (As := [.int 1, .int ab, .int n21, .int de]) (rest := []) ⟨hx, hb, hml, hown, hts⟩ hK hP hS (C22 σ h0 1 ab n21 de g0 (by first | omega | (rw [t0]; omega)) (by first | omega | (rw [t0]; omega))) (cwV 4 hts gX5_ownBody_X5_utter rfl rfl rfl (by decide +kernel) ⟨by show 10 + nc22 + 1 ≤ 10 + rk; omega, by show 8 + (7 + 11) + (300 + 60 * nc22) ≤ 300 + 60 * rk; omega⟩) (g0.1) rfl rfl hl.1 rfl (Nat.le_of_ble_eq_true rfl) dX5_ownBody_170 ⟨Nat.zero_le _, Nat.zero_le _⟩ (fun r22 σ22 H locs q22 hP1 hS1 => ?_)
    replace hP := hP1
    replace hS := hS1
    clear hP1 hS1
    try dsimp only at q22
    obtain ⟨w22, f22⟩ := q22
    replace hC := hC.tr (w22.mono (dS10_7 h0))
    replace t0 : σ22 h0 1 = σ22 h0 1 := rfl
    replace t1 : σ22 h0 2 = σ22 h0 2 := rfl
    replace t2 : σ22 h0 3 = σ h0 3 := (w22 h0 3 (dS10_8 h0)).trans t2
    replace t3 : σ22 h0 4 = σ h0 4 := (w22 h0 4 (dS10_9 h0)).trans t3
    replace t4 : σ22 h0 5 = σ h0 5 := (w22 h0 5 (dS10_10 h0)).trans t4
    exact zz_iret hx hb hr hlocks hK hP hS dX5_ownBody_173 (by exact ⟨hC, by rw [t0]; omega, by unfold zz_OB; rw [if_neg (by omega), if_neg (by omega), if_neg (by omega), if_neg (by omega), if_neg (by omega), if_neg (by omega), if_pos (by omega)]; rw [← e21]; exact f22.2⟩)
  by_cases c23 : (nu).toInt = 70
  · refine lv_lookup (off := 173) (tgt := 174) hx hb dX5_ownBody_1 (by decide) (by rw [c23]; decide) (by decide) ?_
    refine lv_bipush (v := 9) hx hb dX5_ownBody_174 (by decide) ?_
    exact zz_iret hx hb hr hlocks hK hP hS dX5_ownBody_176 (by exact ⟨hC, by rw [t0]; omega, by unfold zz_OB; rw [if_neg (by omega), if_neg (by omega), if_neg (by omega), if_neg (by omega), if_neg (by omega), if_neg (by omega), if_neg (by omega), if_pos (by omega)]; exact ⟨rfl, zz_tg.rf _ _ _ _, rfl⟩⟩)
  refine lv_lookup (off := 176) (tgt := 177) hx hb dX5_ownBody_1 (by decide) (by rw [Op.lookupswitch.offset_cons, if_neg (by omega)]; rw [Op.lookupswitch.offset_cons, if_neg (by omega)]; rw [Op.lookupswitch.offset_cons, if_neg (by omega)]; rw [Op.lookupswitch.offset_cons, if_neg (by omega)]; rw [Op.lookupswitch.offset_cons, if_neg (by omega)]; rw [Op.lookupswitch.offset_cons, if_neg (by omega)]; rw [Op.lookupswitch.offset_cons, if_neg (by omega)]; rw [Op.lookupswitch.offset_cons, if_neg (by omega)]; rfl) (by decide) ?_
  refine lv_aload_n hx hb dX5_ownBody_177 rfl (lv_at hl 0 rfl) ?_
  refine lv_iconst (v := 1) hx hb dX5_ownBody_178 (by decide) ?_
  refine lv_iload_n hx hb dX5_ownBody_179 rfl (lv_at hl 2 rfl) ?_
  refine lv_iload_n hx hb dX5_ownBody_180 rfl (lv_at hl 3 rfl) ?_
  refine lv_iload hx hb dX5_ownBody_181 (lv_at hl 4 rfl) ?_
  obtain ⟨nc24, hc24, C24⟩ := HU (by first | trivial | omega)
  refine zz_callVi (As := [.int 1, .int ab, .int x1, .int de]) (rest := []) ⟨hx, hb, hml, hown, hts⟩ hK hP hS (C24 σ h0 1 ab x1 de g0 (by first | omega | (rw [t0]; omega)) (by first | omega | (rw [t0]; omega))) (cwV 4 hts gX5_ownBody_X5_utter rfl rfl rfl (by decide +kernel) ⟨by show 10 + nc24 + 1 ≤ 10 + rk; omega, by show 8 + (7 + 11) + (300 + 60 * nc24) ≤ 300 + 60 * rk; omega⟩) (g0.1) rfl rfl hl.1 rfl (Nat.le_of_ble_eq_true rfl) dX5_ownBody_183 ⟨Nat.zero_le _, Nat.zero_le _⟩ (fun r24 σ24 H locs q24 hP1 hS1 => ?_)
  replace hP := hP1
  replace hS := hS1
  clear hP1 hS1
  try dsimp only at q24
  obtain ⟨w24, f24⟩ := q24
  replace hC := hC.tr (w24.mono (dS10_7 h0))
  replace t0 : σ24 h0 1 = σ24 h0 1 := rfl
  replace t1 : σ24 h0 2 = σ24 h0 2 := rfl
  replace t2 : σ24 h0 3 = σ h0 3 := (w24 h0 3 (dS10_8 h0)).trans t2
  replace t3 : σ24 h0 4 = σ h0 4 := (w24 h0 4 (dS10_9 h0)).trans t3
  replace t4 : σ24 h0 5 = σ h0 5 := (w24 h0 5 (dS10_10 h0)).trans t4
  refine lv_aload_n hx hb dX5_ownBody_186 rfl (lv_at hl 0 rfl) ?_
  refine zz_geti hx hb hts hi5 hown hK hP (g0.1) rfl 4 (by decide) (hts (.fieldLink RX5 25 "NoonLaw$Speaker" "m" "I") (List.mem_cons_of_mem _ bm_800)) rfl rfl t3 dX5_ownBody_187 ?_
  refine lv_iadd hx hb dX5_ownBody_190 ?_
  refine lv_topi (fun n25 e25 => ?_)
  exact zz_iret hx hb hr hlocks hK hP hS dX5_ownBody_191 (by exact ⟨hC, by rw [t0]; omega, by unfold zz_OB; rw [if_neg (by omega), if_neg (by omega), if_neg (by omega), if_neg (by omega), if_neg (by omega), if_neg (by omega), if_neg (by omega), if_neg (by omega)]; exact ⟨by rw [e25, f24.2.1], f24.2.2.1, f24.2.2.2⟩⟩)
theorem k_utter (l : Launch) (E : zz_E) : ∀ d : Nat, d ≤ 20 → k_X5_utter l E (2 * d) (20 - (d : Int)) := by
  intro d
  induction d with
  | zero =>
    intro _
    exact g_X5_utter l E _ _ (by omega) (fun h => absurd h (by omega)) (fun h => absurd h (by omega))
  | succ d ih =>
    intro h
    have e : (20 - ((d + 1 : Nat) : Int)) + 1 = 20 - (d : Int) := by omega
    refine g_X5_utter l E _ _ (by omega) (fun _ => ⟨2 * d + 1, by omega, ?_⟩) (fun _ => ⟨2 * d + 1, by omega, ?_⟩)
    · rw [e]
      exact g_X5_dreamBody l E _ _ (fun _ => ⟨2 * d, by omega, ih (by omega)⟩)
    · rw [e]
      exact g_X5_ownBody l E _ _ (fun _ => ⟨2 * d, by omega, ih (by omega)⟩)
theorem c_X5_utter (l : Launch) (E : zz_E) (σ : zz_S) (h0 : Nat) (vo fr x1 de : Int32) (g0 : zz_Sp E h0) (hl1 : 0 ≤ (σ h0 1).toInt ∧ (σ h0 1).toInt ≤ 30) (ho : de.toInt = 0) : Met l yX5_utter wzX5_utter ({ frames := 50, cells := 0, slots := 0, locals := 2700 }) (va_Pc [.ref h0, .int vo, .int fr, .int x1, .int de] (zz_B E σ)) (va_Qi (fun r σ1 => zz_ch (fun a k => (a = h0 ∧ (k = 1 ∨ k = 2)) ∨ a = h0 + 1) σ σ1 ∧ ((0 ≤ (σ1 h0 1).toInt ∧ (σ1 h0 1).toInt ≤ 30) ∧ zz_vp σ σ1 h0 r (zz_U20 (σ h0 3) (σ h0 4) (σ h0 5) vo fr x1 (σ h0 2).toInt))) (zz_B E) (zz_A E)) 0 0 (zz_A E) := by
  rw [zz_U20_eq]
  exact (k_utter l E 20 (Nat.le_refl 20)) σ h0 vo fr x1 de g0 hl1 ho
