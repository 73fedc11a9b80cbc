set_option maxHeartbeats 8000000 in
set_option maxRecDepth 100000 in
/-- the loop of the law -/
theorem law_loop {p : Program} {l : Launch} {e : Env} {s : State} {m : MethodId} {below : List Frame} {meth : Method} {c : Code} {b L x y : Nat} {xs : Nat → Int32} {E : zz_E} (hA : zz_LA p s m c b L xs E x y) (hr : meth.sig.returnType = ret) (hlocks : meth.locks = false) : ∀ (n : Nat) (i : Int32) (σ : zz_S) (H : Heap) (locs : List Loc) (ls : Array Slot), 0 ≤ i.toInt → i.toInt ≤ 3072 → 4000 - i.toInt < n → zz_RL σ x y → zz_RD σ x y → zz_P E σ H → va_S (zz_A E) s.heap H locs → lv_has ls 4 [(0, .ref b), (1, .ref x), (2, .ref y), (3, .int i)] → W p l e room_1 s m #[Value.ref b] below meth c H locs 600000 7302250 (lw_Z below #[Value.ref b] s) (F0 m 18 ls []) := by
  obtain ⟨hx, hb, hml, hown, hts, hX, hbl, hbE, hL, gL, gM, hxy, hK⟩ := id hA
  have hbA : ¬ zz_A E b := fun h => absurd (hbE b h) (Nat.not_le.mpr hbl)
  have k_0 : (0 : Int32).toInt = 0 := by decide +kernel
  have k_1 : (1 : Int32).toInt = 1 := by decide +kernel
  have k_3 : (3 : Int32).toInt = 3 := by decide +kernel
  have k_6 : (6 : Int32).toInt = 6 := by decide +kernel
  have k_63 : (63 : Int32).toInt = 63 := by decide +kernel
  have hLt : (Int32.ofNat L).toInt = (L : Int) := nI_toInt (by omega)
  intro n
  induction n with
  | zero => intro i σ H locs ls h1 h2 h3; omega
  | succ n ih =>
    intro i σ H locs ls hi0 hi1 hm hR hQ hP hS hl
    refine lv_iload_n hx hb dL_law_18 rfl (lv_at hl 3 rfl) ?_
    refine lv_aload_n hx hb dL_law_19 rfl (lv_at hl 0 rfl) ?_
    refine va_slen hx hb hX hbl hbA hS dL_law_20 ?_
    refine lv_bipush (v := 6) hx hb dL_law_21 (by decide) ?_
    refine lv_isub hx hb dL_law_23 ?_
    refine lv_topi (fun n1 e1 => ?_)
    have f1 : n1.toInt = (Int32.ofNat L).toInt - (6 : Int32).toInt := zz_subT e1 (by omega) (by omega)
    refine lv_icmp_gt (tgt := 1390) hx hb dL_law_24 (by decide) (fun c2 => ?_) (fun c2 => ?_)
    · refine lv_iconst (v := 1) hx hb dL_law_1390 (by decide) ?_
      refine va_forget (fun q hq => hbE _ (hS.2.2 q hq)) ?_
      exact lw_ret hx hb hr hlocks dL_law_1391
    · have c2 := zz_nltT c2
      have hi : 0 ≤ i.toInt ∧ i.toInt + 6 ≤ (L : Int) := ⟨hi0, by omega⟩
      have kk : ∀ (σ1 : zz_S) (H1 : Heap) (locs1 : List Loc), zz_RL σ1 x y → zz_RD σ1 x y → zz_P E σ1 H1 → va_S (zz_A E) s.heap H1 locs1 → W p l e room_1 s m #[Value.ref b] below meth c H1 locs1 600000 7302250 (lw_Z below #[Value.ref b] s) (F0 m 1384 ls []) := by
        intro σ1 H1 locs1 hR1 hQ1 hP1 hS1
        obtain ⟨n9, e9⟩ : ∃ y : Int32, y = i + 6 := ⟨_, rfl⟩
        have f9 : n9.toInt = i.toInt + (6 : Int32).toInt := zz_addT e9 (by omega) (by omega)
        refine lv_iinc (v := n9) (lv' := [(3, .int n9), (0, .ref b), (1, .ref x), (2, .ref y)]) hx hb dL_law_1384 hl (k := 3) rfl (by rw [e9]; rfl) (by decide) rfl (fun ls hl => ?_)
        refine lv_goto (tgt := 18) hx hb dL_law_1387 (by decide) ?_
        exact ih n9 σ1 H1 locs1 ls (by omega) (by omega) (by omega) hR1 hQ1 hP1 hS1 (lv_sub hl [1, 2, 3, 0] rfl)
      refine lv_aload_n hx hb dL_law_27 rfl (lv_at hl 0 rfl) ?_
      refine lv_iload_n hx hb dL_law_28 rfl (lv_at hl 3 rfl) ?_
      refine va_sld hx hb hX hbl hbA hS (vp_in_iff.mpr ⟨by omega, by omega⟩) dL_law_29 ?_
      refine lv_bipush (v := 63) hx hb dL_law_30 (by decide) ?_
      refine lv_iand hx hb dL_law_32 ?_
      refine lv_topi (fun v e3 => ?_)
      clear e3 ih e1
      by_cases g0 : v.toInt = 0
      · exact lv_tableIn (off := 167) (tgt := 200) hx hb dL_law_33 (by omega) (by omega) (by rw [show (v.toInt - (0)).toNat = 0 from by omega]; rfl) (by decide) (lc_dream hA i hi σ H locs ls hR hQ hP hS hl kk)
      by_cases g1 : v.toInt = 1
      · exact lv_tableIn (off := 210) (tgt := 243) hx hb dL_law_33 (by omega) (by omega) (by rw [show (v.toInt - (0)).toNat = 1 from by omega]; rfl) (by decide) (lc_dreamIs hA i hi σ H locs ls hR hQ hP hS hl kk)
      by_cases g2 : v.toInt = 2
      · exact lv_tableIn (off := 243) (tgt := 276) hx hb dL_law_33 (by omega) (by omega) (by rw [show (v.toInt - (0)).toNat = 2 from by omega]; rfl) (by decide) (lc_become hA i hi σ H locs ls hR hQ hP hS hl kk)
      by_cases g3 : v.toInt = 3
      · exact lv_tableIn (off := 276) (tgt := 309) hx hb dL_law_33 (by omega) (by omega) (by rw [show (v.toInt - (0)).toNat = 3 from by omega]; rfl) (by decide) (lc_as hA i hi σ H locs ls hR hQ hP hS hl kk)
      by_cases g4 : v.toInt = 4
      · exact lv_tableIn (off := 309) (tgt := 342) hx hb dL_law_33 (by omega) (by omega) (by rw [show (v.toInt - (0)).toNat = 4 from by omega]; rfl) (by decide) (lc_forgets hA i hi σ H locs ls hR hQ hP hS hl kk)
      by_cases g5 : v.toInt = 5
      · exact lv_tableIn (off := 342) (tgt := 375) hx hb dL_law_33 (by omega) (by omega) (by rw [show (v.toInt - (0)).toNat = 5 from by omega]; rfl) (by decide) (lc_person hA i hi σ H locs ls hR hQ hP hS hl kk)
      by_cases g6 : v.toInt = 6
      · exact lv_tableIn (off := 365) (tgt := 398) hx hb dL_law_33 (by omega) (by omega) (by rw [show (v.toInt - (0)).toNat = 6 from by omega]; rfl) (by decide) (lc_personIs hA i hi σ H locs ls hR hQ hP hS hl kk)
      by_cases g7 : v.toInt = 7
      · exact lv_tableIn (off := 398) (tgt := 431) hx hb dL_law_33 (by omega) (by omega) (by rw [show (v.toInt - (0)).toNat = 7 from by omega]; rfl) (by decide) (lc_takesTo hA i hi σ H locs ls hR hQ hP hS hl kk)
      by_cases g8 : v.toInt = 8
      · exact lv_tableIn (off := 431) (tgt := 464) hx hb dL_law_33 (by omega) (by omega) (by rw [show (v.toInt - (0)).toNat = 8 from by omega]; rfl) (by decide) (lc_clock hA i hi σ H locs ls hR hQ hP hS hl kk)
      by_cases g9 : v.toInt = 9
      · exact lv_tableIn (off := 464) (tgt := 497) hx hb dL_law_33 (by omega) (by omega) (by rw [show (v.toInt - (0)).toNat = 9 from by omega]; rfl) (by decide) (lc_feed hA i hi σ H locs ls hR hQ hP hS hl kk)
      by_cases g10 : v.toInt = 10
      · exact lv_tableIn (off := 527) (tgt := 560) hx hb dL_law_33 (by omega) (by omega) (by rw [show (v.toInt - (0)).toNat = 10 from by omega]; rfl) (by decide) (lc_text hA i hi σ H locs ls hR hQ hP hS hl kk)
      by_cases g11 : v.toInt = 11
      · exact lv_tableIn (off := 550) (tgt := 583) hx hb dL_law_33 (by omega) (by omega) (by rw [show (v.toInt - (0)).toNat = 11 from by omega]; rfl) (by decide) (lc_untell hA i hi σ H locs ls hR hQ hP hS hl kk)
      by_cases g12 : v.toInt = 12
      · exact lv_tableIn (off := 573) (tgt := 606) hx hb dL_law_33 (by omega) (by omega) (by rw [show (v.toInt - (0)).toNat = 12 from by omega]; rfl) (by decide) (lc_law hA i hi σ H locs ls hR hQ hP hS hl kk)
      by_cases g13 : v.toInt = 13
      · exact lv_tableIn (off := 626) (tgt := 659) hx hb dL_law_33 (by omega) (by omega) (by rw [show (v.toInt - (0)).toNat = 13 from by omega]; rfl) (by decide) (lc_hours hA i hi σ H locs ls hR hQ hP hS hl kk)
      by_cases g14 : v.toInt = 14
      · exact lv_tableIn (off := 649) (tgt := 682) hx hb dL_law_33 (by omega) (by omega) (by rw [show (v.toInt - (0)).toNat = 14 from by omega]; rfl) (by decide) (lc_loose hA i hi σ H locs ls hR hQ hP hS hl kk)
      by_cases g15 : v.toInt = 15
      · exact lv_tableIn (off := 672) (tgt := 705) hx hb dL_law_33 (by omega) (by omega) (by rw [show (v.toInt - (0)).toNat = 15 from by omega]; rfl) (by decide) (lc_seed hA i hi σ H locs ls hR hQ hP hS hl kk)
      by_cases g16 : v.toInt = 16
      · exact lv_tableIn (off := 695) (tgt := 728) hx hb dL_law_33 (by omega) (by omega) (by rw [show (v.toInt - (0)).toNat = 16 from by omega]; rfl) (by decide) (lc_rule hA i hi σ H locs ls hR hQ hP hS hl kk)
      by_cases g17 : v.toInt = 17
      · exact lv_tableIn (off := 728) (tgt := 761) hx hb dL_law_33 (by omega) (by omega) (by rw [show (v.toInt - (0)).toNat = 17 from by omega]; rfl) (by decide) (lc_now hA i hi σ H locs ls hR hQ hP hS hl kk)
      by_cases g18 : v.toInt = 18
      · exact lv_tableIn (off := 751) (tgt := 784) hx hb dL_law_33 (by omega) (by omega) (by rw [show (v.toInt - (0)).toNat = 18 from by omega]; rfl) (by decide) (lc_then hA i hi σ H locs ls hR hQ hP hS hl kk)
      by_cases g19 : v.toInt = 19
      · exact lv_tableIn (off := 784) (tgt := 817) hx hb dL_law_33 (by omega) (by omega) (by rw [show (v.toInt - (0)).toNat = 19 from by omega]; rfl) (by decide) (lc_first hA i hi σ H locs ls hR hQ hP hS hl kk)
      by_cases g20 : v.toInt = 20
      · exact lv_tableIn (off := 817) (tgt := 850) hx hb dL_law_33 (by omega) (by omega) (by rw [show (v.toInt - (0)).toNat = 20 from by omega]; rfl) (by decide) (lc_siestas hA i hi σ H locs ls hR hQ hP hS hl kk)
      by_cases g21 : v.toInt = 21
      · exact lv_tableIn (off := 840) (tgt := 873) hx hb dL_law_33 (by omega) (by omega) (by rw [show (v.toInt - (0)).toNat = 21 from by omega]; rfl) (by decide) (lc_best hA i hi σ H locs ls hR hQ hP hS hl kk)
      by_cases g22 : v.toInt = 22
      · exact lv_tableIn (off := 873) (tgt := 906) hx hb dL_law_33 (by omega) (by omega) (by rw [show (v.toInt - (0)).toNat = 22 from by omega]; rfl) (by decide) (lc_fewest hA i hi σ H locs ls hR hQ hP hS hl kk)
      by_cases g23 : v.toInt = 23
      · exact lv_tableIn (off := 916) (tgt := 949) hx hb dL_law_33 (by omega) (by omega) (by rw [show (v.toInt - (0)).toNat = 23 from by omega]; rfl) (by decide) (lc_odds hA i hi σ H locs ls hR hQ hP hS hl kk)
      by_cases g24 : v.toInt = 24
      · exact lv_tableIn (off := 959) (tgt := 992) hx hb dL_law_33 (by omega) (by omega) (by rw [show (v.toInt - (0)).toNat = 24 from by omega]; rfl) (by decide) (lc_fits hA i hi σ H locs ls hR hQ hP hS hl kk)
      by_cases g25 : v.toInt = 25
      · exact lv_tableIn (off := 982) (tgt := 1015) hx hb dL_law_33 (by omega) (by omega) (by rw [show (v.toInt - (0)).toNat = 25 from by omega]; rfl) (by decide) (lc_voice hA i hi σ H locs ls hR hQ hP hS hl kk)
      by_cases g26 : v.toInt = 26
      · exact lv_tableIn (off := 1025) (tgt := 1058) hx hb dL_law_33 (by omega) (by omega) (by rw [show (v.toInt - (0)).toNat = 26 from by omega]; rfl) (by decide) (lc_body hA i hi σ H locs ls hR hQ hP hS hl kk)
      by_cases g27 : v.toInt = 27
      · exact lv_tableIn (off := 1048) (tgt := 1081) hx hb dL_law_33 (by omega) (by omega) (by rw [show (v.toInt - (0)).toNat = 27 from by omega]; rfl) (by decide) (lc_sheet hA i hi σ H locs ls hR hQ hP hS hl kk)
      by_cases g28 : v.toInt = 28
      · exact lv_tableIn (off := 1091) (tgt := 1124) hx hb dL_law_33 (by omega) (by omega) (by rw [show (v.toInt - (0)).toNat = 28 from by omega]; rfl) (by decide) (lc_put hA i hi σ H locs ls hR hQ hP hS hl kk)
      by_cases g29 : v.toInt = 29
      · exact lv_tableIn (off := 1134) (tgt := 1167) hx hb dL_law_33 (by omega) (by omega) (by rw [show (v.toInt - (0)).toNat = 29 from by omega]; rfl) (by decide) (lc_move hA i hi σ H locs ls hR hQ hP hS hl kk)
      by_cases g30 : v.toInt = 30
      · exact lv_tableIn (off := 1197) (tgt := 1230) hx hb dL_law_33 (by omega) (by omega) (by rw [show (v.toInt - (0)).toNat = 30 from by omega]; rfl) (by decide) (lc_wonts hA i hi σ H locs ls hR hQ hP hS hl kk)
      by_cases g31 : v.toInt = 31
      · exact lv_tableIn (off := 1220) (tgt := 1253) hx hb dL_law_33 (by omega) (by omega) (by rw [show (v.toInt - (0)).toNat = 31 from by omega]; rfl) (by decide) (lc_judge hA i hi σ H locs ls hR hQ hP hS hl kk)
      by_cases g32 : v.toInt = 32
      · exact lv_tableIn (off := 1243) (tgt := 1276) hx hb dL_law_33 (by omega) (by omega) (by rw [show (v.toInt - (0)).toNat = 32 from by omega]; rfl) (by decide) (lc_image hA i hi σ H locs ls hR hQ hP hS hl kk)
      by_cases g33 : v.toInt = 33
      · exact lv_tableIn (off := 1256) (tgt := 1289) hx hb dL_law_33 (by omega) (by omega) (by rw [show (v.toInt - (0)).toNat = 33 from by omega]; rfl) (by decide) (lc_restore hA i hi σ H locs ls hR hQ hP hS hl kk)
      by_cases g34 : v.toInt = 34
      · exact lv_tableIn (off := 1269) (tgt := 1302) hx hb dL_law_33 (by omega) (by omega) (by rw [show (v.toInt - (0)).toNat = 34 from by omega]; rfl) (by decide) (lc_tell hA i hi σ H locs ls hR hQ hP hS hl kk)
      by_cases g35 : v.toInt = 35
      · exact lv_tableIn (off := 1292) (tgt := 1325) hx hb dL_law_33 (by omega) (by omega) (by rw [show (v.toInt - (0)).toNat = 35 from by omega]; rfl) (by decide) (lc_check hA i hi σ H locs ls hR hQ hP hS hl kk)
      by_cases g36 : v.toInt = 36
      · exact lv_tableIn (off := 1305) (tgt := 1338) hx hb dL_law_33 (by omega) (by omega) (by rw [show (v.toInt - (0)).toNat = 36 from by omega]; rfl) (by decide) (lc_count hA i hi σ H locs ls hR hQ hP hS hl kk)
      by_cases g37 : v.toInt = 37
      · exact lv_tableIn (off := 1328) (tgt := 1361) hx hb dL_law_33 (by omega) (by omega) (by rw [show (v.toInt - (0)).toNat = 37 from by omega]; rfl) (by decide) (lc_told hA i hi σ H locs ls hR hQ hP hS hl kk)
      exact lv_tableOut (tgt := 1384) hx hb dL_law_33 (by omega) (by decide) (kk _ _ _ hR hQ hP hS)
