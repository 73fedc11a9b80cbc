/-! ===== from the entry of the law to its loop ===== -/
theorem zz_tyI {s : State} {args : Array Value} (h : (Cond.arrayClass .int).before args s = true) : ∃ cA, ArrOfT s cA .int ∧ va_RA s cA .int := by
  obtain ⟨c, k, comp, h1, h2, h3⟩ := Cond.arrayClass_spec h
  exact ⟨c, fun n z => ⟨fun q e => (by cases e), k, h2, comp, h3⟩, h1⟩
theorem zz_tyB {s : State} {args : Array Value} (h : (Cond.arrayClass .byte).before args s = true) : ∃ cA, ArrOfT s cA .byte ∧ va_RA s cA .byte := by
  obtain ⟨c, k, comp, h1, h2, h3⟩ := Cond.arrayClass_spec h
  exact ⟨c, fun n z => ⟨fun q e => (by cases e), k, h2, comp, h3⟩, h1⟩
theorem zz_tyQ {s : State} {args : Array Value} {C : String} (h : (Cond.arrayOver (.object C)).before args s = true) : ∃ cA, ArrOfT s cA (.object C) ∧ va_RA s cA (.object C) := by
  obtain ⟨comp, c, k, h1, h2, h3, h4, h5⟩ := Cond.arrayOver_spec h
  exact ⟨c, fun n z => ⟨fun q e => (by cases e), k, h3, comp, h4⟩, k, comp, h3, h4, h1, h5⟩
theorem kb_L.keep {cy : Nat → ClassId} {G G1 : Nat → va_E} {h z : Nat} (w : kb_L cy G h z) (e : ∀ q : Nat, q = h ∨ (z ≤ q ∧ q < z + 75) → G1 q = G q) : kb_L cy G1 h z := by
  obtain ⟨a0, a1, a2, ⟨f, a3, a4⟩, a5, ⟨a6, a7⟩, ⟨a8, a9, a10⟩, ⟨a11, a12, a13, a14⟩, a15, a16, a17⟩ := w
  refine ⟨by rw [e _ (Or.inl rfl)]; exact a0, a1.keep (fun q hq => e q (by omega)), a2.keep (fun q hq => e q (by omega)), ⟨f, by rw [e _ (by omega)]; exact a3, a4⟩, fun j hj => ⟨by rw [e _ (by omega)]; exact (a5 j hj).1, by rw [e _ (by omega)]; exact (a5 j hj).2⟩, ⟨by rw [e _ (by omega)]; exact a6, by rw [e _ (by omega)]; exact a7⟩, ⟨by rw [e _ (by omega)]; exact a8, by rw [e _ (by omega)]; exact a9, by rw [e _ (by omega)]; exact a10⟩, ⟨by rw [e _ (by omega)]; exact a11, by rw [e _ (by omega)]; exact a12, by rw [e _ (by omega)]; exact a13, by rw [e _ (by omega)]; exact a14⟩, by rw [e _ (by omega)]; exact a15, by rw [e _ (by omega)]; exact a16, by rw [e _ (by omega)]; exact a17⟩
set_option maxHeartbeats 4000000 in
set_option maxRecDepth 100000 in
theorem zz_statics {s : State} {args : Array Value} {D : va_G} {cy : Nat → ClassId} {x : Nat} (hz : s.heap.size = x) (hts0 : ∀ w ∈ lw_tbl, w.before args s = true) (hs : ∀ c ∈ flatC (Jvm.Cond.and given_1 narrow_1), c.before args s = true) : ∃ st : Nat → Nat, zz_St (D, cy, zz_lay x, st) s s.heap := by
  have hA : ∀ a : Nat, a < s.heap.size → ¬ (fun q : Nat => zz_lay x q ≠ none) a := fun a ha h => by have := zz_lay_lt h; omega
  have hel0 : ∀ j : Nat, j < 7 → (Term.elem (.static "NoonLaw" "ABOVE" "[I") (.int (Int32.ofNat j))).eval args s none [] s = some (zz_tA j) := by
    intro j hj
    rcases (show j = 0 ∨ j = 1 ∨ j = 2 ∨ j = 3 ∨ j = 4 ∨ j = 5 ∨ j = 6 by omega) with rfl | rfl | rfl | rfl | rfl | rfl | rfl
    · exact va_eqt (hs (Cond.eq (.elem (.static "NoonLaw" "ABOVE" "[I") (.int 0)) (.int (-1))) (by decide +kernel))
    · exact va_eqt (hs (Cond.eq (.elem (.static "NoonLaw" "ABOVE" "[I") (.int 1)) (.int 0)) (by decide +kernel))
    · exact va_eqt (hs (Cond.eq (.elem (.static "NoonLaw" "ABOVE" "[I") (.int 2)) (.int 0)) (by decide +kernel))
    · exact va_eqt (hs (Cond.eq (.elem (.static "NoonLaw" "ABOVE" "[I") (.int 3)) (.int 0)) (by decide +kernel))
    · exact va_eqt (hs (Cond.eq (.elem (.static "NoonLaw" "ABOVE" "[I") (.int 4)) (.int 1)) (by decide +kernel))
    · exact va_eqt (hs (Cond.eq (.elem (.static "NoonLaw" "ABOVE" "[I") (.int 5)) (.int 2)) (by decide +kernel))
    · exact va_eqt (hs (Cond.eq (.elem (.static "NoonLaw" "ABOVE" "[I") (.int 6)) (.int 0)) (by decide +kernel))
  obtain ⟨t0, e0, T0⟩ := va_Tof (tm := .static "NoonLaw" "ABOVE" "[I") (ty := .int) (N := 7) (f := zz_tA) (A := fun q : Nat => zz_lay x q ≠ none) (by decide) (hs (Cond.arrayOf (.static "NoonLaw" "ABOVE" "[I") .int) (by decide +kernel)) (va_eqt (hs (Cond.eq (.length (.static "NoonLaw" "ABOVE" "[I")) (.int 7)) (by decide +kernel))) hel0 hA
  have hel1 : ∀ j : Nat, j < 28 → (Term.elem (.static "NoonLaw" "BODY_OF" "[I") (.int (Int32.ofNat j))).eval args s none [] s = some (zz_tB j) := by
    intro j hj
    rcases (show j = 0 ∨ j = 1 ∨ j = 2 ∨ j = 3 ∨ j = 4 ∨ j = 5 ∨ j = 6 ∨ j = 7 ∨ j = 8 ∨ j = 9 ∨ j = 10 ∨ j = 11 ∨ j = 12 ∨ j = 13 ∨ j = 14 ∨ j = 15 ∨ j = 16 ∨ j = 17 ∨ j = 18 ∨ j = 19 ∨ j = 20 ∨ j = 21 ∨ j = 22 ∨ j = 23 ∨ j = 24 ∨ j = 25 ∨ j = 26 ∨ j = 27 by omega) with rfl | rfl | rfl | rfl | rfl | rfl | rfl | rfl | rfl | rfl | rfl | rfl | rfl | rfl | rfl | rfl | rfl | rfl | rfl | rfl | rfl | rfl | rfl | rfl | rfl | rfl | rfl | rfl
    · exact va_eqt (hs (Cond.eq (.elem (.static "NoonLaw" "BODY_OF" "[I") (.int 0)) (.int 10)) (by decide +kernel))
    · exact va_eqt (hs (Cond.eq (.elem (.static "NoonLaw" "BODY_OF" "[I") (.int 1)) (.int 11)) (by decide +kernel))
    · exact va_eqt (hs (Cond.eq (.elem (.static "NoonLaw" "BODY_OF" "[I") (.int 2)) (.int 12)) (by decide +kernel))
    · exact va_eqt (hs (Cond.eq (.elem (.static "NoonLaw" "BODY_OF" "[I") (.int 3)) (.int 13)) (by decide +kernel))
    · exact va_eqt (hs (Cond.eq (.elem (.static "NoonLaw" "BODY_OF" "[I") (.int 4)) (.int 20)) (by decide +kernel))
    · exact va_eqt (hs (Cond.eq (.elem (.static "NoonLaw" "BODY_OF" "[I") (.int 5)) (.int 0)) (by decide +kernel))
    · exact va_eqt (hs (Cond.eq (.elem (.static "NoonLaw" "BODY_OF" "[I") (.int 6)) (.int 0)) (by decide +kernel))
    · exact va_eqt (hs (Cond.eq (.elem (.static "NoonLaw" "BODY_OF" "[I") (.int 7)) (.int 21)) (by decide +kernel))
    · exact va_eqt (hs (Cond.eq (.elem (.static "NoonLaw" "BODY_OF" "[I") (.int 8)) (.int 0)) (by decide +kernel))
    · exact va_eqt (hs (Cond.eq (.elem (.static "NoonLaw" "BODY_OF" "[I") (.int 9)) (.int 30)) (by decide +kernel))
    · exact va_eqt (hs (Cond.eq (.elem (.static "NoonLaw" "BODY_OF" "[I") (.int 10)) (.int 0)) (by decide +kernel))
    · exact va_eqt (hs (Cond.eq (.elem (.static "NoonLaw" "BODY_OF" "[I") (.int 11)) (.int 0)) (by decide +kernel))
    · exact va_eqt (hs (Cond.eq (.elem (.static "NoonLaw" "BODY_OF" "[I") (.int 12)) (.int 0)) (by decide +kernel))
    · exact va_eqt (hs (Cond.eq (.elem (.static "NoonLaw" "BODY_OF" "[I") (.int 13)) (.int 0)) (by decide +kernel))
    · exact va_eqt (hs (Cond.eq (.elem (.static "NoonLaw" "BODY_OF" "[I") (.int 14)) (.int 40)) (by decide +kernel))
    · exact va_eqt (hs (Cond.eq (.elem (.static "NoonLaw" "BODY_OF" "[I") (.int 15)) (.int 0)) (by decide +kernel))
    · exact va_eqt (hs (Cond.eq (.elem (.static "NoonLaw" "BODY_OF" "[I") (.int 16)) (.int 50)) (by decide +kernel))
    · exact va_eqt (hs (Cond.eq (.elem (.static "NoonLaw" "BODY_OF" "[I") (.int 17)) (.int 0)) (by decide +kernel))
    · exact va_eqt (hs (Cond.eq (.elem (.static "NoonLaw" "BODY_OF" "[I") (.int 18)) (.int 51)) (by decide +kernel))
    · exact va_eqt (hs (Cond.eq (.elem (.static "NoonLaw" "BODY_OF" "[I") (.int 19)) (.int 0)) (by decide +kernel))
    · exact va_eqt (hs (Cond.eq (.elem (.static "NoonLaw" "BODY_OF" "[I") (.int 20)) (.int 0)) (by decide +kernel))
    · exact va_eqt (hs (Cond.eq (.elem (.static "NoonLaw" "BODY_OF" "[I") (.int 21)) (.int 60)) (by decide +kernel))
    · exact va_eqt (hs (Cond.eq (.elem (.static "NoonLaw" "BODY_OF" "[I") (.int 22)) (.int 0)) (by decide +kernel))
    · exact va_eqt (hs (Cond.eq (.elem (.static "NoonLaw" "BODY_OF" "[I") (.int 23)) (.int 0)) (by decide +kernel))
    · exact va_eqt (hs (Cond.eq (.elem (.static "NoonLaw" "BODY_OF" "[I") (.int 24)) (.int 70)) (by decide +kernel))
    · exact va_eqt (hs (Cond.eq (.elem (.static "NoonLaw" "BODY_OF" "[I") (.int 25)) (.int 71)) (by decide +kernel))
    · exact va_eqt (hs (Cond.eq (.elem (.static "NoonLaw" "BODY_OF" "[I") (.int 26)) (.int 0)) (by decide +kernel))
    · exact va_eqt (hs (Cond.eq (.elem (.static "NoonLaw" "BODY_OF" "[I") (.int 27)) (.int 0)) (by decide +kernel))
  obtain ⟨t1, e1, T1⟩ := va_Tof (tm := .static "NoonLaw" "BODY_OF" "[I") (ty := .int) (N := 28) (f := zz_tB) (A := fun q : Nat => zz_lay x q ≠ none) (by decide) (hs (Cond.arrayOf (.static "NoonLaw" "BODY_OF" "[I") .int) (by decide +kernel)) (va_eqt (hs (Cond.eq (.length (.static "NoonLaw" "BODY_OF" "[I")) (.int 28)) (by decide +kernel))) hel1 hA
  have hel2 : ∀ j : Nat, j < 6 → (Term.elem (.static "NoonLaw" "NAMES" "[C") (.int (Int32.ofNat j))).eval args s none [] s = some (zz_tN j) := by
    intro j hj
    rcases (show j = 0 ∨ j = 1 ∨ j = 2 ∨ j = 3 ∨ j = 4 ∨ j = 5 by omega) with rfl | rfl | rfl | rfl | rfl | rfl
    · exact va_eqt (hs (Cond.eq (.elem (.static "NoonLaw" "NAMES" "[C") (.int 0)) (.int 103)) (by decide +kernel))
    · exact va_eqt (hs (Cond.eq (.elem (.static "NoonLaw" "NAMES" "[C") (.int 1)) (.int 104)) (by decide +kernel))
    · exact va_eqt (hs (Cond.eq (.elem (.static "NoonLaw" "NAMES" "[C") (.int 2)) (.int 110)) (by decide +kernel))
    · exact va_eqt (hs (Cond.eq (.elem (.static "NoonLaw" "NAMES" "[C") (.int 3)) (.int 107)) (by decide +kernel))
    · exact va_eqt (hs (Cond.eq (.elem (.static "NoonLaw" "NAMES" "[C") (.int 4)) (.int 109)) (by decide +kernel))
    · exact va_eqt (hs (Cond.eq (.elem (.static "NoonLaw" "NAMES" "[C") (.int 5)) (.int 100)) (by decide +kernel))
  obtain ⟨t2, e2, T2⟩ := va_Tof (tm := .static "NoonLaw" "NAMES" "[C") (ty := .char) (N := 6) (f := zz_tN) (A := fun q : Nat => zz_lay x q ≠ none) (by decide) (hs (Cond.arrayOf (.static "NoonLaw" "NAMES" "[C") .char) (by decide +kernel)) (va_eqt (hs (Cond.eq (.length (.static "NoonLaw" "NAMES" "[C")) (.int 6)) (by decide +kernel))) hel2 hA
  refine ⟨(fun k => match k with | 0 => t0 | 1 => t1 | _ => t2), ⟨va_Zof (hts0 (.laysStatic "NoonLaw" "ABOVE" "[I") (List.mem_append_right _ (List.mem_of_getElem? (l := tables_1) (i := 407) (by decide +kernel)))) (hts0 (.initialized "NoonLaw") (List.mem_append_right _ (List.mem_of_getElem? (l := tables_1) (i := 1) (by decide +kernel)))) e0 hA, T0⟩, ⟨va_Zof (hts0 (.laysStatic "NoonLaw" "BODY_OF" "[I") (List.mem_append_right _ (List.mem_of_getElem? (l := tables_1) (i := 659) (by decide +kernel)))) (hts0 (.initialized "NoonLaw") (List.mem_append_right _ (List.mem_of_getElem? (l := tables_1) (i := 1) (by decide +kernel)))) e1 hA, T1⟩, ⟨va_Zof (hts0 (.laysStatic "NoonLaw" "NAMES" "[C") (List.mem_append_right _ (List.mem_of_getElem? (l := tables_1) (i := 513) (by decide +kernel)))) (hts0 (.initialized "NoonLaw") (List.mem_append_right _ (List.mem_of_getElem? (l := tables_1) (i := 1) (by decide +kernel)))) e2 hA, T2⟩⟩
theorem zz_tabs {s : State} {args : Array Value} (hts0 : ∀ w ∈ lw_tbl, w.before args s = true) : kb_N s ∧ zz_Nm s ∧ ∃ cy : Nat → ClassId, ∀ (k : Nat) (q : ClassId × FieldType), (zz_ty cy)[k]? = some q → ArrOfT s q.1 q.2 ∧ va_RA s q.1 q.2 := by
  refine ⟨⟨va_AO.of (hts0 (.arrayOver (.object RX0)) (List.mem_append_right _ (List.mem_of_getElem? (l := tables_1) (i := 29) (by decide +kernel)))), va_AO.of (hts0 (.arrayOver (.object RX1)) (List.mem_append_right _ (List.mem_of_getElem? (l := tables_1) (i := 31) (by decide +kernel)))), va_AO.of (hts0 (.arrayOver (.object RX6)) (List.mem_append_right _ (List.mem_of_getElem? (l := tables_1) (i := 33) (by decide +kernel)))), va_AO.of (hts0 (.arrayOver (.object RX3)) (List.mem_append_right _ (List.mem_of_getElem? (l := tables_1) (i := 167) (by decide +kernel)))), va_Nw.of rfl (hts0 (.methodLinkNest RX2 44 yX0_init "NoonLaw") (List.mem_append_right _ (List.mem_of_getElem? (l := tables_1) (i := 35) (by decide +kernel)))), va_Nw.of rfl (hts0 (.methodLinkNest RX2 45 yX1_init "NoonLaw") (List.mem_append_right _ (List.mem_of_getElem? (l := tables_1) (i := 77) (by decide +kernel)))), va_Nw.of rfl (hts0 (.methodLinkNest RX2 46 yX6_init "NoonLaw") (List.mem_append_right _ (List.mem_of_getElem? (l := tables_1) (i := 93) (by decide +kernel)))), va_Nw.of rfl (hts0 (.methodLinkNest RX8 27 yX5_init "NoonLaw") (List.mem_append_right _ (List.mem_of_getElem? (l := tables_1) (i := 170) (by decide +kernel)))), va_Nw.of rfl (hts0 (.methodLinkNest RX8 34 yX7_init "NoonLaw") (List.mem_append_right _ (List.mem_of_getElem? (l := tables_1) (i := 198) (by decide +kernel)))), va_Nw.of rfl (hts0 (.methodLinkNest RX8 41 yX4_init "NoonLaw") (List.mem_append_right _ (List.mem_of_getElem? (l := tables_1) (i := 226) (by decide +kernel)))), va_Nw.of rfl (hts0 (.methodLinkNest RX8 56 yX3_init "NoonLaw") (List.mem_append_right _ (List.mem_of_getElem? (l := tables_1) (i := 261) (by decide +kernel))))⟩, ⟨va_Nw.of rfl (hts0 (.methodLinkNest RX0 30 yX8_above "NoonLaw") (List.mem_append_right _ (List.mem_of_getElem? (l := tables_1) (i := 403) (by decide +kernel)))), va_Nw.of rfl (hts0 (.methodLinkNest RX4 42 yX8_isMatter "NoonLaw") (List.mem_append_right _ (List.mem_of_getElem? (l := tables_1) (i := 432) (by decide +kernel)))), va_Nw.of rfl (hts0 (.methodLinkNest RX7 86 yX8_within "NoonLaw") (List.mem_append_right _ (List.mem_of_getElem? (l := tables_1) (i := 514) (by decide +kernel)))), va_Nw.of rfl (hts0 (.methodLinkNest RX5 44 yX8_above "NoonLaw") (List.mem_append_right _ (List.mem_of_getElem? (l := tables_1) (i := 660) (by decide +kernel)))), va_Nw.of rfl (hts0 (.fieldLinkNest RX7 82 "NoonLaw" "NAMES" "[C" "NoonLaw") (List.mem_append_right _ (List.mem_of_getElem? (l := tables_1) (i := 512) (by decide +kernel)))), va_Nw.of rfl (hts0 (.fieldLinkNest RX5 59 "NoonLaw" "BODY_OF" "[I" "NoonLaw") (List.mem_append_right _ (List.mem_of_getElem? (l := tables_1) (i := 658) (by decide +kernel))))⟩, ?_⟩
  obtain ⟨c0, a0⟩ := zz_tyI (hts0 (.arrayClass .int) (List.mem_append_right _ (List.mem_of_getElem? (l := tables_1) (i := 75) (by decide +kernel))))
  obtain ⟨c1, a1⟩ := zz_tyB (hts0 (.arrayClass .byte) (List.mem_append_right _ (List.mem_of_getElem? (l := tables_1) (i := 74) (by decide +kernel))))
  obtain ⟨c2, a2⟩ := zz_tyQ (hts0 (.arrayOver (.object RX0)) (List.mem_append_right _ (List.mem_of_getElem? (l := tables_1) (i := 29) (by decide +kernel))))
  obtain ⟨c3, a3⟩ := zz_tyQ (hts0 (.arrayOver (.object RX1)) (List.mem_append_right _ (List.mem_of_getElem? (l := tables_1) (i := 31) (by decide +kernel))))
  obtain ⟨c4, a4⟩ := zz_tyQ (hts0 (.arrayOver (.object RX6)) (List.mem_append_right _ (List.mem_of_getElem? (l := tables_1) (i := 33) (by decide +kernel))))
  obtain ⟨c5, a5⟩ := zz_tyQ (hts0 (.arrayOver (.object RX3)) (List.mem_append_right _ (List.mem_of_getElem? (l := tables_1) (i := 167) (by decide +kernel))))
  refine ⟨(fun k => match k with | 0 => c0 | 1 => c1 | 2 => c2 | 3 => c3 | 4 => c4 | _ => c5), fun k q hq => ?_⟩
  match k, hq with
  | 0, hq => cases hq; exact a0
  | 1, hq => cases hq; exact a1
  | 2, hq => cases hq; exact a2
  | 3, hq => cases hq; exact a3
  | 4, hq => cases hq; exact a4
  | 5, hq => cases hq; exact a5
  | k + 6, hq => simp [zz_ty] at hq
theorem zz_classes {s : State} {args : Array Value} (hts0 : ∀ w ∈ lw_tbl, w.before args s = true) : ∃ D : va_G, ∀ (k : Nat) (q : vw_C), vwCl[k]? = some q → u_Kn s q.1 q.2.1 q.2.2 (D.1 k) (D.2 k) := by
  have hts : ∀ w ∈ wsL_law, w.before args s = true := fun w hw => hts0 w (wsL_law_in w hw)
  obtain ⟨d0, j0, n0⟩ := u_known (C := RX0) (T := TX0) (N := 6) (n := 6) hts0 (fun w h => (zi_wsX00 w h).1) (hts (.instantiable RX0 6) bm_53)
  obtain ⟨d1, j1, n1⟩ := u_known (C := RX1) (T := TX1) (N := 2) (n := 2) hts0 (fun w h => (zi_wsX10 w h).1) (hts (.instantiable RX1 2) bm_55)
  obtain ⟨d2, j2, n2⟩ := u_known (C := RX2) (T := TX2) (N := 12) (n := 12) hts0 (fun w h => (zi_wsX20 w h).1) (hts (.instantiable RX2 12) bm_14)
  obtain ⟨d3, j3, n3⟩ := u_known (C := RX3) (T := TX3) (N := 3) (n := 3) hts0 (fun w h => (zi_wsX30 w h).1) (hts (.instantiable RX3 3) bm_36)
  obtain ⟨d4, j4, n4⟩ := u_known (C := RX4) (T := TX4) (N := 8) (n := 8) hts0 (fun w h => (zi_wsX40 w h).1) (hts (.instantiable RX4 8) bm_29)
  obtain ⟨d5, j5, n5⟩ := u_known (C := RX5) (T := TX5) (N := 6) (n := 6) hts0 (fun w h => (zi_wsX50 w h).1) (hts (.instantiable RX5 6) bm_21)
  obtain ⟨d6, j6, n6⟩ := u_known (C := RX6) (T := TX6) (N := 4) (n := 4) hts0 (fun w h => (zi_wsX60 w h).1) (hts (.instantiable RX6 4) bm_57)
  obtain ⟨d7, j7, n7⟩ := u_known (C := RX7) (T := TX7) (N := 6) (n := 6) hts0 (fun w h => (zi_wsX70 w h).1) (hts (.instantiable RX7 6) bm_25)
  obtain ⟨d8, j8, n8⟩ := u_known (C := RX8) (T := TX8) (N := 10) (n := 10) hts0 (fun w h => (zi_wsX80 w h).1) (hts (.instantiable RX8 10) bm_1)
  obtain ⟨d9, j9, n9⟩ := u_known (C := RX9) (T := TX9) (N := 20) (n := 20) hts0 (fun w h => (zi_wsX90 w h).1) (hts (.instantiable RX9 20) bm_4)
  refine ⟨((fun k => match k with | 0 => d0 | 1 => d1 | 2 => d2 | 3 => d3 | 4 => d4 | 5 => d5 | 6 => d6 | 7 => d7 | 8 => d8 | _ => d9), (fun k => match k with | 0 => j0 | 1 => j1 | 2 => j2 | 3 => j3 | 4 => j4 | 5 => j5 | 6 => j6 | 7 => j7 | 8 => j8 | _ => j9)), fun k q hq => ?_⟩
  match k, hq with
  | 0, hq => cases hq; exact n0
  | 1, hq => cases hq; exact n1
  | 2, hq => cases hq; exact n2
  | 3, hq => cases hq; exact n3
  | 4, hq => cases hq; exact n4
  | 5, hq => cases hq; exact n5
  | 6, hq => cases hq; exact n6
  | 7, hq => cases hq; exact n7
  | 8, hq => cases hq; exact n8
  | 9, hq => cases hq; exact n9
  | k + 10, hq => simp [vwCl] at hq
theorem gL_law_X8_init : GoodIn wsL_law (wzX8_init) := wz_inL bm_9
theorem gL_law_X9_init : GoodIn wsL_law (wzX9_init) := wz_inL bm_91
set_option maxHeartbeats 4000000 in
set_option maxRecDepth 100000 in
/-- from the entry, for every script of at most 3072 ints, the law comes to its end with true -/
theorem whole_start {p : Program} {e : Env} {s : State} {m : MethodId} {below : List Frame} {meth : Method} {c : Code} (l : Launch) (hflags : l.flags = flags0) {b L : Nat} {xs : Nat → Int32} (hL : L ≤ 3072) (C0 : lw_At p s m meth c b L xs) : W p l e room_1 s m #[Value.ref b] below meth c s.heap [] 0 0 (lw_Z below #[Value.ref b] s) (entryFrame m ([Value.ref b] : List Value).toArray 4) := by
  obtain ⟨hx, hb, hr, hml, hown, hts0, hX, hbl, hlocks, hgv⟩ := C0
  have hown : s.vm.findClass RL = some m.cls := hown
  have hts : ∀ w ∈ wsL_law, w.before #[Value.ref b] s = true := fun w hw => hts0 w (wsL_law_in w hw)
  have hs := flat_of_before _ hgv
  obtain ⟨D, hD⟩ := zz_classes hts0
  obtain ⟨hN, hNm, cy, hcy⟩ := zz_tabs hts0
  have hK1 : va_K D vwCl (zz_ty cy) s := ⟨hD, hcy⟩
  have hKb : kb_K D cy s := ⟨hK1, hN⟩
  obtain ⟨z, hz⟩ : ∃ z : Nat, s.heap.size = z := ⟨_, rfl⟩
  obtain ⟨st, hSt⟩ := zz_statics (D := D) (cy := cy) hz hts0 hs
  have hS : va_S (fun q : Nat => z ≤ q) s.heap s.heap [] := va_S.rf
  have hP : kb_P D z (fun _ => .inr (0, [])) z s.heap := ⟨hz, Nat.le_refl _, fun a h1 h2 => absurd h2 (Nat.not_lt.mpr h1)⟩
  have hl := lv_entry ([.ref b]) (n := 4) (Nat.le_of_ble_eq_true rfl)
  rw [lg_entry_eq]
  generalize (lg_sl ([.ref b]) ++ List.replicate (4 - (lg_sl ([.ref b])).length) Slot.unset).toArray = ls at hl ⊢
  have hl : lv_has ls 4 [(0, .ref b)] := hl
  refine kb_new (C := RX8) (T := TX8) (N := 10) hx hb hts0 (fun w h => (zi_wsX80 w h).1) tyX8 tyX8_ok hown (hts (.classLink RL 7 RX8) bm_0) (hts (.instantiable RX8 10) bm_1) (hts (.initialized RX8) bm_2) hKb hP hS (ci := 8) rfl [.null, .null, .int 0, .null, .null, .null, .null, .null, .null, .null] (fun j hj => by rcases (show j = 0 ∨ j = 1 ∨ j = 2 ∨ j = 3 ∨ j = 4 ∨ j = 5 ∨ j = 6 ∨ j = 7 ∨ j = 8 ∨ j = 9 by omega) with rfl | rfl | rfl | rfl | rfl | rfl | rfl | rfl | rfl | rfl <;> rfl) (Nat.le_of_ble_eq_true rfl) (Nat.le_of_ble_eq_true rfl) dL_law_0 (fun H hP hS => ?_)
  obtain ⟨G1, eG1⟩ : ∃ q, q = kb_u (fun _ => .inr (0, [])) z (.inr (8, [.null, .null, .int 0, .null, .null, .null, .null, .null, .null, .null])) := ⟨_, rfl⟩
  rw [← eG1] at hP
  have o1 : G1 z = .inr (8, [.null, .null, .int 0, .null, .null, .null, .null, .null, .null, .null]) := by rw [eG1]; exact kb_us
  refine lv_dup hx hb dL_law_3 rfl ?_
  refine kb_callI (rest := [.ref z]) ⟨hx, hb, hml, hown, hts⟩ hKb hP hS (c_X8_init l D cy z G1 (z + 1) z (Nat.le_refl z) (Nat.lt_succ_self z) o1) (cwI 0 hts gL_law_X8_init rfl rfl rfl (hts (.initialized RX8) bm_2) (hts (.methodLink RL 9 yX8_init) bm_7) (hts (.instanceMethod yX8_init) bm_8) rfl (by decide +kernel) ⟨Nat.le_of_ble_eq_true rfl, Nat.le_of_ble_eq_true rfl⟩) hl.1 (Nat.le_of_ble_eq_true rfl) dL_law_4 ⟨Nat.le_of_ble_eq_true rfl, Nat.le_of_ble_eq_true rfl⟩ (fun G2 H locs w2 hP hS => ?_)
  obtain ⟨hL2, -⟩ := w2
  have hP : kb_P D z G2 (z + 76) H := hP
  refine lv_astore_n (lv' := [(1, .ref z), (0, .ref b)]) hx hb dL_law_7 rfl hl (by decide) rfl (fun ls hl => ?_)
  refine kb_new (C := RX9) (T := TX9) (N := 20) hx hb hts0 (fun w h => (zi_wsX90 w h).1) tyX9 tyX9_ok hown (hts (.classLink RL 10 RX9) bm_3) (hts (.instantiable RX9 20) bm_4) (hts (.initialized RX9) bm_5) hKb hP hS (ci := 9) rfl [.null, .null, .int 0, .null, .null, .null, .null, .null, .null, .null, .null, .int 0, .int 0, .int 0, .int 0, .int 0, .null, .null, .int 0, .int 0] (fun j hj => by rcases (show j = 0 ∨ j = 1 ∨ j = 2 ∨ j = 3 ∨ j = 4 ∨ j = 5 ∨ j = 6 ∨ j = 7 ∨ j = 8 ∨ j = 9 ∨ j = 10 ∨ j = 11 ∨ j = 12 ∨ j = 13 ∨ j = 14 ∨ j = 15 ∨ j = 16 ∨ j = 17 ∨ j = 18 ∨ j = 19 by omega) with rfl | rfl | rfl | rfl | rfl | rfl | rfl | rfl | rfl | rfl | rfl | rfl | rfl | rfl | rfl | rfl | rfl | rfl | rfl | rfl <;> rfl) (Nat.le_of_ble_eq_true rfl) (Nat.le_of_ble_eq_true rfl) dL_law_8 (fun H hP hS => ?_)
  obtain ⟨G3, eG3⟩ : ∃ q, q = kb_u G2 (z + 76) (.inr (9, [.null, .null, .int 0, .null, .null, .null, .null, .null, .null, .null, .null, .int 0, .int 0, .int 0, .int 0, .int 0, .null, .null, .int 0, .int 0])) := ⟨_, rfl⟩
  rw [← eG3] at hP
  have hP : kb_P D z G3 (z + 77) H := hP
  have o3 : G3 (z + 76) = .inr (9, [.null, .null, .int 0, .null, .null, .null, .null, .null, .null, .null, .null, .int 0, .int 0, .int 0, .int 0, .int 0, .null, .null, .int 0, .int 0]) := by rw [eG3]; exact kb_us
  have hL3 : kb_L cy G3 z (z + 1) := hL2.keep (fun q hq => by rw [eG3, kb_un (by omega)])
  refine lv_dup hx hb dL_law_11 rfl ?_
  refine kb_callI (rest := [.ref (z + 76)]) ⟨hx, hb, hml, hown, hts⟩ hKb hP hS (c_X9_init l D cy z G3 (z + 77) (z + 76) (by omega) (by omega) o3) (cwI 0 hts gL_law_X9_init rfl rfl rfl (hts (.initialized RX9) bm_5) (hts (.methodLink RL 12 yX9_init) bm_89) (hts (.instanceMethod yX9_init) bm_90) rfl (by decide +kernel) ⟨Nat.le_of_ble_eq_true rfl, Nat.le_of_ble_eq_true rfl⟩) hl.1 (Nat.le_of_ble_eq_true rfl) dL_law_12 ⟨Nat.le_of_ble_eq_true rfl, Nat.le_of_ble_eq_true rfl⟩ (fun G4 H locs w4 hP hS => ?_)
  obtain ⟨hM4, hF4⟩ := w4
  have hM4 : kb_M cy G4 (z + 76) (z + 77) := hM4
  have hP : kb_P D z G4 (z + 89) H := hP
  have hL4 : kb_L cy G4 z (z + 1) := hL3.keep (fun q hq => hF4 q (by omega) (by omega))
  refine lv_astore_n (lv' := [(2, .ref (z + 76)), (1, .ref z), (0, .ref b)]) hx hb dL_law_15 rfl hl (by decide) rfl (fun ls hl => ?_)
  refine lv_iconst (v := 0) hx hb dL_law_16 (by decide) ?_
  refine lv_istore_n (lv' := [(3, .int 0), (2, .ref (z + 76)), (1, .ref z), (0, .ref b)]) hx hb dL_law_17 rfl hl (by decide) rfl (fun ls hl => ?_)
  refine va_forget (fun q hq => by rw [hz]; exact hS.2.2 q hq) ?_
  refine W.widen (k := 600000) (n := 7302250) (Nat.le_of_ble_eq_true rfl) (Nat.le_of_ble_eq_true rfl) ?_
  have hKn : zz_Kn (D, cy, zz_lay z, st) s := ⟨hK1, hSt, hNm⟩
  have hbE : ∀ a : Nat, zz_A (D, cy, zz_lay z, st) a → s.heap.size ≤ a := fun a h => by have := zz_lay_lt h; omega
  have hA : zz_LA p s m c b L xs (D, cy, zz_lay z, st) z (z + 76) := ⟨hx, hb, hml, hown, hts, hX, hbl, hbE, hL, zz_lay_L z, zz_lay_M z, Nat.le_refl _, hKn⟩
  have hS1 : va_S (zz_A (D, cy, zz_lay z, st)) s.heap H [] := ⟨hS.1, fun q h1 _ => hS.2.1 q h1 (by show ¬ z ≤ q; omega), fun q hq => absurd hq List.not_mem_nil⟩
  have k0 : (0 : Int32).toInt = 0 := by decide
  exact law_loop hA hr hlocks 5000 0 (fun a => zz_sg (G4 a)) H [] ls (by omega) (by omega) (by omega) (zz_start_RL hL4 hM4) (zz_start_RD hL4 hM4) (zz_start_P hP (Nat.le_refl z) hL4 hM4) hS1 (lv_sub hl [3, 2, 1, 0] rfl)
