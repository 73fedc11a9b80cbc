set_option maxHeartbeats 8000000 in
set_option maxRecDepth 100000 in
theorem c_X9_init (l : Launch) (D : va_G) (cy : Nat → ClassId) (b : Nat) (G : Nat → va_E) (z h0 : Nat) (zqhb0 : b ≤ h0) (hz0 : h0 < z) (zqoh : G h0 = .inr (9, [.null, .null, .int 0, .null, .null, .null, .null, .null, .null, .null, .null, .int 0, .int 0, .int 0, .int 0, .int 0, .null, .null, .int 0, .int 0])) : Met l yX9_init wzX9_init ({ frames := 1, cells := 12, slots := 3282, locals := 12 }) (va_Pc [.ref h0] (kb_B D cy b G z)) (va_Qv (fun G1 => (G1 h0 = .inr (9, [.ref z, .ref (z + 1), .int 0, .ref (z + 2), .ref (z + 3), .ref (z + 4), .ref (z + 5), .ref (z + 6), .ref (z + 7), .ref (z + 8), .ref (z + 9), .int 0, .int 0, .int 0, .int 0, .int 0, .ref (z + 10), .ref (z + 11), .int 0, .int 0]) ∧ G1 z = .inl (cy 0, 399, .inl (upd (upd (fun _ => 0) 1 1) 4 22)) ∧ G1 (z + 1) = .inl (cy 0, 399, .inl (fun _ => 0)) ∧ G1 (z + 2) = .inl (cy 0, 7, .inl (fun _ => 0)) ∧ G1 (z + 3) = .inl (cy 0, 4, .inl (fun _ => 0)) ∧ G1 (z + 4) = .inl (cy 0, 4, .inl (fun _ => 0)) ∧ G1 (z + 5) = .inl (cy 0, 96, .inl (fun _ => 0)) ∧ G1 (z + 6) = .inl (cy 0, 60, .inl (fun _ => 0)) ∧ G1 (z + 7) = .inl (cy 0, 60, .inl (fun _ => 0)) ∧ G1 (z + 8) = .inl (cy 0, 3, .inl (fun _ => 0)) ∧ G1 (z + 9) = .inl (cy 0, 60, .inl (fun _ => 0)) ∧ G1 (z + 10) = .inl (cy 0, 2160, .inl (fun _ => 0)) ∧ G1 (z + 11) = .inl (cy 0, 30, .inl (fun _ => 0))) ∧ ∀ q : Nat, q ≠ h0 → q < z → G1 q = G q) (fun G1 => kb_B D cy b G1 (z + 12)) (fun q : Nat => b ≤ q)) 12 3282 (fun q : Nat => b ≤ q) := by
  refine kb_met (cc := cX9_init) (maxL := 1) (by decide) rfl (Nat.le_of_ble_eq_true rfl) ?_
  intro p e s m args below meth c ls hx hb hr hts hown hlocks hml zqhin hK zqhP zqhS hl
  have hl : lv_has ls 1 [(0, .ref h0)] := hl
  have hown : s.vm.findClass RX9 = some m.cls := hown
  have zqhin : meth.name = "<init>" := zqhin
  have zqhF : ∀ q : Nat, q ≠ h0 → q < z → G q = G q := fun _ _ _ => rfl
  generalize hlocs0 : ([] : List Loc) = zqlocs at zqhS ⊢
  have hi9 : ∀ w ∈ wsX90, w ∈ wzX9_init := fun w h => List.mem_cons_of_mem _ (hbw9 w h)
  refine lv_aload_n hx hb dX9_init_0 rfl (lv_at hl 0 rfl) ?_
  refine W.objInit hx hb hown (hts (.methodLink RX9 3 objectInit) (List.mem_cons_of_mem _ bm_92)) (hts (.instanceMethod objectInit) (List.mem_cons_of_mem _ bm_11)) (hts (.code objectInit ⟨#[0xb1]⟩ 1 none) (List.mem_cons_of_mem _ bm_12)) rfl (by rw [hml]; exact hl.1) rfl dX9_init_1 (Nat.le_of_ble_eq_true rfl) (Nat.le_of_ble_eq_true rfl) ?_
  refine W.eq (g2 := F0 m 4 ls []) rfl ?_
  refine lv_aload_n hx hb dX9_init_4 rfl (lv_at hl 0 rfl) ?_
  refine lv_sipush (v := 399) hx hb dX9_init_5 (by decide) ?_
  refine kb_newa (atype := .int) (ty := .int) hx hb (hts (.arrayClass .int) (List.mem_cons_of_mem _ bm_32)) 0 rfl rfl (fun _ _ h => h) hK zqhP zqhS (n := 399) (N' := 399) rfl (by decide) (by decide) (Nat.le_of_ble_eq_true rfl) (Nat.le_of_ble_eq_true rfl) (Nat.le_of_ble_eq_true rfl) dX9_init_8 (fun zqH1 zqhP1 zqhS1 => ?_)
  replace zqhP := zqhP1
  replace zqhS := zqhS1
  clear zqhP1 zqhS1
  obtain ⟨G1, zqeG⟩ : ∃ q, q = kb_u G z (.inl (cy 0, 399, .inl (fun _ => 0))) := ⟨_, rfl⟩
  rw [← zqeG] at zqhP
  have zqhk : ∀ q : Nat, q ≠ z → G1 q = G q := fun q hq => by rw [zqeG]; exact kb_un hq
  replace zqhF : ∀ q : Nat, q ≠ h0 → q < z → G1 q = G q := fun q h1 h2 => (zqhk q (by omega)).trans (zqhF q h1 h2)
  replace zqoh : G1 h0 = .inr (9, [.null, .null, .int 0, .null, .null, .null, .null, .null, .null, .null, .null, .int 0, .int 0, .int 0, .int 0, .int 0, .null, .null, .int 0, .int 0]) := (zqhk _ (kb_h1 hz0 0)).trans zqoh
  have zqo1 : G1 z = .inl (cy 0, 399, .inl (fun _ => 0)) := by rw [zqeG]; exact kb_us
  clear zqeG zqhk
  replace zqhP : kb_P D b G1 (z + 1) zqH1 := zqhP
  refine kb_putF (v := .ref z) (ty := .array .int) hx hb hts hi9 tyX9 tyX9_ok nmX9 hown hK zqhP zqhS (by omega) (by omega) zqoh rfl 0 (by decide) (hts (.fieldLink RX9 9 "NoonLawModel" "row" "[I") (List.mem_cons_of_mem _ bm_93)) rfl rfl zqhin rfl (by decide +kernel) rfl rfl (Nat.le_of_ble_eq_true rfl) dX9_init_10 (fun zqH1 zqlocs1 zqhP1 zqhS1 => ?_)
  replace zqhP := zqhP1
  replace zqhS := zqhS1
  clear zqhP1 zqhS1
  replace zqhP : kb_P D b (kb_u G1 h0 (.inr (9, [.ref z, .null, .int 0, .null, .null, .null, .null, .null, .null, .null, .null, .int 0, .int 0, .int 0, .int 0, .int 0, .null, .null, .int 0, .int 0]))) (z + 1) zqH1 := zqhP
  obtain ⟨G2, zqeG⟩ : ∃ q, q = kb_u G1 h0 (.inr (9, [.ref z, .null, .int 0, .null, .null, .null, .null, .null, .null, .null, .null, .int 0, .int 0, .int 0, .int 0, .int 0, .null, .null, .int 0, .int 0])) := ⟨_, rfl⟩
  rw [← zqeG] at zqhP
  have zqhk : ∀ q : Nat, q ≠ h0 → G2 q = G1 q := fun q hq => by rw [zqeG]; exact kb_un hq
  replace zqhF : ∀ q : Nat, q ≠ h0 → q < z → G2 q = G q := fun q h1 h2 => (zqhk q h1).trans (zqhF q h1 h2)
  replace zqo1 : G2 z = .inl (cy 0, 399, .inl (fun _ => 0)) := (zqhk _ (kb_h2 hz0 0)).trans zqo1
  replace zqoh : G2 h0 = .inr (9, [.ref z, .null, .int 0, .null, .null, .null, .null, .null, .null, .null, .null, .int 0, .int 0, .int 0, .int 0, .int 0, .null, .null, .int 0, .int 0]) := by rw [zqeG]; exact kb_us
  clear zqeG zqhk
  refine lv_aload_n hx hb dX9_init_13 rfl (lv_at hl 0 rfl) ?_
  refine lv_sipush (v := 399) hx hb dX9_init_14 (by decide) ?_
  refine kb_newa (atype := .int) (ty := .int) hx hb (hts (.arrayClass .int) (List.mem_cons_of_mem _ bm_32)) 0 rfl rfl (fun _ _ h => h) hK zqhP zqhS (n := 399) (N' := 399) rfl (by decide) (by decide) (Nat.le_of_ble_eq_true rfl) (Nat.le_of_ble_eq_true rfl) (Nat.le_of_ble_eq_true rfl) dX9_init_17 (fun zqH1 zqhP1 zqhS1 => ?_)
  replace zqhP := zqhP1
  replace zqhS := zqhS1
  clear zqhP1 zqhS1
  obtain ⟨G3, zqeG⟩ : ∃ q, q = kb_u G2 (z + 1) (.inl (cy 0, 399, .inl (fun _ => 0))) := ⟨_, rfl⟩
  rw [← zqeG] at zqhP
  have zqhk : ∀ q : Nat, q ≠ z + 1 → G3 q = G2 q := fun q hq => by rw [zqeG]; exact kb_un hq
  replace zqhF : ∀ q : Nat, q ≠ h0 → q < z → G3 q = G q := fun q h1 h2 => (zqhk q (by omega)).trans (zqhF q h1 h2)
  replace zqo1 : G3 z = .inl (cy 0, 399, .inl (fun _ => 0)) := (zqhk _ (kb_ne z (show 0 ≠ 1 by decide))).trans zqo1
  replace zqoh : G3 h0 = .inr (9, [.ref z, .null, .int 0, .null, .null, .null, .null, .null, .null, .null, .null, .int 0, .int 0, .int 0, .int 0, .int 0, .null, .null, .int 0, .int 0]) := (zqhk _ (kb_h1 hz0 1)).trans zqoh
  have zqo3 : G3 (z + 1) = .inl (cy 0, 399, .inl (fun _ => 0)) := by rw [zqeG]; exact kb_us
  clear zqeG zqhk
  replace zqhP : kb_P D b G3 (z + 2) zqH1 := zqhP
  refine kb_putF (v := .ref (z + 1)) (ty := .array .int) hx hb hts hi9 tyX9 tyX9_ok nmX9 hown hK zqhP zqhS (by omega) (by omega) zqoh rfl 1 (by decide) (hts (.fieldLink RX9 13 "NoonLawModel" "kept" "[I") (List.mem_cons_of_mem _ bm_94)) rfl rfl zqhin rfl (by decide +kernel) rfl rfl (Nat.le_of_ble_eq_true rfl) dX9_init_19 (fun zqH1 zqlocs1 zqhP1 zqhS1 => ?_)
  replace zqhP := zqhP1
  replace zqhS := zqhS1
  clear zqhP1 zqhS1
  replace zqhP : kb_P D b (kb_u G3 h0 (.inr (9, [.ref z, .ref (z + 1), .int 0, .null, .null, .null, .null, .null, .null, .null, .null, .int 0, .int 0, .int 0, .int 0, .int 0, .null, .null, .int 0, .int 0]))) (z + 2) zqH1 := zqhP
  obtain ⟨G4, zqeG⟩ : ∃ q, q = kb_u G3 h0 (.inr (9, [.ref z, .ref (z + 1), .int 0, .null, .null, .null, .null, .null, .null, .null, .null, .int 0, .int 0, .int 0, .int 0, .int 0, .null, .null, .int 0, .int 0])) := ⟨_, rfl⟩
  rw [← zqeG] at zqhP
  have zqhk : ∀ q : Nat, q ≠ h0 → G4 q = G3 q := fun q hq => by rw [zqeG]; exact kb_un hq
  replace zqhF : ∀ q : Nat, q ≠ h0 → q < z → G4 q = G q := fun q h1 h2 => (zqhk q h1).trans (zqhF q h1 h2)
  replace zqo1 : G4 z = .inl (cy 0, 399, .inl (fun _ => 0)) := (zqhk _ (kb_h2 hz0 0)).trans zqo1
  replace zqo3 : G4 (z + 1) = .inl (cy 0, 399, .inl (fun _ => 0)) := (zqhk _ (kb_h2 hz0 1)).trans zqo3
  replace zqoh : G4 h0 = .inr (9, [.ref z, .ref (z + 1), .int 0, .null, .null, .null, .null, .null, .null, .null, .null, .int 0, .int 0, .int 0, .int 0, .int 0, .null, .null, .int 0, .int 0]) := by rw [zqeG]; exact kb_us
  clear zqeG zqhk
  refine lv_aload_n hx hb dX9_init_22 rfl (lv_at hl 0 rfl) ?_
  refine lv_bipush (v := 7) hx hb dX9_init_23 (by decide) ?_
  refine kb_newa (atype := .int) (ty := .int) hx hb (hts (.arrayClass .int) (List.mem_cons_of_mem _ bm_32)) 0 rfl rfl (fun _ _ h => h) hK zqhP zqhS (n := 7) (N' := 7) rfl (by decide) (by decide) (Nat.le_of_ble_eq_true rfl) (Nat.le_of_ble_eq_true rfl) (Nat.le_of_ble_eq_true rfl) dX9_init_25 (fun zqH1 zqhP1 zqhS1 => ?_)
  replace zqhP := zqhP1
  replace zqhS := zqhS1
  clear zqhP1 zqhS1
  obtain ⟨G5, zqeG⟩ : ∃ q, q = kb_u G4 (z + 2) (.inl (cy 0, 7, .inl (fun _ => 0))) := ⟨_, rfl⟩
  rw [← zqeG] at zqhP
  have zqhk : ∀ q : Nat, q ≠ z + 2 → G5 q = G4 q := fun q hq => by rw [zqeG]; exact kb_un hq
  replace zqhF : ∀ q : Nat, q ≠ h0 → q < z → G5 q = G q := fun q h1 h2 => (zqhk q (by omega)).trans (zqhF q h1 h2)
  replace zqo1 : G5 z = .inl (cy 0, 399, .inl (fun _ => 0)) := (zqhk _ (kb_ne z (show 0 ≠ 2 by decide))).trans zqo1
  replace zqo3 : G5 (z + 1) = .inl (cy 0, 399, .inl (fun _ => 0)) := (zqhk _ (kb_ne z (show 1 ≠ 2 by decide))).trans zqo3
  replace zqoh : G5 h0 = .inr (9, [.ref z, .ref (z + 1), .int 0, .null, .null, .null, .null, .null, .null, .null, .null, .int 0, .int 0, .int 0, .int 0, .int 0, .null, .null, .int 0, .int 0]) := (zqhk _ (kb_h1 hz0 2)).trans zqoh
  have zqo5 : G5 (z + 2) = .inl (cy 0, 7, .inl (fun _ => 0)) := by rw [zqeG]; exact kb_us
  clear zqeG zqhk
  replace zqhP : kb_P D b G5 (z + 3) zqH1 := zqhP
  refine kb_putF (v := .ref (z + 2)) (ty := .array .int) hx hb hts hi9 tyX9 tyX9_ok nmX9 hown hK zqhP zqhS (by omega) (by omega) zqoh rfl 3 (by decide) (hts (.fieldLink RX9 16 "NoonLawModel" "errors" "[I") (List.mem_cons_of_mem _ bm_95)) rfl rfl zqhin rfl (by decide +kernel) rfl rfl (Nat.le_of_ble_eq_true rfl) dX9_init_27 (fun zqH1 zqlocs1 zqhP1 zqhS1 => ?_)
  replace zqhP := zqhP1
  replace zqhS := zqhS1
  clear zqhP1 zqhS1
  replace zqhP : kb_P D b (kb_u G5 h0 (.inr (9, [.ref z, .ref (z + 1), .int 0, .ref (z + 2), .null, .null, .null, .null, .null, .null, .null, .int 0, .int 0, .int 0, .int 0, .int 0, .null, .null, .int 0, .int 0]))) (z + 3) zqH1 := zqhP
  obtain ⟨G6, zqeG⟩ : ∃ q, q = kb_u G5 h0 (.inr (9, [.ref z, .ref (z + 1), .int 0, .ref (z + 2), .null, .null, .null, .null, .null, .null, .null, .int 0, .int 0, .int 0, .int 0, .int 0, .null, .null, .int 0, .int 0])) := ⟨_, rfl⟩
  rw [← zqeG] at zqhP
  have zqhk : ∀ q : Nat, q ≠ h0 → G6 q = G5 q := fun q hq => by rw [zqeG]; exact kb_un hq
  replace zqhF : ∀ q : Nat, q ≠ h0 → q < z → G6 q = G q := fun q h1 h2 => (zqhk q h1).trans (zqhF q h1 h2)
  replace zqo1 : G6 z = .inl (cy 0, 399, .inl (fun _ => 0)) := (zqhk _ (kb_h2 hz0 0)).trans zqo1
  replace zqo3 : G6 (z + 1) = .inl (cy 0, 399, .inl (fun _ => 0)) := (zqhk _ (kb_h2 hz0 1)).trans zqo3
  replace zqo5 : G6 (z + 2) = .inl (cy 0, 7, .inl (fun _ => 0)) := (zqhk _ (kb_h2 hz0 2)).trans zqo5
  replace zqoh : G6 h0 = .inr (9, [.ref z, .ref (z + 1), .int 0, .ref (z + 2), .null, .null, .null, .null, .null, .null, .null, .int 0, .int 0, .int 0, .int 0, .int 0, .null, .null, .int 0, .int 0]) := by rw [zqeG]; exact kb_us
  clear zqeG zqhk
  refine lv_aload_n hx hb dX9_init_30 rfl (lv_at hl 0 rfl) ?_
  refine lv_iconst (v := 4) hx hb dX9_init_31 (by decide) ?_
  refine kb_newa (atype := .int) (ty := .int) hx hb (hts (.arrayClass .int) (List.mem_cons_of_mem _ bm_32)) 0 rfl rfl (fun _ _ h => h) hK zqhP zqhS (n := 4) (N' := 4) rfl (by decide) (by decide) (Nat.le_of_ble_eq_true rfl) (Nat.le_of_ble_eq_true rfl) (Nat.le_of_ble_eq_true rfl) dX9_init_32 (fun zqH1 zqhP1 zqhS1 => ?_)
  replace zqhP := zqhP1
  replace zqhS := zqhS1
  clear zqhP1 zqhS1
  obtain ⟨G7, zqeG⟩ : ∃ q, q = kb_u G6 (z + 3) (.inl (cy 0, 4, .inl (fun _ => 0))) := ⟨_, rfl⟩
  rw [← zqeG] at zqhP
  have zqhk : ∀ q : Nat, q ≠ z + 3 → G7 q = G6 q := fun q hq => by rw [zqeG]; exact kb_un hq
  replace zqhF : ∀ q : Nat, q ≠ h0 → q < z → G7 q = G q := fun q h1 h2 => (zqhk q (by omega)).trans (zqhF q h1 h2)
  replace zqo1 : G7 z = .inl (cy 0, 399, .inl (fun _ => 0)) := (zqhk _ (kb_ne z (show 0 ≠ 3 by decide))).trans zqo1
  replace zqo3 : G7 (z + 1) = .inl (cy 0, 399, .inl (fun _ => 0)) := (zqhk _ (kb_ne z (show 1 ≠ 3 by decide))).trans zqo3
  replace zqo5 : G7 (z + 2) = .inl (cy 0, 7, .inl (fun _ => 0)) := (zqhk _ (kb_ne z (show 2 ≠ 3 by decide))).trans zqo5
  replace zqoh : G7 h0 = .inr (9, [.ref z, .ref (z + 1), .int 0, .ref (z + 2), .null, .null, .null, .null, .null, .null, .null, .int 0, .int 0, .int 0, .int 0, .int 0, .null, .null, .int 0, .int 0]) := (zqhk _ (kb_h1 hz0 3)).trans zqoh
  have zqo7 : G7 (z + 3) = .inl (cy 0, 4, .inl (fun _ => 0)) := by rw [zqeG]; exact kb_us
  clear zqeG zqhk
  replace zqhP : kb_P D b G7 (z + 4) zqH1 := zqhP
  refine kb_putF (v := .ref (z + 3)) (ty := .array .int) hx hb hts hi9 tyX9 tyX9_ok nmX9 hown hK zqhP zqhS (by omega) (by omega) zqoh rfl 4 (by decide) (hts (.fieldLink RX9 19 "NoonLawModel" "bitsOf" "[I") (List.mem_cons_of_mem _ bm_96)) rfl rfl zqhin rfl (by decide +kernel) rfl rfl (Nat.le_of_ble_eq_true rfl) dX9_init_34 (fun zqH1 zqlocs1 zqhP1 zqhS1 => ?_)
  replace zqhP := zqhP1
  replace zqhS := zqhS1
  clear zqhP1 zqhS1
  replace zqhP : kb_P D b (kb_u G7 h0 (.inr (9, [.ref z, .ref (z + 1), .int 0, .ref (z + 2), .ref (z + 3), .null, .null, .null, .null, .null, .null, .int 0, .int 0, .int 0, .int 0, .int 0, .null, .null, .int 0, .int 0]))) (z + 4) zqH1 := zqhP
  obtain ⟨G8, zqeG⟩ : ∃ q, q = kb_u G7 h0 (.inr (9, [.ref z, .ref (z + 1), .int 0, .ref (z + 2), .ref (z + 3), .null, .null, .null, .null, .null, .null, .int 0, .int 0, .int 0, .int 0, .int 0, .null, .null, .int 0, .int 0])) := ⟨_, rfl⟩
  rw [← zqeG] at zqhP
  have zqhk : ∀ q : Nat, q ≠ h0 → G8 q = G7 q := fun q hq => by rw [zqeG]; exact kb_un hq
  replace zqhF : ∀ q : Nat, q ≠ h0 → q < z → G8 q = G q := fun q h1 h2 => (zqhk q h1).trans (zqhF q h1 h2)
  replace zqo1 : G8 z = .inl (cy 0, 399, .inl (fun _ => 0)) := (zqhk _ (kb_h2 hz0 0)).trans zqo1
  replace zqo3 : G8 (z + 1) = .inl (cy 0, 399, .inl (fun _ => 0)) := (zqhk _ (kb_h2 hz0 1)).trans zqo3
  replace zqo5 : G8 (z + 2) = .inl (cy 0, 7, .inl (fun _ => 0)) := (zqhk _ (kb_h2 hz0 2)).trans zqo5
  replace zqo7 : G8 (z + 3) = .inl (cy 0, 4, .inl (fun _ => 0)) := (zqhk _ (kb_h2 hz0 3)).trans zqo7
  replace zqoh : G8 h0 = .inr (9, [.ref z, .ref (z + 1), .int 0, .ref (z + 2), .ref (z + 3), .null, .null, .null, .null, .null, .null, .int 0, .int 0, .int 0, .int 0, .int 0, .null, .null, .int 0, .int 0]) := by rw [zqeG]; exact kb_us
  clear zqeG zqhk
  refine lv_aload_n hx hb dX9_init_37 rfl (lv_at hl 0 rfl) ?_
  refine lv_iconst (v := 4) hx hb dX9_init_38 (by decide) ?_
  refine kb_newa (atype := .int) (ty := .int) hx hb (hts (.arrayClass .int) (List.mem_cons_of_mem _ bm_32)) 0 rfl rfl (fun _ _ h => h) hK zqhP zqhS (n := 4) (N' := 4) rfl (by decide) (by decide) (Nat.le_of_ble_eq_true rfl) (Nat.le_of_ble_eq_true rfl) (Nat.le_of_ble_eq_true rfl) dX9_init_39 (fun zqH1 zqhP1 zqhS1 => ?_)
  replace zqhP := zqhP1
  replace zqhS := zqhS1
  clear zqhP1 zqhS1
  obtain ⟨G9, zqeG⟩ : ∃ q, q = kb_u G8 (z + 4) (.inl (cy 0, 4, .inl (fun _ => 0))) := ⟨_, rfl⟩
  rw [← zqeG] at zqhP
  have zqhk : ∀ q : Nat, q ≠ z + 4 → G9 q = G8 q := fun q hq => by rw [zqeG]; exact kb_un hq
  replace zqhF : ∀ q : Nat, q ≠ h0 → q < z → G9 q = G q := fun q h1 h2 => (zqhk q (by omega)).trans (zqhF q h1 h2)
  replace zqo1 : G9 z = .inl (cy 0, 399, .inl (fun _ => 0)) := (zqhk _ (kb_ne z (show 0 ≠ 4 by decide))).trans zqo1
  replace zqo3 : G9 (z + 1) = .inl (cy 0, 399, .inl (fun _ => 0)) := (zqhk _ (kb_ne z (show 1 ≠ 4 by decide))).trans zqo3
  replace zqo5 : G9 (z + 2) = .inl (cy 0, 7, .inl (fun _ => 0)) := (zqhk _ (kb_ne z (show 2 ≠ 4 by decide))).trans zqo5
  replace zqo7 : G9 (z + 3) = .inl (cy 0, 4, .inl (fun _ => 0)) := (zqhk _ (kb_ne z (show 3 ≠ 4 by decide))).trans zqo7
  replace zqoh : G9 h0 = .inr (9, [.ref z, .ref (z + 1), .int 0, .ref (z + 2), .ref (z + 3), .null, .null, .null, .null, .null, .null, .int 0, .int 0, .int 0, .int 0, .int 0, .null, .null, .int 0, .int 0]) := (zqhk _ (kb_h1 hz0 4)).trans zqoh
  have zqo9 : G9 (z + 4) = .inl (cy 0, 4, .inl (fun _ => 0)) := by rw [zqeG]; exact kb_us
  clear zqeG zqhk
  replace zqhP : kb_P D b G9 (z + 5) zqH1 := zqhP
  refine kb_putF (v := .ref (z + 4)) (ty := .array .int) hx hb hts hi9 tyX9 tyX9_ok nmX9 hown hK zqhP zqhS (by omega) (by omega) zqoh rfl 5 (by decide) (hts (.fieldLink RX9 22 "NoonLawModel" "sizeOf" "[I") (List.mem_cons_of_mem _ bm_97)) rfl rfl zqhin rfl (by decide +kernel) rfl rfl (Nat.le_of_ble_eq_true rfl) dX9_init_41 (fun zqH1 zqlocs1 zqhP1 zqhS1 => ?_)
  replace zqhP := zqhP1
  replace zqhS := zqhS1
  clear zqhP1 zqhS1
  replace zqhP : kb_P D b (kb_u G9 h0 (.inr (9, [.ref z, .ref (z + 1), .int 0, .ref (z + 2), .ref (z + 3), .ref (z + 4), .null, .null, .null, .null, .null, .int 0, .int 0, .int 0, .int 0, .int 0, .null, .null, .int 0, .int 0]))) (z + 5) zqH1 := zqhP
  obtain ⟨G10, zqeG⟩ : ∃ q, q = kb_u G9 h0 (.inr (9, [.ref z, .ref (z + 1), .int 0, .ref (z + 2), .ref (z + 3), .ref (z + 4), .null, .null, .null, .null, .null, .int 0, .int 0, .int 0, .int 0, .int 0, .null, .null, .int 0, .int 0])) := ⟨_, rfl⟩
  rw [← zqeG] at zqhP
  have zqhk : ∀ q : Nat, q ≠ h0 → G10 q = G9 q := fun q hq => by rw [zqeG]; exact kb_un hq
  replace zqhF : ∀ q : Nat, q ≠ h0 → q < z → G10 q = G q := fun q h1 h2 => (zqhk q h1).trans (zqhF q h1 h2)
  replace zqo1 : G10 z = .inl (cy 0, 399, .inl (fun _ => 0)) := (zqhk _ (kb_h2 hz0 0)).trans zqo1
  replace zqo3 : G10 (z + 1) = .inl (cy 0, 399, .inl (fun _ => 0)) := (zqhk _ (kb_h2 hz0 1)).trans zqo3
  replace zqo5 : G10 (z + 2) = .inl (cy 0, 7, .inl (fun _ => 0)) := (zqhk _ (kb_h2 hz0 2)).trans zqo5
  replace zqo7 : G10 (z + 3) = .inl (cy 0, 4, .inl (fun _ => 0)) := (zqhk _ (kb_h2 hz0 3)).trans zqo7
  replace zqo9 : G10 (z + 4) = .inl (cy 0, 4, .inl (fun _ => 0)) := (zqhk _ (kb_h2 hz0 4)).trans zqo9
  replace zqoh : G10 h0 = .inr (9, [.ref z, .ref (z + 1), .int 0, .ref (z + 2), .ref (z + 3), .ref (z + 4), .null, .null, .null, .null, .null, .int 0, .int 0, .int 0, .int 0, .int 0, .null, .null, .int 0, .int 0]) := by rw [zqeG]; exact kb_us
  clear zqeG zqhk
  refine lv_aload_n hx hb dX9_init_44 rfl (lv_at hl 0 rfl) ?_
  refine lv_bipush (v := 96) hx hb dX9_init_45 (by decide) ?_
  refine kb_newa (atype := .int) (ty := .int) hx hb (hts (.arrayClass .int) (List.mem_cons_of_mem _ bm_32)) 0 rfl rfl (fun _ _ h => h) hK zqhP zqhS (n := 96) (N' := 96) rfl (by decide) (by decide) (Nat.le_of_ble_eq_true rfl) (Nat.le_of_ble_eq_true rfl) (Nat.le_of_ble_eq_true rfl) dX9_init_47 (fun zqH1 zqhP1 zqhS1 => ?_)
  replace zqhP := zqhP1
  replace zqhS := zqhS1
  clear zqhP1 zqhS1
  obtain ⟨G11, zqeG⟩ : ∃ q, q = kb_u G10 (z + 5) (.inl (cy 0, 96, .inl (fun _ => 0))) := ⟨_, rfl⟩
  rw [← zqeG] at zqhP
  have zqhk : ∀ q : Nat, q ≠ z + 5 → G11 q = G10 q := fun q hq => by rw [zqeG]; exact kb_un hq
  replace zqhF : ∀ q : Nat, q ≠ h0 → q < z → G11 q = G q := fun q h1 h2 => (zqhk q (by omega)).trans (zqhF q h1 h2)
  replace zqo1 : G11 z = .inl (cy 0, 399, .inl (fun _ => 0)) := (zqhk _ (kb_ne z (show 0 ≠ 5 by decide))).trans zqo1
  replace zqo3 : G11 (z + 1) = .inl (cy 0, 399, .inl (fun _ => 0)) := (zqhk _ (kb_ne z (show 1 ≠ 5 by decide))).trans zqo3
  replace zqo5 : G11 (z + 2) = .inl (cy 0, 7, .inl (fun _ => 0)) := (zqhk _ (kb_ne z (show 2 ≠ 5 by decide))).trans zqo5
  replace zqo7 : G11 (z + 3) = .inl (cy 0, 4, .inl (fun _ => 0)) := (zqhk _ (kb_ne z (show 3 ≠ 5 by decide))).trans zqo7
  replace zqo9 : G11 (z + 4) = .inl (cy 0, 4, .inl (fun _ => 0)) := (zqhk _ (kb_ne z (show 4 ≠ 5 by decide))).trans zqo9
  replace zqoh : G11 h0 = .inr (9, [.ref z, .ref (z + 1), .int 0, .ref (z + 2), .ref (z + 3), .ref (z + 4), .null, .null, .null, .null, .null, .int 0, .int 0, .int 0, .int 0, .int 0, .null, .null, .int 0, .int 0]) := (zqhk _ (kb_h1 hz0 5)).trans zqoh
  have zqo11 : G11 (z + 5) = .inl (cy 0, 96, .inl (fun _ => 0)) := by rw [zqeG]; exact kb_us
  clear zqeG zqhk
  replace zqhP : kb_P D b G11 (z + 6) zqH1 := zqhP
  refine kb_putF (v := .ref (z + 5)) (ty := .array .int) hx hb hts hi9 tyX9 tyX9_ok nmX9 hown hK zqhP zqhS (by omega) (by omega) zqoh rfl 6 (by decide) (hts (.fieldLink RX9 25 "NoonLawModel" "cells" "[I") (List.mem_cons_of_mem _ bm_98)) rfl rfl zqhin rfl (by decide +kernel) rfl rfl (Nat.le_of_ble_eq_true rfl) dX9_init_49 (fun zqH1 zqlocs1 zqhP1 zqhS1 => ?_)
  replace zqhP := zqhP1
  replace zqhS := zqhS1
  clear zqhP1 zqhS1
  replace zqhP : kb_P D b (kb_u G11 h0 (.inr (9, [.ref z, .ref (z + 1), .int 0, .ref (z + 2), .ref (z + 3), .ref (z + 4), .ref (z + 5), .null, .null, .null, .null, .int 0, .int 0, .int 0, .int 0, .int 0, .null, .null, .int 0, .int 0]))) (z + 6) zqH1 := zqhP
  obtain ⟨G12, zqeG⟩ : ∃ q, q = kb_u G11 h0 (.inr (9, [.ref z, .ref (z + 1), .int 0, .ref (z + 2), .ref (z + 3), .ref (z + 4), .ref (z + 5), .null, .null, .null, .null, .int 0, .int 0, .int 0, .int 0, .int 0, .null, .null, .int 0, .int 0])) := ⟨_, rfl⟩
  rw [← zqeG] at zqhP
  have zqhk : ∀ q : Nat, q ≠ h0 → G12 q = G11 q := fun q hq => by rw [zqeG]; exact kb_un hq
  replace zqhF : ∀ q : Nat, q ≠ h0 → q < z → G12 q = G q := fun q h1 h2 => (zqhk q h1).trans (zqhF q h1 h2)
  replace zqo1 : G12 z = .inl (cy 0, 399, .inl (fun _ => 0)) := (zqhk _ (kb_h2 hz0 0)).trans zqo1
  replace zqo3 : G12 (z + 1) = .inl (cy 0, 399, .inl (fun _ => 0)) := (zqhk _ (kb_h2 hz0 1)).trans zqo3
  replace zqo5 : G12 (z + 2) = .inl (cy 0, 7, .inl (fun _ => 0)) := (zqhk _ (kb_h2 hz0 2)).trans zqo5
  replace zqo7 : G12 (z + 3) = .inl (cy 0, 4, .inl (fun _ => 0)) := (zqhk _ (kb_h2 hz0 3)).trans zqo7
  replace zqo9 : G12 (z + 4) = .inl (cy 0, 4, .inl (fun _ => 0)) := (zqhk _ (kb_h2 hz0 4)).trans zqo9
  replace zqo11 : G12 (z + 5) = .inl (cy 0, 96, .inl (fun _ => 0)) := (zqhk _ (kb_h2 hz0 5)).trans zqo11
  replace zqoh : G12 h0 = .inr (9, [.ref z, .ref (z + 1), .int 0, .ref (z + 2), .ref (z + 3), .ref (z + 4), .ref (z + 5), .null, .null, .null, .null, .int 0, .int 0, .int 0, .int 0, .int 0, .null, .null, .int 0, .int 0]) := by rw [zqeG]; exact kb_us
  clear zqeG zqhk
  refine lv_aload_n hx hb dX9_init_52 rfl (lv_at hl 0 rfl) ?_
  refine lv_bipush (v := 60) hx hb dX9_init_53 (by decide) ?_
  refine kb_newa (atype := .int) (ty := .int) hx hb (hts (.arrayClass .int) (List.mem_cons_of_mem _ bm_32)) 0 rfl rfl (fun _ _ h => h) hK zqhP zqhS (n := 60) (N' := 60) rfl (by decide) (by decide) (Nat.le_of_ble_eq_true rfl) (Nat.le_of_ble_eq_true rfl) (Nat.le_of_ble_eq_true rfl) dX9_init_55 (fun zqH1 zqhP1 zqhS1 => ?_)
  replace zqhP := zqhP1
  replace zqhS := zqhS1
  clear zqhP1 zqhS1
  obtain ⟨G13, zqeG⟩ : ∃ q, q = kb_u G12 (z + 6) (.inl (cy 0, 60, .inl (fun _ => 0))) := ⟨_, rfl⟩
  rw [← zqeG] at zqhP
  have zqhk : ∀ q : Nat, q ≠ z + 6 → G13 q = G12 q := fun q hq => by rw [zqeG]; exact kb_un hq
  replace zqhF : ∀ q : Nat, q ≠ h0 → q < z → G13 q = G q := fun q h1 h2 => (zqhk q (by omega)).trans (zqhF q h1 h2)
  replace zqo1 : G13 z = .inl (cy 0, 399, .inl (fun _ => 0)) := (zqhk _ (kb_ne z (show 0 ≠ 6 by decide))).trans zqo1
  replace zqo3 : G13 (z + 1) = .inl (cy 0, 399, .inl (fun _ => 0)) := (zqhk _ (kb_ne z (show 1 ≠ 6 by decide))).trans zqo3
  replace zqo5 : G13 (z + 2) = .inl (cy 0, 7, .inl (fun _ => 0)) := (zqhk _ (kb_ne z (show 2 ≠ 6 by decide))).trans zqo5
  replace zqo7 : G13 (z + 3) = .inl (cy 0, 4, .inl (fun _ => 0)) := (zqhk _ (kb_ne z (show 3 ≠ 6 by decide))).trans zqo7
  replace zqo9 : G13 (z + 4) = .inl (cy 0, 4, .inl (fun _ => 0)) := (zqhk _ (kb_ne z (show 4 ≠ 6 by decide))).trans zqo9
  replace zqo11 : G13 (z + 5) = .inl (cy 0, 96, .inl (fun _ => 0)) := (zqhk _ (kb_ne z (show 5 ≠ 6 by decide))).trans zqo11
  replace zqoh : G13 h0 = .inr (9, [.ref z, .ref (z + 1), .int 0, .ref (z + 2), .ref (z + 3), .ref (z + 4), .ref (z + 5), .null, .null, .null, .null, .int 0, .int 0, .int 0, .int 0, .int 0, .null, .null, .int 0, .int 0]) := (zqhk _ (kb_h1 hz0 6)).trans zqoh
  have zqo13 : G13 (z + 6) = .inl (cy 0, 60, .inl (fun _ => 0)) := by rw [zqeG]; exact kb_us
  clear zqeG zqhk
  replace zqhP : kb_P D b G13 (z + 7) zqH1 := zqhP
  refine kb_putF (v := .ref (z + 6)) (ty := .array .int) hx hb hts hi9 tyX9 tyX9_ok nmX9 hown hK zqhP zqhS (by omega) (by omega) zqoh rfl 7 (by decide) (hts (.fieldLink RX9 28 "NoonLawModel" "act" "[I") (List.mem_cons_of_mem _ bm_99)) rfl rfl zqhin rfl (by decide +kernel) rfl rfl (Nat.le_of_ble_eq_true rfl) dX9_init_57 (fun zqH1 zqlocs1 zqhP1 zqhS1 => ?_)
  replace zqhP := zqhP1
  replace zqhS := zqhS1
  clear zqhP1 zqhS1
  replace zqhP : kb_P D b (kb_u G13 h0 (.inr (9, [.ref z, .ref (z + 1), .int 0, .ref (z + 2), .ref (z + 3), .ref (z + 4), .ref (z + 5), .ref (z + 6), .null, .null, .null, .int 0, .int 0, .int 0, .int 0, .int 0, .null, .null, .int 0, .int 0]))) (z + 7) zqH1 := zqhP
  obtain ⟨G14, zqeG⟩ : ∃ q, q = kb_u G13 h0 (.inr (9, [.ref z, .ref (z + 1), .int 0, .ref (z + 2), .ref (z + 3), .ref (z + 4), .ref (z + 5), .ref (z + 6), .null, .null, .null, .int 0, .int 0, .int 0, .int 0, .int 0, .null, .null, .int 0, .int 0])) := ⟨_, rfl⟩
  rw [← zqeG] at zqhP
  have zqhk : ∀ q : Nat, q ≠ h0 → G14 q = G13 q := fun q hq => by rw [zqeG]; exact kb_un hq
  replace zqhF : ∀ q : Nat, q ≠ h0 → q < z → G14 q = G q := fun q h1 h2 => (zqhk q h1).trans (zqhF q h1 h2)
  replace zqo1 : G14 z = .inl (cy 0, 399, .inl (fun _ => 0)) := (zqhk _ (kb_h2 hz0 0)).trans zqo1
  replace zqo3 : G14 (z + 1) = .inl (cy 0, 399, .inl (fun _ => 0)) := (zqhk _ (kb_h2 hz0 1)).trans zqo3
  replace zqo5 : G14 (z + 2) = .inl (cy 0, 7, .inl (fun _ => 0)) := (zqhk _ (kb_h2 hz0 2)).trans zqo5
  replace zqo7 : G14 (z + 3) = .inl (cy 0, 4, .inl (fun _ => 0)) := (zqhk _ (kb_h2 hz0 3)).trans zqo7
  replace zqo9 : G14 (z + 4) = .inl (cy 0, 4, .inl (fun _ => 0)) := (zqhk _ (kb_h2 hz0 4)).trans zqo9
  replace zqo11 : G14 (z + 5) = .inl (cy 0, 96, .inl (fun _ => 0)) := (zqhk _ (kb_h2 hz0 5)).trans zqo11
  replace zqo13 : G14 (z + 6) = .inl (cy 0, 60, .inl (fun _ => 0)) := (zqhk _ (kb_h2 hz0 6)).trans zqo13
  replace zqoh : G14 h0 = .inr (9, [.ref z, .ref (z + 1), .int 0, .ref (z + 2), .ref (z + 3), .ref (z + 4), .ref (z + 5), .ref (z + 6), .null, .null, .null, .int 0, .int 0, .int 0, .int 0, .int 0, .null, .null, .int 0, .int 0]) := by rw [zqeG]; exact kb_us
  clear zqeG zqhk
  refine lv_aload_n hx hb dX9_init_60 rfl (lv_at hl 0 rfl) ?_
  refine lv_bipush (v := 60) hx hb dX9_init_61 (by decide) ?_
  refine kb_newa (atype := .int) (ty := .int) hx hb (hts (.arrayClass .int) (List.mem_cons_of_mem _ bm_32)) 0 rfl rfl (fun _ _ h => h) hK zqhP zqhS (n := 60) (N' := 60) rfl (by decide) (by decide) (Nat.le_of_ble_eq_true rfl) (Nat.le_of_ble_eq_true rfl) (Nat.le_of_ble_eq_true rfl) dX9_init_63 (fun zqH1 zqhP1 zqhS1 => ?_)
  replace zqhP := zqhP1
  replace zqhS := zqhS1
  clear zqhP1 zqhS1
  obtain ⟨G15, zqeG⟩ : ∃ q, q = kb_u G14 (z + 7) (.inl (cy 0, 60, .inl (fun _ => 0))) := ⟨_, rfl⟩
  rw [← zqeG] at zqhP
  have zqhk : ∀ q : Nat, q ≠ z + 7 → G15 q = G14 q := fun q hq => by rw [zqeG]; exact kb_un hq
  replace zqhF : ∀ q : Nat, q ≠ h0 → q < z → G15 q = G q := fun q h1 h2 => (zqhk q (by omega)).trans (zqhF q h1 h2)
  replace zqo1 : G15 z = .inl (cy 0, 399, .inl (fun _ => 0)) := (zqhk _ (kb_ne z (show 0 ≠ 7 by decide))).trans zqo1
  replace zqo3 : G15 (z + 1) = .inl (cy 0, 399, .inl (fun _ => 0)) := (zqhk _ (kb_ne z (show 1 ≠ 7 by decide))).trans zqo3
  replace zqo5 : G15 (z + 2) = .inl (cy 0, 7, .inl (fun _ => 0)) := (zqhk _ (kb_ne z (show 2 ≠ 7 by decide))).trans zqo5
  replace zqo7 : G15 (z + 3) = .inl (cy 0, 4, .inl (fun _ => 0)) := (zqhk _ (kb_ne z (show 3 ≠ 7 by decide))).trans zqo7
  replace zqo9 : G15 (z + 4) = .inl (cy 0, 4, .inl (fun _ => 0)) := (zqhk _ (kb_ne z (show 4 ≠ 7 by decide))).trans zqo9
  replace zqo11 : G15 (z + 5) = .inl (cy 0, 96, .inl (fun _ => 0)) := (zqhk _ (kb_ne z (show 5 ≠ 7 by decide))).trans zqo11
  replace zqo13 : G15 (z + 6) = .inl (cy 0, 60, .inl (fun _ => 0)) := (zqhk _ (kb_ne z (show 6 ≠ 7 by decide))).trans zqo13
  replace zqoh : G15 h0 = .inr (9, [.ref z, .ref (z + 1), .int 0, .ref (z + 2), .ref (z + 3), .ref (z + 4), .ref (z + 5), .ref (z + 6), .null, .null, .null, .int 0, .int 0, .int 0, .int 0, .int 0, .null, .null, .int 0, .int 0]) := (zqhk _ (kb_h1 hz0 7)).trans zqoh
  have zqo15 : G15 (z + 7) = .inl (cy 0, 60, .inl (fun _ => 0)) := by rw [zqeG]; exact kb_us
  clear zqeG zqhk
  replace zqhP : kb_P D b G15 (z + 8) zqH1 := zqhP
  refine kb_putF (v := .ref (z + 7)) (ty := .array .int) hx hb hts hi9 tyX9 tyX9_ok nmX9 hown hK zqhP zqhS (by omega) (by omega) zqoh rfl 8 (by decide) (hts (.fieldLink RX9 31 "NoonLawModel" "with" "[I") (List.mem_cons_of_mem _ bm_100)) rfl rfl zqhin rfl (by decide +kernel) rfl rfl (Nat.le_of_ble_eq_true rfl) dX9_init_65 (fun zqH1 zqlocs1 zqhP1 zqhS1 => ?_)
  replace zqhP := zqhP1
  replace zqhS := zqhS1
  clear zqhP1 zqhS1
  replace zqhP : kb_P D b (kb_u G15 h0 (.inr (9, [.ref z, .ref (z + 1), .int 0, .ref (z + 2), .ref (z + 3), .ref (z + 4), .ref (z + 5), .ref (z + 6), .ref (z + 7), .null, .null, .int 0, .int 0, .int 0, .int 0, .int 0, .null, .null, .int 0, .int 0]))) (z + 8) zqH1 := zqhP
  obtain ⟨G16, zqeG⟩ : ∃ q, q = kb_u G15 h0 (.inr (9, [.ref z, .ref (z + 1), .int 0, .ref (z + 2), .ref (z + 3), .ref (z + 4), .ref (z + 5), .ref (z + 6), .ref (z + 7), .null, .null, .int 0, .int 0, .int 0, .int 0, .int 0, .null, .null, .int 0, .int 0])) := ⟨_, rfl⟩
  rw [← zqeG] at zqhP
  have zqhk : ∀ q : Nat, q ≠ h0 → G16 q = G15 q := fun q hq => by rw [zqeG]; exact kb_un hq
  replace zqhF : ∀ q : Nat, q ≠ h0 → q < z → G16 q = G q := fun q h1 h2 => (zqhk q h1).trans (zqhF q h1 h2)
  replace zqo1 : G16 z = .inl (cy 0, 399, .inl (fun _ => 0)) := (zqhk _ (kb_h2 hz0 0)).trans zqo1
  replace zqo3 : G16 (z + 1) = .inl (cy 0, 399, .inl (fun _ => 0)) := (zqhk _ (kb_h2 hz0 1)).trans zqo3
  replace zqo5 : G16 (z + 2) = .inl (cy 0, 7, .inl (fun _ => 0)) := (zqhk _ (kb_h2 hz0 2)).trans zqo5
  replace zqo7 : G16 (z + 3) = .inl (cy 0, 4, .inl (fun _ => 0)) := (zqhk _ (kb_h2 hz0 3)).trans zqo7
  replace zqo9 : G16 (z + 4) = .inl (cy 0, 4, .inl (fun _ => 0)) := (zqhk _ (kb_h2 hz0 4)).trans zqo9
  replace zqo11 : G16 (z + 5) = .inl (cy 0, 96, .inl (fun _ => 0)) := (zqhk _ (kb_h2 hz0 5)).trans zqo11
  replace zqo13 : G16 (z + 6) = .inl (cy 0, 60, .inl (fun _ => 0)) := (zqhk _ (kb_h2 hz0 6)).trans zqo13
  replace zqo15 : G16 (z + 7) = .inl (cy 0, 60, .inl (fun _ => 0)) := (zqhk _ (kb_h2 hz0 7)).trans zqo15
  replace zqoh : G16 h0 = .inr (9, [.ref z, .ref (z + 1), .int 0, .ref (z + 2), .ref (z + 3), .ref (z + 4), .ref (z + 5), .ref (z + 6), .ref (z + 7), .null, .null, .int 0, .int 0, .int 0, .int 0, .int 0, .null, .null, .int 0, .int 0]) := by rw [zqeG]; exact kb_us
  clear zqeG zqhk
  refine lv_aload_n hx hb dX9_init_68 rfl (lv_at hl 0 rfl) ?_
  refine lv_iconst (v := 3) hx hb dX9_init_69 (by decide) ?_
  refine kb_newa (atype := .int) (ty := .int) hx hb (hts (.arrayClass .int) (List.mem_cons_of_mem _ bm_32)) 0 rfl rfl (fun _ _ h => h) hK zqhP zqhS (n := 3) (N' := 3) rfl (by decide) (by decide) (Nat.le_of_ble_eq_true rfl) (Nat.le_of_ble_eq_true rfl) (Nat.le_of_ble_eq_true rfl) dX9_init_70 (fun zqH1 zqhP1 zqhS1 => ?_)
  replace zqhP := zqhP1
  replace zqhS := zqhS1
  clear zqhP1 zqhS1
  obtain ⟨G17, zqeG⟩ : ∃ q, q = kb_u G16 (z + 8) (.inl (cy 0, 3, .inl (fun _ => 0))) := ⟨_, rfl⟩
  rw [← zqeG] at zqhP
  have zqhk : ∀ q : Nat, q ≠ z + 8 → G17 q = G16 q := fun q hq => by rw [zqeG]; exact kb_un hq
  replace zqhF : ∀ q : Nat, q ≠ h0 → q < z → G17 q = G q := fun q h1 h2 => (zqhk q (by omega)).trans (zqhF q h1 h2)
  replace zqo1 : G17 z = .inl (cy 0, 399, .inl (fun _ => 0)) := (zqhk _ (kb_ne z (show 0 ≠ 8 by decide))).trans zqo1
  replace zqo3 : G17 (z + 1) = .inl (cy 0, 399, .inl (fun _ => 0)) := (zqhk _ (kb_ne z (show 1 ≠ 8 by decide))).trans zqo3
  replace zqo5 : G17 (z + 2) = .inl (cy 0, 7, .inl (fun _ => 0)) := (zqhk _ (kb_ne z (show 2 ≠ 8 by decide))).trans zqo5
  replace zqo7 : G17 (z + 3) = .inl (cy 0, 4, .inl (fun _ => 0)) := (zqhk _ (kb_ne z (show 3 ≠ 8 by decide))).trans zqo7
  replace zqo9 : G17 (z + 4) = .inl (cy 0, 4, .inl (fun _ => 0)) := (zqhk _ (kb_ne z (show 4 ≠ 8 by decide))).trans zqo9
  replace zqo11 : G17 (z + 5) = .inl (cy 0, 96, .inl (fun _ => 0)) := (zqhk _ (kb_ne z (show 5 ≠ 8 by decide))).trans zqo11
  replace zqo13 : G17 (z + 6) = .inl (cy 0, 60, .inl (fun _ => 0)) := (zqhk _ (kb_ne z (show 6 ≠ 8 by decide))).trans zqo13
  replace zqo15 : G17 (z + 7) = .inl (cy 0, 60, .inl (fun _ => 0)) := (zqhk _ (kb_ne z (show 7 ≠ 8 by decide))).trans zqo15
  replace zqoh : G17 h0 = .inr (9, [.ref z, .ref (z + 1), .int 0, .ref (z + 2), .ref (z + 3), .ref (z + 4), .ref (z + 5), .ref (z + 6), .ref (z + 7), .null, .null, .int 0, .int 0, .int 0, .int 0, .int 0, .null, .null, .int 0, .int 0]) := (zqhk _ (kb_h1 hz0 8)).trans zqoh
  have zqo17 : G17 (z + 8) = .inl (cy 0, 3, .inl (fun _ => 0)) := by rw [zqeG]; exact kb_us
  clear zqeG zqhk
  replace zqhP : kb_P D b G17 (z + 9) zqH1 := zqhP
  refine kb_putF (v := .ref (z + 8)) (ty := .array .int) hx hb hts hi9 tyX9 tyX9_ok nmX9 hown hK zqhP zqhS (by omega) (by omega) zqoh rfl 9 (by decide) (hts (.fieldLink RX9 34 "NoonLawModel" "facts" "[I") (List.mem_cons_of_mem _ bm_101)) rfl rfl zqhin rfl (by decide +kernel) rfl rfl (Nat.le_of_ble_eq_true rfl) dX9_init_72 (fun zqH1 zqlocs1 zqhP1 zqhS1 => ?_)
  replace zqhP := zqhP1
  replace zqhS := zqhS1
  clear zqhP1 zqhS1
  replace zqhP : kb_P D b (kb_u G17 h0 (.inr (9, [.ref z, .ref (z + 1), .int 0, .ref (z + 2), .ref (z + 3), .ref (z + 4), .ref (z + 5), .ref (z + 6), .ref (z + 7), .ref (z + 8), .null, .int 0, .int 0, .int 0, .int 0, .int 0, .null, .null, .int 0, .int 0]))) (z + 9) zqH1 := zqhP
  obtain ⟨G18, zqeG⟩ : ∃ q, q = kb_u G17 h0 (.inr (9, [.ref z, .ref (z + 1), .int 0, .ref (z + 2), .ref (z + 3), .ref (z + 4), .ref (z + 5), .ref (z + 6), .ref (z + 7), .ref (z + 8), .null, .int 0, .int 0, .int 0, .int 0, .int 0, .null, .null, .int 0, .int 0])) := ⟨_, rfl⟩
  rw [← zqeG] at zqhP
  have zqhk : ∀ q : Nat, q ≠ h0 → G18 q = G17 q := fun q hq => by rw [zqeG]; exact kb_un hq
  replace zqhF : ∀ q : Nat, q ≠ h0 → q < z → G18 q = G q := fun q h1 h2 => (zqhk q h1).trans (zqhF q h1 h2)
  replace zqo1 : G18 z = .inl (cy 0, 399, .inl (fun _ => 0)) := (zqhk _ (kb_h2 hz0 0)).trans zqo1
  replace zqo3 : G18 (z + 1) = .inl (cy 0, 399, .inl (fun _ => 0)) := (zqhk _ (kb_h2 hz0 1)).trans zqo3
  replace zqo5 : G18 (z + 2) = .inl (cy 0, 7, .inl (fun _ => 0)) := (zqhk _ (kb_h2 hz0 2)).trans zqo5
  replace zqo7 : G18 (z + 3) = .inl (cy 0, 4, .inl (fun _ => 0)) := (zqhk _ (kb_h2 hz0 3)).trans zqo7
  replace zqo9 : G18 (z + 4) = .inl (cy 0, 4, .inl (fun _ => 0)) := (zqhk _ (kb_h2 hz0 4)).trans zqo9
  replace zqo11 : G18 (z + 5) = .inl (cy 0, 96, .inl (fun _ => 0)) := (zqhk _ (kb_h2 hz0 5)).trans zqo11
  replace zqo13 : G18 (z + 6) = .inl (cy 0, 60, .inl (fun _ => 0)) := (zqhk _ (kb_h2 hz0 6)).trans zqo13
  replace zqo15 : G18 (z + 7) = .inl (cy 0, 60, .inl (fun _ => 0)) := (zqhk _ (kb_h2 hz0 7)).trans zqo15
  replace zqo17 : G18 (z + 8) = .inl (cy 0, 3, .inl (fun _ => 0)) := (zqhk _ (kb_h2 hz0 8)).trans zqo17
  replace zqoh : G18 h0 = .inr (9, [.ref z, .ref (z + 1), .int 0, .ref (z + 2), .ref (z + 3), .ref (z + 4), .ref (z + 5), .ref (z + 6), .ref (z + 7), .ref (z + 8), .null, .int 0, .int 0, .int 0, .int 0, .int 0, .null, .null, .int 0, .int 0]) := by rw [zqeG]; exact kb_us
  clear zqeG zqhk
  refine lv_aload_n hx hb dX9_init_75 rfl (lv_at hl 0 rfl) ?_
  refine lv_bipush (v := 60) hx hb dX9_init_76 (by decide) ?_
  refine kb_newa (atype := .int) (ty := .int) hx hb (hts (.arrayClass .int) (List.mem_cons_of_mem _ bm_32)) 0 rfl rfl (fun _ _ h => h) hK zqhP zqhS (n := 60) (N' := 60) rfl (by decide) (by decide) (Nat.le_of_ble_eq_true rfl) (Nat.le_of_ble_eq_true rfl) (Nat.le_of_ble_eq_true rfl) dX9_init_78 (fun zqH1 zqhP1 zqhS1 => ?_)
  replace zqhP := zqhP1
  replace zqhS := zqhS1
  clear zqhP1 zqhS1
  obtain ⟨G19, zqeG⟩ : ∃ q, q = kb_u G18 (z + 9) (.inl (cy 0, 60, .inl (fun _ => 0))) := ⟨_, rfl⟩
  rw [← zqeG] at zqhP
  have zqhk : ∀ q : Nat, q ≠ z + 9 → G19 q = G18 q := fun q hq => by rw [zqeG]; exact kb_un hq
  replace zqhF : ∀ q : Nat, q ≠ h0 → q < z → G19 q = G q := fun q h1 h2 => (zqhk q (by omega)).trans (zqhF q h1 h2)
  replace zqo1 : G19 z = .inl (cy 0, 399, .inl (fun _ => 0)) := (zqhk _ (kb_ne z (show 0 ≠ 9 by decide))).trans zqo1
  replace zqo3 : G19 (z + 1) = .inl (cy 0, 399, .inl (fun _ => 0)) := (zqhk _ (kb_ne z (show 1 ≠ 9 by decide))).trans zqo3
  replace zqo5 : G19 (z + 2) = .inl (cy 0, 7, .inl (fun _ => 0)) := (zqhk _ (kb_ne z (show 2 ≠ 9 by decide))).trans zqo5
  replace zqo7 : G19 (z + 3) = .inl (cy 0, 4, .inl (fun _ => 0)) := (zqhk _ (kb_ne z (show 3 ≠ 9 by decide))).trans zqo7
  replace zqo9 : G19 (z + 4) = .inl (cy 0, 4, .inl (fun _ => 0)) := (zqhk _ (kb_ne z (show 4 ≠ 9 by decide))).trans zqo9
  replace zqo11 : G19 (z + 5) = .inl (cy 0, 96, .inl (fun _ => 0)) := (zqhk _ (kb_ne z (show 5 ≠ 9 by decide))).trans zqo11
  replace zqo13 : G19 (z + 6) = .inl (cy 0, 60, .inl (fun _ => 0)) := (zqhk _ (kb_ne z (show 6 ≠ 9 by decide))).trans zqo13
  replace zqo15 : G19 (z + 7) = .inl (cy 0, 60, .inl (fun _ => 0)) := (zqhk _ (kb_ne z (show 7 ≠ 9 by decide))).trans zqo15
  replace zqo17 : G19 (z + 8) = .inl (cy 0, 3, .inl (fun _ => 0)) := (zqhk _ (kb_ne z (show 8 ≠ 9 by decide))).trans zqo17
  replace zqoh : G19 h0 = .inr (9, [.ref z, .ref (z + 1), .int 0, .ref (z + 2), .ref (z + 3), .ref (z + 4), .ref (z + 5), .ref (z + 6), .ref (z + 7), .ref (z + 8), .null, .int 0, .int 0, .int 0, .int 0, .int 0, .null, .null, .int 0, .int 0]) := (zqhk _ (kb_h1 hz0 9)).trans zqoh
  have zqo19 : G19 (z + 9) = .inl (cy 0, 60, .inl (fun _ => 0)) := by rw [zqeG]; exact kb_us
  clear zqeG zqhk
  replace zqhP : kb_P D b G19 (z + 10) zqH1 := zqhP
  refine kb_putF (v := .ref (z + 9)) (ty := .array .int) hx hb hts hi9 tyX9 tyX9_ok nmX9 hown hK zqhP zqhS (by omega) (by omega) zqoh rfl 10 (by decide) (hts (.fieldLink RX9 37 "NoonLawModel" "pile" "[I") (List.mem_cons_of_mem _ bm_102)) rfl rfl zqhin rfl (by decide +kernel) rfl rfl (Nat.le_of_ble_eq_true rfl) dX9_init_80 (fun zqH1 zqlocs1 zqhP1 zqhS1 => ?_)
  replace zqhP := zqhP1
  replace zqhS := zqhS1
  clear zqhP1 zqhS1
  replace zqhP : kb_P D b (kb_u G19 h0 (.inr (9, [.ref z, .ref (z + 1), .int 0, .ref (z + 2), .ref (z + 3), .ref (z + 4), .ref (z + 5), .ref (z + 6), .ref (z + 7), .ref (z + 8), .ref (z + 9), .int 0, .int 0, .int 0, .int 0, .int 0, .null, .null, .int 0, .int 0]))) (z + 10) zqH1 := zqhP
  obtain ⟨G20, zqeG⟩ : ∃ q, q = kb_u G19 h0 (.inr (9, [.ref z, .ref (z + 1), .int 0, .ref (z + 2), .ref (z + 3), .ref (z + 4), .ref (z + 5), .ref (z + 6), .ref (z + 7), .ref (z + 8), .ref (z + 9), .int 0, .int 0, .int 0, .int 0, .int 0, .null, .null, .int 0, .int 0])) := ⟨_, rfl⟩
  rw [← zqeG] at zqhP
  have zqhk : ∀ q : Nat, q ≠ h0 → G20 q = G19 q := fun q hq => by rw [zqeG]; exact kb_un hq
  replace zqhF : ∀ q : Nat, q ≠ h0 → q < z → G20 q = G q := fun q h1 h2 => (zqhk q h1).trans (zqhF q h1 h2)
  replace zqo1 : G20 z = .inl (cy 0, 399, .inl (fun _ => 0)) := (zqhk _ (kb_h2 hz0 0)).trans zqo1
  replace zqo3 : G20 (z + 1) = .inl (cy 0, 399, .inl (fun _ => 0)) := (zqhk _ (kb_h2 hz0 1)).trans zqo3
  replace zqo5 : G20 (z + 2) = .inl (cy 0, 7, .inl (fun _ => 0)) := (zqhk _ (kb_h2 hz0 2)).trans zqo5
  replace zqo7 : G20 (z + 3) = .inl (cy 0, 4, .inl (fun _ => 0)) := (zqhk _ (kb_h2 hz0 3)).trans zqo7
  replace zqo9 : G20 (z + 4) = .inl (cy 0, 4, .inl (fun _ => 0)) := (zqhk _ (kb_h2 hz0 4)).trans zqo9
  replace zqo11 : G20 (z + 5) = .inl (cy 0, 96, .inl (fun _ => 0)) := (zqhk _ (kb_h2 hz0 5)).trans zqo11
  replace zqo13 : G20 (z + 6) = .inl (cy 0, 60, .inl (fun _ => 0)) := (zqhk _ (kb_h2 hz0 6)).trans zqo13
  replace zqo15 : G20 (z + 7) = .inl (cy 0, 60, .inl (fun _ => 0)) := (zqhk _ (kb_h2 hz0 7)).trans zqo15
  replace zqo17 : G20 (z + 8) = .inl (cy 0, 3, .inl (fun _ => 0)) := (zqhk _ (kb_h2 hz0 8)).trans zqo17
  replace zqo19 : G20 (z + 9) = .inl (cy 0, 60, .inl (fun _ => 0)) := (zqhk _ (kb_h2 hz0 9)).trans zqo19
  replace zqoh : G20 h0 = .inr (9, [.ref z, .ref (z + 1), .int 0, .ref (z + 2), .ref (z + 3), .ref (z + 4), .ref (z + 5), .ref (z + 6), .ref (z + 7), .ref (z + 8), .ref (z + 9), .int 0, .int 0, .int 0, .int 0, .int 0, .null, .null, .int 0, .int 0]) := by rw [zqeG]; exact kb_us
  clear zqeG zqhk
  refine lv_aload_n hx hb dX9_init_83 rfl (lv_at hl 0 rfl) ?_
  refine lv_sipush (v := 2160) hx hb dX9_init_84 (by decide) ?_
  refine kb_newa (atype := .int) (ty := .int) hx hb (hts (.arrayClass .int) (List.mem_cons_of_mem _ bm_32)) 0 rfl rfl (fun _ _ h => h) hK zqhP zqhS (n := 2160) (N' := 2160) rfl (by decide) (by decide) (Nat.le_of_ble_eq_true rfl) (Nat.le_of_ble_eq_true rfl) (Nat.le_of_ble_eq_true rfl) dX9_init_87 (fun zqH1 zqhP1 zqhS1 => ?_)
  replace zqhP := zqhP1
  replace zqhS := zqhS1
  clear zqhP1 zqhS1
  obtain ⟨G21, zqeG⟩ : ∃ q, q = kb_u G20 (z + 10) (.inl (cy 0, 2160, .inl (fun _ => 0))) := ⟨_, rfl⟩
  rw [← zqeG] at zqhP
  have zqhk : ∀ q : Nat, q ≠ z + 10 → G21 q = G20 q := fun q hq => by rw [zqeG]; exact kb_un hq
  replace zqhF : ∀ q : Nat, q ≠ h0 → q < z → G21 q = G q := fun q h1 h2 => (zqhk q (by omega)).trans (zqhF q h1 h2)
  replace zqo1 : G21 z = .inl (cy 0, 399, .inl (fun _ => 0)) := (zqhk _ (kb_ne z (show 0 ≠ 10 by decide))).trans zqo1
  replace zqo3 : G21 (z + 1) = .inl (cy 0, 399, .inl (fun _ => 0)) := (zqhk _ (kb_ne z (show 1 ≠ 10 by decide))).trans zqo3
  replace zqo5 : G21 (z + 2) = .inl (cy 0, 7, .inl (fun _ => 0)) := (zqhk _ (kb_ne z (show 2 ≠ 10 by decide))).trans zqo5
  replace zqo7 : G21 (z + 3) = .inl (cy 0, 4, .inl (fun _ => 0)) := (zqhk _ (kb_ne z (show 3 ≠ 10 by decide))).trans zqo7
  replace zqo9 : G21 (z + 4) = .inl (cy 0, 4, .inl (fun _ => 0)) := (zqhk _ (kb_ne z (show 4 ≠ 10 by decide))).trans zqo9
  replace zqo11 : G21 (z + 5) = .inl (cy 0, 96, .inl (fun _ => 0)) := (zqhk _ (kb_ne z (show 5 ≠ 10 by decide))).trans zqo11
  replace zqo13 : G21 (z + 6) = .inl (cy 0, 60, .inl (fun _ => 0)) := (zqhk _ (kb_ne z (show 6 ≠ 10 by decide))).trans zqo13
  replace zqo15 : G21 (z + 7) = .inl (cy 0, 60, .inl (fun _ => 0)) := (zqhk _ (kb_ne z (show 7 ≠ 10 by decide))).trans zqo15
  replace zqo17 : G21 (z + 8) = .inl (cy 0, 3, .inl (fun _ => 0)) := (zqhk _ (kb_ne z (show 8 ≠ 10 by decide))).trans zqo17
  replace zqo19 : G21 (z + 9) = .inl (cy 0, 60, .inl (fun _ => 0)) := (zqhk _ (kb_ne z (show 9 ≠ 10 by decide))).trans zqo19
  replace zqoh : G21 h0 = .inr (9, [.ref z, .ref (z + 1), .int 0, .ref (z + 2), .ref (z + 3), .ref (z + 4), .ref (z + 5), .ref (z + 6), .ref (z + 7), .ref (z + 8), .ref (z + 9), .int 0, .int 0, .int 0, .int 0, .int 0, .null, .null, .int 0, .int 0]) := (zqhk _ (kb_h1 hz0 10)).trans zqoh
  have zqo21 : G21 (z + 10) = .inl (cy 0, 2160, .inl (fun _ => 0)) := by rw [zqeG]; exact kb_us
  clear zqeG zqhk
  replace zqhP : kb_P D b G21 (z + 11) zqH1 := zqhP
  refine kb_putF (v := .ref (z + 10)) (ty := .array .int) hx hb hts hi9 tyX9 tyX9_ok nmX9 hown hK zqhP zqhS (by omega) (by omega) zqoh rfl 16 (by decide) (hts (.fieldLink RX9 40 "NoonLawModel" "weights" "[I") (List.mem_cons_of_mem _ bm_103)) rfl rfl zqhin rfl (by decide +kernel) rfl rfl (Nat.le_of_ble_eq_true rfl) dX9_init_89 (fun zqH1 zqlocs1 zqhP1 zqhS1 => ?_)
  replace zqhP := zqhP1
  replace zqhS := zqhS1
  clear zqhP1 zqhS1
  replace zqhP : kb_P D b (kb_u G21 h0 (.inr (9, [.ref z, .ref (z + 1), .int 0, .ref (z + 2), .ref (z + 3), .ref (z + 4), .ref (z + 5), .ref (z + 6), .ref (z + 7), .ref (z + 8), .ref (z + 9), .int 0, .int 0, .int 0, .int 0, .int 0, .ref (z + 10), .null, .int 0, .int 0]))) (z + 11) zqH1 := zqhP
  obtain ⟨G22, zqeG⟩ : ∃ q, q = kb_u G21 h0 (.inr (9, [.ref z, .ref (z + 1), .int 0, .ref (z + 2), .ref (z + 3), .ref (z + 4), .ref (z + 5), .ref (z + 6), .ref (z + 7), .ref (z + 8), .ref (z + 9), .int 0, .int 0, .int 0, .int 0, .int 0, .ref (z + 10), .null, .int 0, .int 0])) := ⟨_, rfl⟩
  rw [← zqeG] at zqhP
  have zqhk : ∀ q : Nat, q ≠ h0 → G22 q = G21 q := fun q hq => by rw [zqeG]; exact kb_un hq
  replace zqhF : ∀ q : Nat, q ≠ h0 → q < z → G22 q = G q := fun q h1 h2 => (zqhk q h1).trans (zqhF q h1 h2)
  replace zqo1 : G22 z = .inl (cy 0, 399, .inl (fun _ => 0)) := (zqhk _ (kb_h2 hz0 0)).trans zqo1
  replace zqo3 : G22 (z + 1) = .inl (cy 0, 399, .inl (fun _ => 0)) := (zqhk _ (kb_h2 hz0 1)).trans zqo3
  replace zqo5 : G22 (z + 2) = .inl (cy 0, 7, .inl (fun _ => 0)) := (zqhk _ (kb_h2 hz0 2)).trans zqo5
  replace zqo7 : G22 (z + 3) = .inl (cy 0, 4, .inl (fun _ => 0)) := (zqhk _ (kb_h2 hz0 3)).trans zqo7
  replace zqo9 : G22 (z + 4) = .inl (cy 0, 4, .inl (fun _ => 0)) := (zqhk _ (kb_h2 hz0 4)).trans zqo9
  replace zqo11 : G22 (z + 5) = .inl (cy 0, 96, .inl (fun _ => 0)) := (zqhk _ (kb_h2 hz0 5)).trans zqo11
  replace zqo13 : G22 (z + 6) = .inl (cy 0, 60, .inl (fun _ => 0)) := (zqhk _ (kb_h2 hz0 6)).trans zqo13
  replace zqo15 : G22 (z + 7) = .inl (cy 0, 60, .inl (fun _ => 0)) := (zqhk _ (kb_h2 hz0 7)).trans zqo15
  replace zqo17 : G22 (z + 8) = .inl (cy 0, 3, .inl (fun _ => 0)) := (zqhk _ (kb_h2 hz0 8)).trans zqo17
  replace zqo19 : G22 (z + 9) = .inl (cy 0, 60, .inl (fun _ => 0)) := (zqhk _ (kb_h2 hz0 9)).trans zqo19
  replace zqo21 : G22 (z + 10) = .inl (cy 0, 2160, .inl (fun _ => 0)) := (zqhk _ (kb_h2 hz0 10)).trans zqo21
  replace zqoh : G22 h0 = .inr (9, [.ref z, .ref (z + 1), .int 0, .ref (z + 2), .ref (z + 3), .ref (z + 4), .ref (z + 5), .ref (z + 6), .ref (z + 7), .ref (z + 8), .ref (z + 9), .int 0, .int 0, .int 0, .int 0, .int 0, .ref (z + 10), .null, .int 0, .int 0]) := by rw [zqeG]; exact kb_us
  clear zqeG zqhk
  refine lv_aload_n hx hb dX9_init_92 rfl (lv_at hl 0 rfl) ?_
  refine lv_bipush (v := 30) hx hb dX9_init_93 (by decide) ?_
  refine kb_newa (atype := .int) (ty := .int) hx hb (hts (.arrayClass .int) (List.mem_cons_of_mem _ bm_32)) 0 rfl rfl (fun _ _ h => h) hK zqhP zqhS (n := 30) (N' := 30) rfl (by decide) (by decide) (Nat.le_of_ble_eq_true rfl) (Nat.le_of_ble_eq_true rfl) (Nat.le_of_ble_eq_true rfl) dX9_init_95 (fun zqH1 zqhP1 zqhS1 => ?_)
  replace zqhP := zqhP1
  replace zqhS := zqhS1
  clear zqhP1 zqhS1
  obtain ⟨G23, zqeG⟩ : ∃ q, q = kb_u G22 (z + 11) (.inl (cy 0, 30, .inl (fun _ => 0))) := ⟨_, rfl⟩
  rw [← zqeG] at zqhP
  have zqhk : ∀ q : Nat, q ≠ z + 11 → G23 q = G22 q := fun q hq => by rw [zqeG]; exact kb_un hq
  replace zqhF : ∀ q : Nat, q ≠ h0 → q < z → G23 q = G q := fun q h1 h2 => (zqhk q (by omega)).trans (zqhF q h1 h2)
  replace zqo1 : G23 z = .inl (cy 0, 399, .inl (fun _ => 0)) := (zqhk _ (kb_ne z (show 0 ≠ 11 by decide))).trans zqo1
  replace zqo3 : G23 (z + 1) = .inl (cy 0, 399, .inl (fun _ => 0)) := (zqhk _ (kb_ne z (show 1 ≠ 11 by decide))).trans zqo3
  replace zqo5 : G23 (z + 2) = .inl (cy 0, 7, .inl (fun _ => 0)) := (zqhk _ (kb_ne z (show 2 ≠ 11 by decide))).trans zqo5
  replace zqo7 : G23 (z + 3) = .inl (cy 0, 4, .inl (fun _ => 0)) := (zqhk _ (kb_ne z (show 3 ≠ 11 by decide))).trans zqo7
  replace zqo9 : G23 (z + 4) = .inl (cy 0, 4, .inl (fun _ => 0)) := (zqhk _ (kb_ne z (show 4 ≠ 11 by decide))).trans zqo9
  replace zqo11 : G23 (z + 5) = .inl (cy 0, 96, .inl (fun _ => 0)) := (zqhk _ (kb_ne z (show 5 ≠ 11 by decide))).trans zqo11
  replace zqo13 : G23 (z + 6) = .inl (cy 0, 60, .inl (fun _ => 0)) := (zqhk _ (kb_ne z (show 6 ≠ 11 by decide))).trans zqo13
  replace zqo15 : G23 (z + 7) = .inl (cy 0, 60, .inl (fun _ => 0)) := (zqhk _ (kb_ne z (show 7 ≠ 11 by decide))).trans zqo15
  replace zqo17 : G23 (z + 8) = .inl (cy 0, 3, .inl (fun _ => 0)) := (zqhk _ (kb_ne z (show 8 ≠ 11 by decide))).trans zqo17
  replace zqo19 : G23 (z + 9) = .inl (cy 0, 60, .inl (fun _ => 0)) := (zqhk _ (kb_ne z (show 9 ≠ 11 by decide))).trans zqo19
  replace zqo21 : G23 (z + 10) = .inl (cy 0, 2160, .inl (fun _ => 0)) := (zqhk _ (kb_ne z (show 10 ≠ 11 by decide))).trans zqo21
  replace zqoh : G23 h0 = .inr (9, [.ref z, .ref (z + 1), .int 0, .ref (z + 2), .ref (z + 3), .ref (z + 4), .ref (z + 5), .ref (z + 6), .ref (z + 7), .ref (z + 8), .ref (z + 9), .int 0, .int 0, .int 0, .int 0, .int 0, .ref (z + 10), .null, .int 0, .int 0]) := (zqhk _ (kb_h1 hz0 11)).trans zqoh
  have zqo23 : G23 (z + 11) = .inl (cy 0, 30, .inl (fun _ => 0)) := by rw [zqeG]; exact kb_us
  clear zqeG zqhk
  replace zqhP : kb_P D b G23 (z + 12) zqH1 := zqhP
  refine kb_putF (v := .ref (z + 11)) (ty := .array .int) hx hb hts hi9 tyX9 tyX9_ok nmX9 hown hK zqhP zqhS (by omega) (by omega) zqoh rfl 17 (by decide) (hts (.fieldLink RX9 43 "NoonLawModel" "trace" "[I") (List.mem_cons_of_mem _ bm_104)) rfl rfl zqhin rfl (by decide +kernel) rfl rfl (Nat.le_of_ble_eq_true rfl) dX9_init_97 (fun zqH1 zqlocs1 zqhP1 zqhS1 => ?_)
  replace zqhP := zqhP1
  replace zqhS := zqhS1
  clear zqhP1 zqhS1
  replace zqhP : kb_P D b (kb_u G23 h0 (.inr (9, [.ref z, .ref (z + 1), .int 0, .ref (z + 2), .ref (z + 3), .ref (z + 4), .ref (z + 5), .ref (z + 6), .ref (z + 7), .ref (z + 8), .ref (z + 9), .int 0, .int 0, .int 0, .int 0, .int 0, .ref (z + 10), .ref (z + 11), .int 0, .int 0]))) (z + 12) zqH1 := zqhP
  obtain ⟨G24, zqeG⟩ : ∃ q, q = kb_u G23 h0 (.inr (9, [.ref z, .ref (z + 1), .int 0, .ref (z + 2), .ref (z + 3), .ref (z + 4), .ref (z + 5), .ref (z + 6), .ref (z + 7), .ref (z + 8), .ref (z + 9), .int 0, .int 0, .int 0, .int 0, .int 0, .ref (z + 10), .ref (z + 11), .int 0, .int 0])) := ⟨_, rfl⟩
  rw [← zqeG] at zqhP
  have zqhk : ∀ q : Nat, q ≠ h0 → G24 q = G23 q := fun q hq => by rw [zqeG]; exact kb_un hq
  replace zqhF : ∀ q : Nat, q ≠ h0 → q < z → G24 q = G q := fun q h1 h2 => (zqhk q h1).trans (zqhF q h1 h2)
  replace zqo1 : G24 z = .inl (cy 0, 399, .inl (fun _ => 0)) := (zqhk _ (kb_h2 hz0 0)).trans zqo1
  replace zqo3 : G24 (z + 1) = .inl (cy 0, 399, .inl (fun _ => 0)) := (zqhk _ (kb_h2 hz0 1)).trans zqo3
  replace zqo5 : G24 (z + 2) = .inl (cy 0, 7, .inl (fun _ => 0)) := (zqhk _ (kb_h2 hz0 2)).trans zqo5
  replace zqo7 : G24 (z + 3) = .inl (cy 0, 4, .inl (fun _ => 0)) := (zqhk _ (kb_h2 hz0 3)).trans zqo7
  replace zqo9 : G24 (z + 4) = .inl (cy 0, 4, .inl (fun _ => 0)) := (zqhk _ (kb_h2 hz0 4)).trans zqo9
  replace zqo11 : G24 (z + 5) = .inl (cy 0, 96, .inl (fun _ => 0)) := (zqhk _ (kb_h2 hz0 5)).trans zqo11
  replace zqo13 : G24 (z + 6) = .inl (cy 0, 60, .inl (fun _ => 0)) := (zqhk _ (kb_h2 hz0 6)).trans zqo13
  replace zqo15 : G24 (z + 7) = .inl (cy 0, 60, .inl (fun _ => 0)) := (zqhk _ (kb_h2 hz0 7)).trans zqo15
  replace zqo17 : G24 (z + 8) = .inl (cy 0, 3, .inl (fun _ => 0)) := (zqhk _ (kb_h2 hz0 8)).trans zqo17
  replace zqo19 : G24 (z + 9) = .inl (cy 0, 60, .inl (fun _ => 0)) := (zqhk _ (kb_h2 hz0 9)).trans zqo19
  replace zqo21 : G24 (z + 10) = .inl (cy 0, 2160, .inl (fun _ => 0)) := (zqhk _ (kb_h2 hz0 10)).trans zqo21
  replace zqo23 : G24 (z + 11) = .inl (cy 0, 30, .inl (fun _ => 0)) := (zqhk _ (kb_h2 hz0 11)).trans zqo23
  replace zqoh : G24 h0 = .inr (9, [.ref z, .ref (z + 1), .int 0, .ref (z + 2), .ref (z + 3), .ref (z + 4), .ref (z + 5), .ref (z + 6), .ref (z + 7), .ref (z + 8), .ref (z + 9), .int 0, .int 0, .int 0, .int 0, .int 0, .ref (z + 10), .ref (z + 11), .int 0, .int 0]) := by rw [zqeG]; exact kb_us
  clear zqeG zqhk
  refine lv_aload_n hx hb dX9_init_100 rfl (lv_at hl 0 rfl) ?_
  refine kb_get hx hb hts hi9 hown hK zqhP (by omega) (by omega) zqoh rfl 0 (by decide) (hts (.fieldLink RX9 9 "NoonLawModel" "row" "[I") (List.mem_cons_of_mem _ bm_93)) rfl rfl dX9_init_101 ?_
  refine lv_iconst (v := 1) hx hb dX9_init_104 (by decide) ?_
  refine lv_iconst (v := 1) hx hb dX9_init_105 (by decide) ?_
  refine kb_iast hx hb hK zqhP zqhS (by omega) (by omega) zqo1 1 (by decide) (by decide) dX9_init_106 (fun zqH1 zqlocs1 zqhP1 zqhS1 => ?_)
  replace zqhP := zqhP1
  replace zqhS := zqhS1
  clear zqhP1 zqhS1
  obtain ⟨G25, zqeG⟩ : ∃ q, q = kb_u G24 z (.inl (cy 0, 399, .inl (upd (fun _ => 0) 1 1))) := ⟨_, rfl⟩
  rw [← zqeG] at zqhP
  have zqhk : ∀ q : Nat, q ≠ z → G25 q = G24 q := fun q hq => by rw [zqeG]; exact kb_un hq
  replace zqhF : ∀ q : Nat, q ≠ h0 → q < z → G25 q = G q := fun q h1 h2 => (zqhk q (by omega)).trans (zqhF q h1 h2)
  replace zqo3 : G25 (z + 1) = .inl (cy 0, 399, .inl (fun _ => 0)) := (zqhk _ (kb_ne z (show 1 ≠ 0 by decide))).trans zqo3
  replace zqo5 : G25 (z + 2) = .inl (cy 0, 7, .inl (fun _ => 0)) := (zqhk _ (kb_ne z (show 2 ≠ 0 by decide))).trans zqo5
  replace zqo7 : G25 (z + 3) = .inl (cy 0, 4, .inl (fun _ => 0)) := (zqhk _ (kb_ne z (show 3 ≠ 0 by decide))).trans zqo7
  replace zqo9 : G25 (z + 4) = .inl (cy 0, 4, .inl (fun _ => 0)) := (zqhk _ (kb_ne z (show 4 ≠ 0 by decide))).trans zqo9
  replace zqo11 : G25 (z + 5) = .inl (cy 0, 96, .inl (fun _ => 0)) := (zqhk _ (kb_ne z (show 5 ≠ 0 by decide))).trans zqo11
  replace zqo13 : G25 (z + 6) = .inl (cy 0, 60, .inl (fun _ => 0)) := (zqhk _ (kb_ne z (show 6 ≠ 0 by decide))).trans zqo13
  replace zqo15 : G25 (z + 7) = .inl (cy 0, 60, .inl (fun _ => 0)) := (zqhk _ (kb_ne z (show 7 ≠ 0 by decide))).trans zqo15
  replace zqo17 : G25 (z + 8) = .inl (cy 0, 3, .inl (fun _ => 0)) := (zqhk _ (kb_ne z (show 8 ≠ 0 by decide))).trans zqo17
  replace zqo19 : G25 (z + 9) = .inl (cy 0, 60, .inl (fun _ => 0)) := (zqhk _ (kb_ne z (show 9 ≠ 0 by decide))).trans zqo19
  replace zqo21 : G25 (z + 10) = .inl (cy 0, 2160, .inl (fun _ => 0)) := (zqhk _ (kb_ne z (show 10 ≠ 0 by decide))).trans zqo21
  replace zqo23 : G25 (z + 11) = .inl (cy 0, 30, .inl (fun _ => 0)) := (zqhk _ (kb_ne z (show 11 ≠ 0 by decide))).trans zqo23
  replace zqoh : G25 h0 = .inr (9, [.ref z, .ref (z + 1), .int 0, .ref (z + 2), .ref (z + 3), .ref (z + 4), .ref (z + 5), .ref (z + 6), .ref (z + 7), .ref (z + 8), .ref (z + 9), .int 0, .int 0, .int 0, .int 0, .int 0, .ref (z + 10), .ref (z + 11), .int 0, .int 0]) := (zqhk _ (kb_h1 hz0 0)).trans zqoh
  replace zqo1 : G25 z = .inl (cy 0, 399, .inl (upd (fun _ => 0) 1 1)) := by rw [zqeG]; exact kb_us
  clear zqeG zqhk
  refine lv_aload_n hx hb dX9_init_107 rfl (lv_at hl 0 rfl) ?_
  refine kb_get hx hb hts hi9 hown hK zqhP (by omega) (by omega) zqoh rfl 0 (by decide) (hts (.fieldLink RX9 9 "NoonLawModel" "row" "[I") (List.mem_cons_of_mem _ bm_93)) rfl rfl dX9_init_108 ?_
  refine lv_iconst (v := 4) hx hb dX9_init_111 (by decide) ?_
  refine lv_bipush (v := 22) hx hb dX9_init_112 (by decide) ?_
  refine kb_iast hx hb hK zqhP zqhS (by omega) (by omega) zqo1 4 (by decide) (by decide) dX9_init_114 (fun zqH1 zqlocs1 zqhP1 zqhS1 => ?_)
  replace zqhP := zqhP1
  replace zqhS := zqhS1
  clear zqhP1 zqhS1
  obtain ⟨G26, zqeG⟩ : ∃ q, q = kb_u G25 z (.inl (cy 0, 399, .inl (upd (upd (fun _ => 0) 1 1) 4 22))) := ⟨_, rfl⟩
  rw [← zqeG] at zqhP
  have zqhk : ∀ q : Nat, q ≠ z → G26 q = G25 q := fun q hq => by rw [zqeG]; exact kb_un hq
  replace zqhF : ∀ q : Nat, q ≠ h0 → q < z → G26 q = G q := fun q h1 h2 => (zqhk q (by omega)).trans (zqhF q h1 h2)
  replace zqo3 : G26 (z + 1) = .inl (cy 0, 399, .inl (fun _ => 0)) := (zqhk _ (kb_ne z (show 1 ≠ 0 by decide))).trans zqo3
  replace zqo5 : G26 (z + 2) = .inl (cy 0, 7, .inl (fun _ => 0)) := (zqhk _ (kb_ne z (show 2 ≠ 0 by decide))).trans zqo5
  replace zqo7 : G26 (z + 3) = .inl (cy 0, 4, .inl (fun _ => 0)) := (zqhk _ (kb_ne z (show 3 ≠ 0 by decide))).trans zqo7
  replace zqo9 : G26 (z + 4) = .inl (cy 0, 4, .inl (fun _ => 0)) := (zqhk _ (kb_ne z (show 4 ≠ 0 by decide))).trans zqo9
  replace zqo11 : G26 (z + 5) = .inl (cy 0, 96, .inl (fun _ => 0)) := (zqhk _ (kb_ne z (show 5 ≠ 0 by decide))).trans zqo11
  replace zqo13 : G26 (z + 6) = .inl (cy 0, 60, .inl (fun _ => 0)) := (zqhk _ (kb_ne z (show 6 ≠ 0 by decide))).trans zqo13
  replace zqo15 : G26 (z + 7) = .inl (cy 0, 60, .inl (fun _ => 0)) := (zqhk _ (kb_ne z (show 7 ≠ 0 by decide))).trans zqo15
  replace zqo17 : G26 (z + 8) = .inl (cy 0, 3, .inl (fun _ => 0)) := (zqhk _ (kb_ne z (show 8 ≠ 0 by decide))).trans zqo17
  replace zqo19 : G26 (z + 9) = .inl (cy 0, 60, .inl (fun _ => 0)) := (zqhk _ (kb_ne z (show 9 ≠ 0 by decide))).trans zqo19
  replace zqo21 : G26 (z + 10) = .inl (cy 0, 2160, .inl (fun _ => 0)) := (zqhk _ (kb_ne z (show 10 ≠ 0 by decide))).trans zqo21
  replace zqo23 : G26 (z + 11) = .inl (cy 0, 30, .inl (fun _ => 0)) := (zqhk _ (kb_ne z (show 11 ≠ 0 by decide))).trans zqo23
  replace zqoh : G26 h0 = .inr (9, [.ref z, .ref (z + 1), .int 0, .ref (z + 2), .ref (z + 3), .ref (z + 4), .ref (z + 5), .ref (z + 6), .ref (z + 7), .ref (z + 8), .ref (z + 9), .int 0, .int 0, .int 0, .int 0, .int 0, .ref (z + 10), .ref (z + 11), .int 0, .int 0]) := (zqhk _ (kb_h1 hz0 0)).trans zqoh
  replace zqo1 : G26 z = .inl (cy 0, 399, .inl (upd (upd (fun _ => 0) 1 1) 4 22)) := by rw [zqeG]; exact kb_us
  clear zqeG zqhk
  exact kb_vret hx hb hr hlocks hK zqhP zqhS dX9_init_115 ⟨⟨zqoh, zqo1, zqo3, zqo5, zqo7, zqo9, zqo11, zqo13, zqo15, zqo17, zqo19, zqo21, zqo23⟩, zqhF⟩
