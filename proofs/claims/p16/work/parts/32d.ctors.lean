/-- the class's cells from z on, its object at h -/
def kb_L (cy : Nat → ClassId) (G : Nat → va_E) (h z : Nat) : Prop := G h = .inr (8, [.ref z, .ref (z + 27), .int 0, .ref (z + 54), .ref (z + 55), .ref (z + 57), .ref (z + 60), .ref (z + 64), .ref (z + 65), .ref (z + 66)]) ∧ kb_R cy G z (z + 1) ∧ kb_R cy G (z + 27) (z + 28) ∧ (∃ f, G (z + 54) = .inl (cy 5, 4, .inr (.inr (.inr (.inr f)))) ∧ ∀ j : Nat, j < 4 → f j = some (z + 67 + 2 * j)) ∧ (∀ j : Nat, j < 4 → G (z + 67 + 2 * j) = .inr (3, [.int 0, .int 0, .ref (z + 67 + 2 * j + 1)]) ∧ G (z + 67 + 2 * j + 1) = .inl (cy 0, 24, .inl (fun _ => 0))) ∧ (G (z + 55) = .inr (5, [.ref (z + 56), .int 0, .int 0, .int 0, .int 0, .int 0]) ∧ G (z + 56) = .inl (cy 0, 30, .inl (fun _ => 0))) ∧ (G (z + 57) = .inr (7, [.int 0, .int 0, .ref (z + 58), .ref (z + 59), .int 0, .int 0]) ∧ G (z + 58) = .inl (cy 0, 60, .inl (fun _ => 0)) ∧ G (z + 59) = .inl (cy 1, 60, .inl (fun _ => 0))) ∧ (G (z + 60) = .inr (4, [.int 0, .int 0, .int 0, .int 0, .int 0, .ref (z + 61), .ref (z + 62), .ref (z + 63)]) ∧ G (z + 61) = .inl (cy 0, 9, .inl (fun _ => 0)) ∧ G (z + 62) = .inl (cy 0, 10, .inl (fun _ => 0)) ∧ G (z + 63) = .inl (cy 0, 10, .inl (fun _ => 0))) ∧ G (z + 64) = .inl (cy 0, 7, .inl (fun _ => 0)) ∧ G (z + 65) = .inl (cy 0, 10, .inl (fun _ => 0)) ∧ G (z + 66) = .inl (cy 0, 10, .inl (fun _ => 0))
theorem gX8_init_X2_init : GoodIn wzX8_init (wzX2_init) := wz_in bm_40
theorem gX8_init_X5_init_n27 : GoodIn wzX8_init (wzX5_init) := wz_in bm_71
theorem gX8_init_X7_init_n34 : GoodIn wzX8_init (wzX7_init) := wz_in bm_75
theorem gX8_init_X4_init_n41 : GoodIn wzX8_init (wzX4_init) := wz_in bm_80
theorem gX8_init_X3_init_n56 : GoodIn wzX8_init (wzX3_init) := wz_in bm_86
set_option maxHeartbeats 8000000 in
set_option maxRecDepth 100000 in
theorem c_X8_init (l : Launch) (D : va_G) (cy : Nat → ClassId) (b : Nat) (G : Nat → va_E) (z h0 : Nat) (zqhb0 : b ≤ h0) (hz0 : h0 < z) (zqoh : G h0 = .inr (8, [.null, .null, .int 0, .null, .null, .null, .null, .null, .null, .null])) : Met l yX8_init wzX8_init ({ frames := 3, cells := 75, slots := 1192, locals := 53 }) (va_Pc [.ref h0] (kb_B D cy b G z)) (va_Qv (fun G1 => (kb_L cy G1 h0 z) ∧ ∀ q : Nat, q ≠ h0 → q < z → G1 q = G q) (fun G1 => kb_B D cy b G1 (z + 75)) (fun q : Nat => b ≤ q)) 75 1192 (fun q : Nat => b ≤ q) := by
  refine kb_met (cc := cX8_init) (maxL := 2) (by decide) rfl (Nat.le_of_ble_eq_true rfl) ?_
  intro p e s m args below meth c ls hx hb hr hts hown hlocks hml zqhin hK zqhP zqhS hl
  have hl : lv_has ls 2 [(0, .ref h0)] := hl
  have hown : s.vm.findClass RX8 = some m.cls := hown
  have zqhin : meth.name = "<init>" := zqhin
  have zqhF : ∀ q : Nat, q ≠ h0 → q < z → G q = G q := fun _ _ _ => rfl
  generalize hlocs0 : ([] : List Loc) = zqlocs at zqhS ⊢
  have hi2 : ∀ w ∈ wsX20, w ∈ wzX8_init := fun w h => List.mem_cons_of_mem _ (hbw2 w h)
  have hi3 : ∀ w ∈ wsX30, w ∈ wzX8_init := fun w h => List.mem_cons_of_mem _ (hbw3 w h)
  have hi4 : ∀ w ∈ wsX40, w ∈ wzX8_init := fun w h => List.mem_cons_of_mem _ (hbw4 w h)
  have hi5 : ∀ w ∈ wsX50, w ∈ wzX8_init := fun w h => List.mem_cons_of_mem _ (hbw5 w h)
  have hi7 : ∀ w ∈ wsX70, w ∈ wzX8_init := fun w h => List.mem_cons_of_mem _ (hbw7 w h)
  have hi8 : ∀ w ∈ wsX80, w ∈ wzX8_init := fun w h => List.mem_cons_of_mem _ (hbw8 w h)
  refine lv_aload_n hx hb dX8_init_0 rfl (lv_at hl 0 rfl) ?_
  refine W.objInit hx hb hown (hts (.methodLink RX8 1 objectInit) (List.mem_cons_of_mem _ bm_10)) (hts (.instanceMethod objectInit) (List.mem_cons_of_mem _ bm_11)) (hts (.code objectInit ⟨#[0xb1]⟩ 1 none) (List.mem_cons_of_mem _ bm_12)) rfl (by rw [hml]; exact hl.1) rfl dX8_init_1 (Nat.le_of_ble_eq_true rfl) (Nat.le_of_ble_eq_true rfl) ?_
  refine W.eq (g2 := F0 m 4 ls []) rfl ?_
  refine lv_aload_n hx hb dX8_init_4 rfl (lv_at hl 0 rfl) ?_
  refine kb_new (C := RX2) (T := TX2) (N := 12) hx hb hts hi2 tyX2 tyX2_ok hown (hts (.classLink RX8 7 RX2) (List.mem_cons_of_mem _ bm_13)) (hts (.instantiable RX2 12) (List.mem_cons_of_mem _ bm_14)) (hts (.initialized RX2) (List.mem_cons_of_mem _ bm_15)) hK zqhP zqhS (ci := 2) rfl [.int 0, .int 0, .int 0, .null, .int 0, .null, .int 0, .null, .null, .int 0, .null, .int 0] (fun j zqhj => by rcases (show j = 0 ∨ j = 1 ∨ j = 2 ∨ j = 3 ∨ j = 4 ∨ j = 5 ∨ j = 6 ∨ j = 7 ∨ j = 8 ∨ j = 9 ∨ j = 10 ∨ j = 11 by omega) with rfl | rfl | rfl | rfl | rfl | rfl | rfl | rfl | rfl | rfl | rfl | rfl <;> rfl) (Nat.le_of_ble_eq_true rfl) (Nat.le_of_ble_eq_true rfl) dX8_init_5 (fun zqH1 zqhP1 zqhS1 => ?_)
  replace zqhP := zqhP1
  replace zqhS := zqhS1
  clear zqhP1 zqhS1
  obtain ⟨G1, zqeG⟩ : ∃ q, q = kb_u G z (.inr (2, [.int 0, .int 0, .int 0, .null, .int 0, .null, .int 0, .null, .null, .int 0, .null, .int 0])) := ⟨_, rfl⟩
  rw [← zqeG] at zqhP
  have zqhk : ∀ q : Nat, q ≠ z → G1 q = G q := fun q hq => by rw [zqeG]; exact kb_un hq
  replace zqhF : ∀ q : Nat, q ≠ h0 → q < z → G1 q = G q := fun q h1 h2 => (zqhk q (by omega)).trans (zqhF q h1 h2)
  replace zqoh : G1 h0 = .inr (8, [.null, .null, .int 0, .null, .null, .null, .null, .null, .null, .null]) := (zqhk _ (kb_h1 hz0 0)).trans zqoh
  have zqo1 : G1 z = .inr (2, [.int 0, .int 0, .int 0, .null, .int 0, .null, .int 0, .null, .null, .int 0, .null, .int 0]) := by rw [zqeG]; exact kb_us
  clear zqeG zqhk
  replace zqhP : kb_P D b G1 (z + 1) zqH1 := zqhP
  refine lv_dup hx hb dX8_init_8 rfl ?_
  refine kb_callI (rest := [.ref z, .ref h0]) ⟨hx, hb, hml, hown, hts⟩ hK zqhP zqhS (c_X2_init l D cy b G1 (z + 1) z (by omega) (by omega) zqo1) (cwI 0 hts gX8_init_X2_init rfl rfl rfl (hts (.initialized RX2) (List.mem_cons_of_mem _ bm_15)) (hts (.methodLink RX8 9 yX2_init) (List.mem_cons_of_mem _ bm_38)) (hts (.instanceMethod yX2_init) (List.mem_cons_of_mem _ bm_39)) rfl (by decide +kernel) ⟨Nat.le_of_ble_eq_true rfl, Nat.le_of_ble_eq_true rfl⟩) hl.1 (Nat.le_of_ble_eq_true rfl) dX8_init_9 ⟨Nat.le_of_ble_eq_true rfl, Nat.le_of_ble_eq_true rfl⟩ (fun G2 zqH1 zqlocs1 zqw2 zqhP1 zqhS1 => ?_)
  replace zqhP := zqhP1
  replace zqhS := zqhS1
  clear zqhP1 zqhS1
  obtain ⟨zqw2a, zqw2⟩ := zqw2
  replace zqoh : G2 h0 = .inr (8, [.null, .null, .int 0, .null, .null, .null, .null, .null, .null, .null]) := (zqw2 _ (kb_h1 hz0 0) (kb_h3 hz0 1)).trans zqoh
  replace zqhF : ∀ q : Nat, q ≠ h0 → q < z → G2 q = G q := fun q h1 h2 => (zqw2 _ (by omega) (by omega)).trans (zqhF q h1 h2)
  replace zqhP : kb_P D b G2 (z + 27) zqH1 := zqhP
  refine kb_putF (v := .ref z) (ty := .object "NoonLaw$Realm") hx hb hts hi8 tyX8 tyX8_ok nmX8 hown hK zqhP zqhS (by omega) (by omega) zqoh rfl 0 (by decide) (hts (.fieldLink RX8 10 "NoonLaw" "realm" "LNoonLaw$Realm;") (List.mem_cons_of_mem _ bm_16)) rfl rfl zqhin rfl (by decide +kernel) rfl rfl (Nat.le_of_ble_eq_true rfl) dX8_init_12 (fun zqH1 zqlocs1 zqhP1 zqhS1 => ?_)
  replace zqhP := zqhP1
  replace zqhS := zqhS1
  clear zqhP1 zqhS1
  replace zqhP : kb_P D b (kb_u G2 h0 (.inr (8, [.ref z, .null, .int 0, .null, .null, .null, .null, .null, .null, .null]))) (z + 27) zqH1 := zqhP
  obtain ⟨G3, zqeG⟩ : ∃ q, q = kb_u G2 h0 (.inr (8, [.ref z, .null, .int 0, .null, .null, .null, .null, .null, .null, .null])) := ⟨_, rfl⟩
  rw [← zqeG] at zqhP
  have zqhk : ∀ q : Nat, q ≠ h0 → G3 q = G2 q := fun q hq => by rw [zqeG]; exact kb_un hq
  replace zqhF : ∀ q : Nat, q ≠ h0 → q < z → G3 q = G q := fun q h1 h2 => (zqhk q h1).trans (zqhF q h1 h2)
  replace zqoh : G3 h0 = .inr (8, [.ref z, .null, .int 0, .null, .null, .null, .null, .null, .null, .null]) := by rw [zqeG]; exact kb_us
  replace zqw2a : kb_R cy G3 z (z + 1) := zqw2a.keep (fun q h => zqhk q (by omega))
  clear zqeG zqhk
  refine lv_aload_n hx hb dX8_init_15 rfl (lv_at hl 0 rfl) ?_
  refine kb_new (C := RX2) (T := TX2) (N := 12) hx hb hts hi2 tyX2 tyX2_ok hown (hts (.classLink RX8 7 RX2) (List.mem_cons_of_mem _ bm_13)) (hts (.instantiable RX2 12) (List.mem_cons_of_mem _ bm_14)) (hts (.initialized RX2) (List.mem_cons_of_mem _ bm_15)) hK zqhP zqhS (ci := 2) rfl [.int 0, .int 0, .int 0, .null, .int 0, .null, .int 0, .null, .null, .int 0, .null, .int 0] (fun j zqhj => by rcases (show j = 0 ∨ j = 1 ∨ j = 2 ∨ j = 3 ∨ j = 4 ∨ j = 5 ∨ j = 6 ∨ j = 7 ∨ j = 8 ∨ j = 9 ∨ j = 10 ∨ j = 11 by omega) with rfl | rfl | rfl | rfl | rfl | rfl | rfl | rfl | rfl | rfl | rfl | rfl <;> rfl) (Nat.le_of_ble_eq_true rfl) (Nat.le_of_ble_eq_true rfl) dX8_init_16 (fun zqH1 zqhP1 zqhS1 => ?_)
  replace zqhP := zqhP1
  replace zqhS := zqhS1
  clear zqhP1 zqhS1
  obtain ⟨G4, zqeG⟩ : ∃ q, q = kb_u G3 (z + 27) (.inr (2, [.int 0, .int 0, .int 0, .null, .int 0, .null, .int 0, .null, .null, .int 0, .null, .int 0])) := ⟨_, rfl⟩
  rw [← zqeG] at zqhP
  have zqhk : ∀ q : Nat, q ≠ z + 27 → G4 q = G3 q := fun q hq => by rw [zqeG]; exact kb_un hq
  replace zqhF : ∀ q : Nat, q ≠ h0 → q < z → G4 q = G q := fun q h1 h2 => (zqhk q (by omega)).trans (zqhF q h1 h2)
  replace zqoh : G4 h0 = .inr (8, [.ref z, .null, .int 0, .null, .null, .null, .null, .null, .null, .null]) := (zqhk _ (kb_h1 hz0 27)).trans zqoh
  have zqo4 : G4 (z + 27) = .inr (2, [.int 0, .int 0, .int 0, .null, .int 0, .null, .int 0, .null, .null, .int 0, .null, .int 0]) := by rw [zqeG]; exact kb_us
  replace zqw2a : kb_R cy G4 z (z + 1) := zqw2a.keep (fun q h => zqhk q (by omega))
  clear zqeG zqhk
  replace zqhP : kb_P D b G4 (z + 28) zqH1 := zqhP
  refine lv_dup hx hb dX8_init_19 rfl ?_
  refine kb_callI (rest := [.ref (z + 27), .ref h0]) ⟨hx, hb, hml, hown, hts⟩ hK zqhP zqhS (c_X2_init l D cy b G4 (z + 28) (z + 27) (by omega) (by omega) zqo4) (cwI 0 hts gX8_init_X2_init rfl rfl rfl (hts (.initialized RX2) (List.mem_cons_of_mem _ bm_15)) (hts (.methodLink RX8 9 yX2_init) (List.mem_cons_of_mem _ bm_38)) (hts (.instanceMethod yX2_init) (List.mem_cons_of_mem _ bm_39)) rfl (by decide +kernel) ⟨Nat.le_of_ble_eq_true rfl, Nat.le_of_ble_eq_true rfl⟩) hl.1 (Nat.le_of_ble_eq_true rfl) dX8_init_20 ⟨Nat.le_of_ble_eq_true rfl, Nat.le_of_ble_eq_true rfl⟩ (fun G5 zqH1 zqlocs1 zqw5 zqhP1 zqhS1 => ?_)
  replace zqhP := zqhP1
  replace zqhS := zqhS1
  clear zqhP1 zqhS1
  obtain ⟨zqw5a, zqw5⟩ := zqw5
  replace zqoh : G5 h0 = .inr (8, [.ref z, .null, .int 0, .null, .null, .null, .null, .null, .null, .null]) := (zqw5 _ (kb_h1 hz0 27) (kb_h3 hz0 28)).trans zqoh
  replace zqw2a : kb_R cy G5 z (z + 1) := zqw2a.keep (fun q h => zqw5 _ (by omega) (by omega))
  replace zqhF : ∀ q : Nat, q ≠ h0 → q < z → G5 q = G q := fun q h1 h2 => (zqw5 _ (by omega) (by omega)).trans (zqhF q h1 h2)
  replace zqhP : kb_P D b G5 (z + 54) zqH1 := zqhP
  refine kb_putF (v := .ref (z + 27)) (ty := .object "NoonLaw$Realm") hx hb hts hi8 tyX8 tyX8_ok nmX8 hown hK zqhP zqhS (by omega) (by omega) zqoh rfl 1 (by decide) (hts (.fieldLink RX8 16 "NoonLaw" "kept" "LNoonLaw$Realm;") (List.mem_cons_of_mem _ bm_17)) rfl rfl zqhin rfl (by decide +kernel) rfl rfl (Nat.le_of_ble_eq_true rfl) dX8_init_23 (fun zqH1 zqlocs1 zqhP1 zqhS1 => ?_)
  replace zqhP := zqhP1
  replace zqhS := zqhS1
  clear zqhP1 zqhS1
  replace zqhP : kb_P D b (kb_u G5 h0 (.inr (8, [.ref z, .ref (z + 27), .int 0, .null, .null, .null, .null, .null, .null, .null]))) (z + 54) zqH1 := zqhP
  obtain ⟨G6, zqeG⟩ : ∃ q, q = kb_u G5 h0 (.inr (8, [.ref z, .ref (z + 27), .int 0, .null, .null, .null, .null, .null, .null, .null])) := ⟨_, rfl⟩
  rw [← zqeG] at zqhP
  have zqhk : ∀ q : Nat, q ≠ h0 → G6 q = G5 q := fun q hq => by rw [zqeG]; exact kb_un hq
  replace zqhF : ∀ q : Nat, q ≠ h0 → q < z → G6 q = G q := fun q h1 h2 => (zqhk q h1).trans (zqhF q h1 h2)
  replace zqoh : G6 h0 = .inr (8, [.ref z, .ref (z + 27), .int 0, .null, .null, .null, .null, .null, .null, .null]) := by rw [zqeG]; exact kb_us
  replace zqw2a : kb_R cy G6 z (z + 1) := zqw2a.keep (fun q h => zqhk q (by omega))
  replace zqw5a : kb_R cy G6 (z + 27) (z + 28) := zqw5a.keep (fun q h => zqhk q (by omega))
  clear zqeG zqhk
  refine lv_aload_n hx hb dX8_init_26 rfl (lv_at hl 0 rfl) ?_
  refine lv_iconst (v := 4) hx hb dX8_init_27 (by decide) ?_
  refine kb_newq (C := RX3) hx hb hown (hts (.classLink RX8 19 RX3) (List.mem_cons_of_mem _ bm_18)) hK.2.2.2.2.1 5 rfl hK zqhP zqhS (n := 4) (N' := 4) (by decide) (by decide) (Nat.le_of_ble_eq_true rfl) (Nat.le_of_ble_eq_true rfl) (Nat.le_of_ble_eq_true rfl) dX8_init_28 (fun zqH1 zqhP1 zqhS1 => ?_)
  replace zqhP := zqhP1
  replace zqhS := zqhS1
  clear zqhP1 zqhS1
  obtain ⟨G7, zqeG⟩ : ∃ q, q = kb_u G6 (z + 54) (.inl (cy 5, 4, .inr (.inr (.inr (.inr (fun _ => none)))))) := ⟨_, rfl⟩
  rw [← zqeG] at zqhP
  have zqhk : ∀ q : Nat, q ≠ z + 54 → G7 q = G6 q := fun q hq => by rw [zqeG]; exact kb_un hq
  replace zqhF : ∀ q : Nat, q ≠ h0 → q < z → G7 q = G q := fun q h1 h2 => (zqhk q (by omega)).trans (zqhF q h1 h2)
  replace zqoh : G7 h0 = .inr (8, [.ref z, .ref (z + 27), .int 0, .null, .null, .null, .null, .null, .null, .null]) := (zqhk _ (kb_h1 hz0 54)).trans zqoh
  have zqo7 : G7 (z + 54) = .inl (cy 5, 4, .inr (.inr (.inr (.inr (fun _ => none))))) := by rw [zqeG]; exact kb_us
  replace zqw2a : kb_R cy G7 z (z + 1) := zqw2a.keep (fun q h => zqhk q (by omega))
  replace zqw5a : kb_R cy G7 (z + 27) (z + 28) := zqw5a.keep (fun q h => zqhk q (by omega))
  clear zqeG zqhk
  replace zqhP : kb_P D b G7 (z + 55) zqH1 := zqhP
  refine kb_putF (v := .ref (z + 54)) (ty := .array (.object "NoonLaw$Sheet")) hx hb hts hi8 tyX8 tyX8_ok nmX8 hown hK zqhP zqhS (by omega) (by omega) zqoh rfl 3 (by decide) (hts (.fieldLink RX8 21 "NoonLaw" "sheets" "[LNoonLaw$Sheet;") (List.mem_cons_of_mem _ bm_19)) rfl rfl zqhin rfl (by decide +kernel) rfl rfl (Nat.le_of_ble_eq_true rfl) dX8_init_31 (fun zqH1 zqlocs1 zqhP1 zqhS1 => ?_)
  replace zqhP := zqhP1
  replace zqhS := zqhS1
  clear zqhP1 zqhS1
  replace zqhP : kb_P D b (kb_u G7 h0 (.inr (8, [.ref z, .ref (z + 27), .int 0, .ref (z + 54), .null, .null, .null, .null, .null, .null]))) (z + 55) zqH1 := zqhP
  obtain ⟨G8, zqeG⟩ : ∃ q, q = kb_u G7 h0 (.inr (8, [.ref z, .ref (z + 27), .int 0, .ref (z + 54), .null, .null, .null, .null, .null, .null])) := ⟨_, rfl⟩
  rw [← zqeG] at zqhP
  have zqhk : ∀ q : Nat, q ≠ h0 → G8 q = G7 q := fun q hq => by rw [zqeG]; exact kb_un hq
  replace zqhF : ∀ q : Nat, q ≠ h0 → q < z → G8 q = G q := fun q h1 h2 => (zqhk q h1).trans (zqhF q h1 h2)
  replace zqo7 : G8 (z + 54) = .inl (cy 5, 4, .inr (.inr (.inr (.inr (fun _ => none))))) := (zqhk _ (kb_h2 hz0 54)).trans zqo7
  replace zqoh : G8 h0 = .inr (8, [.ref z, .ref (z + 27), .int 0, .ref (z + 54), .null, .null, .null, .null, .null, .null]) := by rw [zqeG]; exact kb_us
  replace zqw2a : kb_R cy G8 z (z + 1) := zqw2a.keep (fun q h => zqhk q (by omega))
  replace zqw5a : kb_R cy G8 (z + 27) (z + 28) := zqw5a.keep (fun q h => zqhk q (by omega))
  clear zqeG zqhk
  refine lv_aload_n hx hb dX8_init_34 rfl (lv_at hl 0 rfl) ?_
  refine kb_new (C := RX5) (T := TX5) (N := 6) hx hb hts hi5 tyX5 tyX5_ok hown (hts (.classLink RX8 25 RX5) (List.mem_cons_of_mem _ bm_20)) (hts (.instantiable RX5 6) (List.mem_cons_of_mem _ bm_21)) (hts (.initialized RX5) (List.mem_cons_of_mem _ bm_22)) hK zqhP zqhS (ci := 5) rfl [.null, .int 0, .int 0, .int 0, .int 0, .int 0] (fun j zqhj => by rcases (show j = 0 ∨ j = 1 ∨ j = 2 ∨ j = 3 ∨ j = 4 ∨ j = 5 by omega) with rfl | rfl | rfl | rfl | rfl | rfl <;> rfl) (Nat.le_of_ble_eq_true rfl) (Nat.le_of_ble_eq_true rfl) dX8_init_35 (fun zqH1 zqhP1 zqhS1 => ?_)
  replace zqhP := zqhP1
  replace zqhS := zqhS1
  clear zqhP1 zqhS1
  obtain ⟨G9, zqeG⟩ : ∃ q, q = kb_u G8 (z + 55) (.inr (5, [.null, .int 0, .int 0, .int 0, .int 0, .int 0])) := ⟨_, rfl⟩
  rw [← zqeG] at zqhP
  have zqhk : ∀ q : Nat, q ≠ z + 55 → G9 q = G8 q := fun q hq => by rw [zqeG]; exact kb_un hq
  replace zqhF : ∀ q : Nat, q ≠ h0 → q < z → G9 q = G q := fun q h1 h2 => (zqhk q (by omega)).trans (zqhF q h1 h2)
  replace zqo7 : G9 (z + 54) = .inl (cy 5, 4, .inr (.inr (.inr (.inr (fun _ => none))))) := (zqhk _ (kb_ne z (show 54 ≠ 55 by decide))).trans zqo7
  replace zqoh : G9 h0 = .inr (8, [.ref z, .ref (z + 27), .int 0, .ref (z + 54), .null, .null, .null, .null, .null, .null]) := (zqhk _ (kb_h1 hz0 55)).trans zqoh
  have zqo9 : G9 (z + 55) = .inr (5, [.null, .int 0, .int 0, .int 0, .int 0, .int 0]) := by rw [zqeG]; exact kb_us
  replace zqw2a : kb_R cy G9 z (z + 1) := zqw2a.keep (fun q h => zqhk q (by omega))
  replace zqw5a : kb_R cy G9 (z + 27) (z + 28) := zqw5a.keep (fun q h => zqhk q (by omega))
  clear zqeG zqhk
  replace zqhP : kb_P D b G9 (z + 56) zqH1 := zqhP
  refine lv_dup hx hb dX8_init_38 rfl ?_
  refine kb_callN (rest := [.ref (z + 55), .ref h0]) ⟨hx, hb, hml, hown, hts⟩ hK zqhP zqhS (c_X5_init l D cy b G9 (z + 56) (z + 55) (by omega) (by omega) zqo9) ⟨va_cnB 0 hts gX8_init_X5_init_n27 rfl rfl rfl (hK.2.2.2.2.2.2.2.2.1) (hts (.initialized RX5) (List.mem_cons_of_mem _ bm_22)) (by decide +kernel) ⟨Nat.le_of_ble_eq_true rfl, Nat.le_of_ble_eq_true rfl⟩, rfl, hts (.instanceMethod yX5_init) (by decide +kernel)⟩ hl.1 (Nat.le_of_ble_eq_true rfl) dX8_init_39 ⟨Nat.le_of_ble_eq_true rfl, Nat.le_of_ble_eq_true rfl⟩ (fun G10 zqH1 zqlocs1 zqw10 zqhP1 zqhS1 => ?_)
  replace zqhP := zqhP1
  replace zqhS := zqhS1
  clear zqhP1 zqhS1
  obtain ⟨zqw10a, zqw10⟩ := zqw10
  replace zqo7 : G10 (z + 54) = .inl (cy 5, 4, .inr (.inr (.inr (.inr (fun _ => none))))) := (zqw10 _ (kb_ne z (show 54 ≠ 55 by decide)) (kb_lt z (show 54 < 56 by decide))).trans zqo7
  replace zqoh : G10 h0 = .inr (8, [.ref z, .ref (z + 27), .int 0, .ref (z + 54), .null, .null, .null, .null, .null, .null]) := (zqw10 _ (kb_h1 hz0 55) (kb_h3 hz0 56)).trans zqoh
  replace zqw2a : kb_R cy G10 z (z + 1) := zqw2a.keep (fun q h => zqw10 _ (by omega) (by omega))
  replace zqw5a : kb_R cy G10 (z + 27) (z + 28) := zqw5a.keep (fun q h => zqw10 _ (by omega) (by omega))
  replace zqhF : ∀ q : Nat, q ≠ h0 → q < z → G10 q = G q := fun q h1 h2 => (zqw10 _ (by omega) (by omega)).trans (zqhF q h1 h2)
  obtain ⟨zqu10_0, zqu10_1⟩ := zqw10a
  replace zqhP : kb_P D b G10 (z + 57) zqH1 := zqhP
  refine kb_putF (v := .ref (z + 55)) (ty := .object "NoonLaw$Speaker") hx hb hts hi8 tyX8 tyX8_ok nmX8 hown hK zqhP zqhS (by omega) (by omega) zqoh rfl 4 (by decide) (hts (.fieldLink RX8 28 "NoonLaw" "speaker" "LNoonLaw$Speaker;") (List.mem_cons_of_mem _ bm_23)) rfl rfl zqhin rfl (by decide +kernel) rfl rfl (Nat.le_of_ble_eq_true rfl) dX8_init_42 (fun zqH1 zqlocs1 zqhP1 zqhS1 => ?_)
  replace zqhP := zqhP1
  replace zqhS := zqhS1
  clear zqhP1 zqhS1
  replace zqhP : kb_P D b (kb_u G10 h0 (.inr (8, [.ref z, .ref (z + 27), .int 0, .ref (z + 54), .ref (z + 55), .null, .null, .null, .null, .null]))) (z + 57) zqH1 := zqhP
  obtain ⟨G11, zqeG⟩ : ∃ q, q = kb_u G10 h0 (.inr (8, [.ref z, .ref (z + 27), .int 0, .ref (z + 54), .ref (z + 55), .null, .null, .null, .null, .null])) := ⟨_, rfl⟩
  rw [← zqeG] at zqhP
  have zqhk : ∀ q : Nat, q ≠ h0 → G11 q = G10 q := fun q hq => by rw [zqeG]; exact kb_un hq
  replace zqhF : ∀ q : Nat, q ≠ h0 → q < z → G11 q = G q := fun q h1 h2 => (zqhk q h1).trans (zqhF q h1 h2)
  replace zqo7 : G11 (z + 54) = .inl (cy 5, 4, .inr (.inr (.inr (.inr (fun _ => none))))) := (zqhk _ (kb_h2 hz0 54)).trans zqo7
  replace zqu10_0 : G11 (z + 55) = .inr (5, [.ref (z + 56), .int 0, .int 0, .int 0, .int 0, .int 0]) := (zqhk _ (kb_h2 hz0 55)).trans zqu10_0
  replace zqu10_1 : G11 (z + 56) = .inl (cy 0, 30, .inl (fun _ => 0)) := (zqhk _ (kb_h2 hz0 56)).trans zqu10_1
  replace zqoh : G11 h0 = .inr (8, [.ref z, .ref (z + 27), .int 0, .ref (z + 54), .ref (z + 55), .null, .null, .null, .null, .null]) := by rw [zqeG]; exact kb_us
  replace zqw2a : kb_R cy G11 z (z + 1) := zqw2a.keep (fun q h => zqhk q (by omega))
  replace zqw5a : kb_R cy G11 (z + 27) (z + 28) := zqw5a.keep (fun q h => zqhk q (by omega))
  clear zqeG zqhk
  refine lv_aload_n hx hb dX8_init_45 rfl (lv_at hl 0 rfl) ?_
  refine kb_new (C := RX7) (T := TX7) (N := 6) hx hb hts hi7 tyX7 tyX7_ok hown (hts (.classLink RX8 32 RX7) (List.mem_cons_of_mem _ bm_24)) (hts (.instantiable RX7 6) (List.mem_cons_of_mem _ bm_25)) (hts (.initialized RX7) (List.mem_cons_of_mem _ bm_26)) hK zqhP zqhS (ci := 7) rfl [.int 0, .int 0, .null, .null, .int 0, .int 0] (fun j zqhj => by rcases (show j = 0 ∨ j = 1 ∨ j = 2 ∨ j = 3 ∨ j = 4 ∨ j = 5 by omega) with rfl | rfl | rfl | rfl | rfl | rfl <;> rfl) (Nat.le_of_ble_eq_true rfl) (Nat.le_of_ble_eq_true rfl) dX8_init_46 (fun zqH1 zqhP1 zqhS1 => ?_)
  replace zqhP := zqhP1
  replace zqhS := zqhS1
  clear zqhP1 zqhS1
  obtain ⟨G12, zqeG⟩ : ∃ q, q = kb_u G11 (z + 57) (.inr (7, [.int 0, .int 0, .null, .null, .int 0, .int 0])) := ⟨_, rfl⟩
  rw [← zqeG] at zqhP
  have zqhk : ∀ q : Nat, q ≠ z + 57 → G12 q = G11 q := fun q hq => by rw [zqeG]; exact kb_un hq
  replace zqhF : ∀ q : Nat, q ≠ h0 → q < z → G12 q = G q := fun q h1 h2 => (zqhk q (by omega)).trans (zqhF q h1 h2)
  replace zqo7 : G12 (z + 54) = .inl (cy 5, 4, .inr (.inr (.inr (.inr (fun _ => none))))) := (zqhk _ (kb_ne z (show 54 ≠ 57 by decide))).trans zqo7
  replace zqu10_0 : G12 (z + 55) = .inr (5, [.ref (z + 56), .int 0, .int 0, .int 0, .int 0, .int 0]) := (zqhk _ (kb_ne z (show 55 ≠ 57 by decide))).trans zqu10_0
  replace zqu10_1 : G12 (z + 56) = .inl (cy 0, 30, .inl (fun _ => 0)) := (zqhk _ (kb_ne z (show 56 ≠ 57 by decide))).trans zqu10_1
  replace zqoh : G12 h0 = .inr (8, [.ref z, .ref (z + 27), .int 0, .ref (z + 54), .ref (z + 55), .null, .null, .null, .null, .null]) := (zqhk _ (kb_h1 hz0 57)).trans zqoh
  have zqo12 : G12 (z + 57) = .inr (7, [.int 0, .int 0, .null, .null, .int 0, .int 0]) := by rw [zqeG]; exact kb_us
  replace zqw2a : kb_R cy G12 z (z + 1) := zqw2a.keep (fun q h => zqhk q (by omega))
  replace zqw5a : kb_R cy G12 (z + 27) (z + 28) := zqw5a.keep (fun q h => zqhk q (by omega))
  clear zqeG zqhk
  replace zqhP : kb_P D b G12 (z + 58) zqH1 := zqhP
  refine lv_dup hx hb dX8_init_49 rfl ?_
  refine kb_callN (rest := [.ref (z + 57), .ref h0]) ⟨hx, hb, hml, hown, hts⟩ hK zqhP zqhS (c_X7_init l D cy b G12 (z + 58) (z + 57) (by omega) (by omega) zqo12) ⟨va_cnB 0 hts gX8_init_X7_init_n34 rfl rfl rfl (hK.2.2.2.2.2.2.2.2.2.1) (hts (.initialized RX7) (List.mem_cons_of_mem _ bm_26)) (by decide +kernel) ⟨Nat.le_of_ble_eq_true rfl, Nat.le_of_ble_eq_true rfl⟩, rfl, hts (.instanceMethod yX7_init) (by decide +kernel)⟩ hl.1 (Nat.le_of_ble_eq_true rfl) dX8_init_50 ⟨Nat.le_of_ble_eq_true rfl, Nat.le_of_ble_eq_true rfl⟩ (fun G13 zqH1 zqlocs1 zqw13 zqhP1 zqhS1 => ?_)
  replace zqhP := zqhP1
  replace zqhS := zqhS1
  clear zqhP1 zqhS1
  obtain ⟨zqw13a, zqw13⟩ := zqw13
  replace zqo7 : G13 (z + 54) = .inl (cy 5, 4, .inr (.inr (.inr (.inr (fun _ => none))))) := (zqw13 _ (kb_ne z (show 54 ≠ 57 by decide)) (kb_lt z (show 54 < 58 by decide))).trans zqo7
  replace zqu10_0 : G13 (z + 55) = .inr (5, [.ref (z + 56), .int 0, .int 0, .int 0, .int 0, .int 0]) := (zqw13 _ (kb_ne z (show 55 ≠ 57 by decide)) (kb_lt z (show 55 < 58 by decide))).trans zqu10_0
  replace zqu10_1 : G13 (z + 56) = .inl (cy 0, 30, .inl (fun _ => 0)) := (zqw13 _ (kb_ne z (show 56 ≠ 57 by decide)) (kb_lt z (show 56 < 58 by decide))).trans zqu10_1
  replace zqoh : G13 h0 = .inr (8, [.ref z, .ref (z + 27), .int 0, .ref (z + 54), .ref (z + 55), .null, .null, .null, .null, .null]) := (zqw13 _ (kb_h1 hz0 57) (kb_h3 hz0 58)).trans zqoh
  replace zqw2a : kb_R cy G13 z (z + 1) := zqw2a.keep (fun q h => zqw13 _ (by omega) (by omega))
  replace zqw5a : kb_R cy G13 (z + 27) (z + 28) := zqw5a.keep (fun q h => zqw13 _ (by omega) (by omega))
  replace zqhF : ∀ q : Nat, q ≠ h0 → q < z → G13 q = G q := fun q h1 h2 => (zqw13 _ (by omega) (by omega)).trans (zqhF q h1 h2)
  obtain ⟨zqu13_0, zqu13_1, zqu13_2⟩ := zqw13a
  replace zqhP : kb_P D b G13 (z + 60) zqH1 := zqhP
  refine kb_putF (v := .ref (z + 57)) (ty := .object "NoonLaw$TextReader") hx hb hts hi8 tyX8 tyX8_ok nmX8 hown hK zqhP zqhS (by omega) (by omega) zqoh rfl 5 (by decide) (hts (.fieldLink RX8 35 "NoonLaw" "reader" "LNoonLaw$TextReader;") (List.mem_cons_of_mem _ bm_27)) rfl rfl zqhin rfl (by decide +kernel) rfl rfl (Nat.le_of_ble_eq_true rfl) dX8_init_53 (fun zqH1 zqlocs1 zqhP1 zqhS1 => ?_)
  replace zqhP := zqhP1
  replace zqhS := zqhS1
  clear zqhP1 zqhS1
  replace zqhP : kb_P D b (kb_u G13 h0 (.inr (8, [.ref z, .ref (z + 27), .int 0, .ref (z + 54), .ref (z + 55), .ref (z + 57), .null, .null, .null, .null]))) (z + 60) zqH1 := zqhP
  obtain ⟨G14, zqeG⟩ : ∃ q, q = kb_u G13 h0 (.inr (8, [.ref z, .ref (z + 27), .int 0, .ref (z + 54), .ref (z + 55), .ref (z + 57), .null, .null, .null, .null])) := ⟨_, rfl⟩
  rw [← zqeG] at zqhP
  have zqhk : ∀ q : Nat, q ≠ h0 → G14 q = G13 q := fun q hq => by rw [zqeG]; exact kb_un hq
  replace zqhF : ∀ q : Nat, q ≠ h0 → q < z → G14 q = G q := fun q h1 h2 => (zqhk q h1).trans (zqhF q h1 h2)
  replace zqo7 : G14 (z + 54) = .inl (cy 5, 4, .inr (.inr (.inr (.inr (fun _ => none))))) := (zqhk _ (kb_h2 hz0 54)).trans zqo7
  replace zqu10_0 : G14 (z + 55) = .inr (5, [.ref (z + 56), .int 0, .int 0, .int 0, .int 0, .int 0]) := (zqhk _ (kb_h2 hz0 55)).trans zqu10_0
  replace zqu10_1 : G14 (z + 56) = .inl (cy 0, 30, .inl (fun _ => 0)) := (zqhk _ (kb_h2 hz0 56)).trans zqu10_1
  replace zqu13_0 : G14 (z + 57) = .inr (7, [.int 0, .int 0, .ref (z + 58), .ref (z + 59), .int 0, .int 0]) := (zqhk _ (kb_h2 hz0 57)).trans zqu13_0
  replace zqu13_1 : G14 (z + 58) = .inl (cy 0, 60, .inl (fun _ => 0)) := (zqhk _ (kb_h2 hz0 58)).trans zqu13_1
  replace zqu13_2 : G14 (z + 59) = .inl (cy 1, 60, .inl (fun _ => 0)) := (zqhk _ (kb_h2 hz0 59)).trans zqu13_2
  replace zqoh : G14 h0 = .inr (8, [.ref z, .ref (z + 27), .int 0, .ref (z + 54), .ref (z + 55), .ref (z + 57), .null, .null, .null, .null]) := by rw [zqeG]; exact kb_us
  replace zqw2a : kb_R cy G14 z (z + 1) := zqw2a.keep (fun q h => zqhk q (by omega))
  replace zqw5a : kb_R cy G14 (z + 27) (z + 28) := zqw5a.keep (fun q h => zqhk q (by omega))
  clear zqeG zqhk
  refine lv_aload_n hx hb dX8_init_56 rfl (lv_at hl 0 rfl) ?_
  refine kb_new (C := RX4) (T := TX4) (N := 8) hx hb hts hi4 tyX4 tyX4_ok hown (hts (.classLink RX8 39 RX4) (List.mem_cons_of_mem _ bm_28)) (hts (.instantiable RX4 8) (List.mem_cons_of_mem _ bm_29)) (hts (.initialized RX4) (List.mem_cons_of_mem _ bm_30)) hK zqhP zqhS (ci := 4) rfl [.int 0, .int 0, .int 0, .int 0, .int 0, .null, .null, .null] (fun j zqhj => by rcases (show j = 0 ∨ j = 1 ∨ j = 2 ∨ j = 3 ∨ j = 4 ∨ j = 5 ∨ j = 6 ∨ j = 7 by omega) with rfl | rfl | rfl | rfl | rfl | rfl | rfl | rfl <;> rfl) (Nat.le_of_ble_eq_true rfl) (Nat.le_of_ble_eq_true rfl) dX8_init_57 (fun zqH1 zqhP1 zqhS1 => ?_)
  replace zqhP := zqhP1
  replace zqhS := zqhS1
  clear zqhP1 zqhS1
  obtain ⟨G15, zqeG⟩ : ∃ q, q = kb_u G14 (z + 60) (.inr (4, [.int 0, .int 0, .int 0, .int 0, .int 0, .null, .null, .null])) := ⟨_, rfl⟩
  rw [← zqeG] at zqhP
  have zqhk : ∀ q : Nat, q ≠ z + 60 → G15 q = G14 q := fun q hq => by rw [zqeG]; exact kb_un hq
  replace zqhF : ∀ q : Nat, q ≠ h0 → q < z → G15 q = G q := fun q h1 h2 => (zqhk q (by omega)).trans (zqhF q h1 h2)
  replace zqo7 : G15 (z + 54) = .inl (cy 5, 4, .inr (.inr (.inr (.inr (fun _ => none))))) := (zqhk _ (kb_ne z (show 54 ≠ 60 by decide))).trans zqo7
  replace zqu10_0 : G15 (z + 55) = .inr (5, [.ref (z + 56), .int 0, .int 0, .int 0, .int 0, .int 0]) := (zqhk _ (kb_ne z (show 55 ≠ 60 by decide))).trans zqu10_0
  replace zqu10_1 : G15 (z + 56) = .inl (cy 0, 30, .inl (fun _ => 0)) := (zqhk _ (kb_ne z (show 56 ≠ 60 by decide))).trans zqu10_1
  replace zqu13_0 : G15 (z + 57) = .inr (7, [.int 0, .int 0, .ref (z + 58), .ref (z + 59), .int 0, .int 0]) := (zqhk _ (kb_ne z (show 57 ≠ 60 by decide))).trans zqu13_0
  replace zqu13_1 : G15 (z + 58) = .inl (cy 0, 60, .inl (fun _ => 0)) := (zqhk _ (kb_ne z (show 58 ≠ 60 by decide))).trans zqu13_1
  replace zqu13_2 : G15 (z + 59) = .inl (cy 1, 60, .inl (fun _ => 0)) := (zqhk _ (kb_ne z (show 59 ≠ 60 by decide))).trans zqu13_2
  replace zqoh : G15 h0 = .inr (8, [.ref z, .ref (z + 27), .int 0, .ref (z + 54), .ref (z + 55), .ref (z + 57), .null, .null, .null, .null]) := (zqhk _ (kb_h1 hz0 60)).trans zqoh
  have zqo15 : G15 (z + 60) = .inr (4, [.int 0, .int 0, .int 0, .int 0, .int 0, .null, .null, .null]) := by rw [zqeG]; exact kb_us
  replace zqw2a : kb_R cy G15 z (z + 1) := zqw2a.keep (fun q h => zqhk q (by omega))
  replace zqw5a : kb_R cy G15 (z + 27) (z + 28) := zqw5a.keep (fun q h => zqhk q (by omega))
  clear zqeG zqhk
  replace zqhP : kb_P D b G15 (z + 61) zqH1 := zqhP
  refine lv_dup hx hb dX8_init_60 rfl ?_
  refine kb_callN (rest := [.ref (z + 60), .ref h0]) ⟨hx, hb, hml, hown, hts⟩ hK zqhP zqhS (c_X4_init l D cy b G15 (z + 61) (z + 60) (by omega) (by omega) zqo15) ⟨va_cnB 0 hts gX8_init_X4_init_n41 rfl rfl rfl (hK.2.2.2.2.2.2.2.2.2.2.1) (hts (.initialized RX4) (List.mem_cons_of_mem _ bm_30)) (by decide +kernel) ⟨Nat.le_of_ble_eq_true rfl, Nat.le_of_ble_eq_true rfl⟩, rfl, hts (.instanceMethod yX4_init) (by decide +kernel)⟩ hl.1 (Nat.le_of_ble_eq_true rfl) dX8_init_61 ⟨Nat.le_of_ble_eq_true rfl, Nat.le_of_ble_eq_true rfl⟩ (fun G16 zqH1 zqlocs1 zqw16 zqhP1 zqhS1 => ?_)
  replace zqhP := zqhP1
  replace zqhS := zqhS1
  clear zqhP1 zqhS1
  obtain ⟨zqw16a, zqw16⟩ := zqw16
  replace zqo7 : G16 (z + 54) = .inl (cy 5, 4, .inr (.inr (.inr (.inr (fun _ => none))))) := (zqw16 _ (kb_ne z (show 54 ≠ 60 by decide)) (kb_lt z (show 54 < 61 by decide))).trans zqo7
  replace zqu10_0 : G16 (z + 55) = .inr (5, [.ref (z + 56), .int 0, .int 0, .int 0, .int 0, .int 0]) := (zqw16 _ (kb_ne z (show 55 ≠ 60 by decide)) (kb_lt z (show 55 < 61 by decide))).trans zqu10_0
  replace zqu10_1 : G16 (z + 56) = .inl (cy 0, 30, .inl (fun _ => 0)) := (zqw16 _ (kb_ne z (show 56 ≠ 60 by decide)) (kb_lt z (show 56 < 61 by decide))).trans zqu10_1
  replace zqu13_0 : G16 (z + 57) = .inr (7, [.int 0, .int 0, .ref (z + 58), .ref (z + 59), .int 0, .int 0]) := (zqw16 _ (kb_ne z (show 57 ≠ 60 by decide)) (kb_lt z (show 57 < 61 by decide))).trans zqu13_0
  replace zqu13_1 : G16 (z + 58) = .inl (cy 0, 60, .inl (fun _ => 0)) := (zqw16 _ (kb_ne z (show 58 ≠ 60 by decide)) (kb_lt z (show 58 < 61 by decide))).trans zqu13_1
  replace zqu13_2 : G16 (z + 59) = .inl (cy 1, 60, .inl (fun _ => 0)) := (zqw16 _ (kb_ne z (show 59 ≠ 60 by decide)) (kb_lt z (show 59 < 61 by decide))).trans zqu13_2
  replace zqoh : G16 h0 = .inr (8, [.ref z, .ref (z + 27), .int 0, .ref (z + 54), .ref (z + 55), .ref (z + 57), .null, .null, .null, .null]) := (zqw16 _ (kb_h1 hz0 60) (kb_h3 hz0 61)).trans zqoh
  replace zqw2a : kb_R cy G16 z (z + 1) := zqw2a.keep (fun q h => zqw16 _ (by omega) (by omega))
  replace zqw5a : kb_R cy G16 (z + 27) (z + 28) := zqw5a.keep (fun q h => zqw16 _ (by omega) (by omega))
  replace zqhF : ∀ q : Nat, q ≠ h0 → q < z → G16 q = G q := fun q h1 h2 => (zqw16 _ (by omega) (by omega)).trans (zqhF q h1 h2)
  obtain ⟨zqu16_0, zqu16_1, zqu16_2, zqu16_3⟩ := zqw16a
  replace zqhP : kb_P D b G16 (z + 64) zqH1 := zqhP
  refine kb_putF (v := .ref (z + 60)) (ty := .object "NoonLaw$Sight") hx hb hts hi8 tyX8 tyX8_ok nmX8 hown hK zqhP zqhS (by omega) (by omega) zqoh rfl 6 (by decide) (hts (.fieldLink RX8 42 "NoonLaw" "sight" "LNoonLaw$Sight;") (List.mem_cons_of_mem _ bm_31)) rfl rfl zqhin rfl (by decide +kernel) rfl rfl (Nat.le_of_ble_eq_true rfl) dX8_init_64 (fun zqH1 zqlocs1 zqhP1 zqhS1 => ?_)
  replace zqhP := zqhP1
  replace zqhS := zqhS1
  clear zqhP1 zqhS1
  replace zqhP : kb_P D b (kb_u G16 h0 (.inr (8, [.ref z, .ref (z + 27), .int 0, .ref (z + 54), .ref (z + 55), .ref (z + 57), .ref (z + 60), .null, .null, .null]))) (z + 64) zqH1 := zqhP
  obtain ⟨G17, zqeG⟩ : ∃ q, q = kb_u G16 h0 (.inr (8, [.ref z, .ref (z + 27), .int 0, .ref (z + 54), .ref (z + 55), .ref (z + 57), .ref (z + 60), .null, .null, .null])) := ⟨_, rfl⟩
  rw [← zqeG] at zqhP
  have zqhk : ∀ q : Nat, q ≠ h0 → G17 q = G16 q := fun q hq => by rw [zqeG]; exact kb_un hq
  replace zqhF : ∀ q : Nat, q ≠ h0 → q < z → G17 q = G q := fun q h1 h2 => (zqhk q h1).trans (zqhF q h1 h2)
  replace zqo7 : G17 (z + 54) = .inl (cy 5, 4, .inr (.inr (.inr (.inr (fun _ => none))))) := (zqhk _ (kb_h2 hz0 54)).trans zqo7
  replace zqu10_0 : G17 (z + 55) = .inr (5, [.ref (z + 56), .int 0, .int 0, .int 0, .int 0, .int 0]) := (zqhk _ (kb_h2 hz0 55)).trans zqu10_0
  replace zqu10_1 : G17 (z + 56) = .inl (cy 0, 30, .inl (fun _ => 0)) := (zqhk _ (kb_h2 hz0 56)).trans zqu10_1
  replace zqu13_0 : G17 (z + 57) = .inr (7, [.int 0, .int 0, .ref (z + 58), .ref (z + 59), .int 0, .int 0]) := (zqhk _ (kb_h2 hz0 57)).trans zqu13_0
  replace zqu13_1 : G17 (z + 58) = .inl (cy 0, 60, .inl (fun _ => 0)) := (zqhk _ (kb_h2 hz0 58)).trans zqu13_1
  replace zqu13_2 : G17 (z + 59) = .inl (cy 1, 60, .inl (fun _ => 0)) := (zqhk _ (kb_h2 hz0 59)).trans zqu13_2
  replace zqu16_0 : G17 (z + 60) = .inr (4, [.int 0, .int 0, .int 0, .int 0, .int 0, .ref (z + 61), .ref (z + 62), .ref (z + 63)]) := (zqhk _ (kb_h2 hz0 60)).trans zqu16_0
  replace zqu16_1 : G17 (z + 61) = .inl (cy 0, 9, .inl (fun _ => 0)) := (zqhk _ (kb_h2 hz0 61)).trans zqu16_1
  replace zqu16_2 : G17 (z + 62) = .inl (cy 0, 10, .inl (fun _ => 0)) := (zqhk _ (kb_h2 hz0 62)).trans zqu16_2
  replace zqu16_3 : G17 (z + 63) = .inl (cy 0, 10, .inl (fun _ => 0)) := (zqhk _ (kb_h2 hz0 63)).trans zqu16_3
  replace zqoh : G17 h0 = .inr (8, [.ref z, .ref (z + 27), .int 0, .ref (z + 54), .ref (z + 55), .ref (z + 57), .ref (z + 60), .null, .null, .null]) := by rw [zqeG]; exact kb_us
  replace zqw2a : kb_R cy G17 z (z + 1) := zqw2a.keep (fun q h => zqhk q (by omega))
  replace zqw5a : kb_R cy G17 (z + 27) (z + 28) := zqw5a.keep (fun q h => zqhk q (by omega))
  clear zqeG zqhk
  refine lv_aload_n hx hb dX8_init_67 rfl (lv_at hl 0 rfl) ?_
  refine lv_bipush (v := 7) hx hb dX8_init_68 (by decide) ?_
  refine kb_newa (atype := .int) (ty := .int) hx hb (hts (.arrayClass .int) (List.mem_cons_of_mem _ bm_32)) 0 rfl rfl (fun _ _ h => h) hK zqhP zqhS (n := 7) (N' := 7) rfl (by decide) (by decide) (Nat.le_of_ble_eq_true rfl) (Nat.le_of_ble_eq_true rfl) (Nat.le_of_ble_eq_true rfl) dX8_init_70 (fun zqH1 zqhP1 zqhS1 => ?_)
  replace zqhP := zqhP1
  replace zqhS := zqhS1
  clear zqhP1 zqhS1
  obtain ⟨G18, zqeG⟩ : ∃ q, q = kb_u G17 (z + 64) (.inl (cy 0, 7, .inl (fun _ => 0))) := ⟨_, rfl⟩
  rw [← zqeG] at zqhP
  have zqhk : ∀ q : Nat, q ≠ z + 64 → G18 q = G17 q := fun q hq => by rw [zqeG]; exact kb_un hq
  replace zqhF : ∀ q : Nat, q ≠ h0 → q < z → G18 q = G q := fun q h1 h2 => (zqhk q (by omega)).trans (zqhF q h1 h2)
  replace zqo7 : G18 (z + 54) = .inl (cy 5, 4, .inr (.inr (.inr (.inr (fun _ => none))))) := (zqhk _ (kb_ne z (show 54 ≠ 64 by decide))).trans zqo7
  replace zqu10_0 : G18 (z + 55) = .inr (5, [.ref (z + 56), .int 0, .int 0, .int 0, .int 0, .int 0]) := (zqhk _ (kb_ne z (show 55 ≠ 64 by decide))).trans zqu10_0
  replace zqu10_1 : G18 (z + 56) = .inl (cy 0, 30, .inl (fun _ => 0)) := (zqhk _ (kb_ne z (show 56 ≠ 64 by decide))).trans zqu10_1
  replace zqu13_0 : G18 (z + 57) = .inr (7, [.int 0, .int 0, .ref (z + 58), .ref (z + 59), .int 0, .int 0]) := (zqhk _ (kb_ne z (show 57 ≠ 64 by decide))).trans zqu13_0
  replace zqu13_1 : G18 (z + 58) = .inl (cy 0, 60, .inl (fun _ => 0)) := (zqhk _ (kb_ne z (show 58 ≠ 64 by decide))).trans zqu13_1
  replace zqu13_2 : G18 (z + 59) = .inl (cy 1, 60, .inl (fun _ => 0)) := (zqhk _ (kb_ne z (show 59 ≠ 64 by decide))).trans zqu13_2
  replace zqu16_0 : G18 (z + 60) = .inr (4, [.int 0, .int 0, .int 0, .int 0, .int 0, .ref (z + 61), .ref (z + 62), .ref (z + 63)]) := (zqhk _ (kb_ne z (show 60 ≠ 64 by decide))).trans zqu16_0
  replace zqu16_1 : G18 (z + 61) = .inl (cy 0, 9, .inl (fun _ => 0)) := (zqhk _ (kb_ne z (show 61 ≠ 64 by decide))).trans zqu16_1
  replace zqu16_2 : G18 (z + 62) = .inl (cy 0, 10, .inl (fun _ => 0)) := (zqhk _ (kb_ne z (show 62 ≠ 64 by decide))).trans zqu16_2
  replace zqu16_3 : G18 (z + 63) = .inl (cy 0, 10, .inl (fun _ => 0)) := (zqhk _ (kb_ne z (show 63 ≠ 64 by decide))).trans zqu16_3
  replace zqoh : G18 h0 = .inr (8, [.ref z, .ref (z + 27), .int 0, .ref (z + 54), .ref (z + 55), .ref (z + 57), .ref (z + 60), .null, .null, .null]) := (zqhk _ (kb_h1 hz0 64)).trans zqoh
  have zqo18 : G18 (z + 64) = .inl (cy 0, 7, .inl (fun _ => 0)) := by rw [zqeG]; exact kb_us
  replace zqw2a : kb_R cy G18 z (z + 1) := zqw2a.keep (fun q h => zqhk q (by omega))
  replace zqw5a : kb_R cy G18 (z + 27) (z + 28) := zqw5a.keep (fun q h => zqhk q (by omega))
  clear zqeG zqhk
  replace zqhP : kb_P D b G18 (z + 65) zqH1 := zqhP
  refine kb_putF (v := .ref (z + 64)) (ty := .array .int) hx hb hts hi8 tyX8 tyX8_ok nmX8 hown hK zqhP zqhS (by omega) (by omega) zqoh rfl 7 (by decide) (hts (.fieldLink RX8 46 "NoonLaw" "refused" "[I") (List.mem_cons_of_mem _ bm_33)) rfl rfl zqhin rfl (by decide +kernel) rfl rfl (Nat.le_of_ble_eq_true rfl) dX8_init_72 (fun zqH1 zqlocs1 zqhP1 zqhS1 => ?_)
  replace zqhP := zqhP1
  replace zqhS := zqhS1
  clear zqhP1 zqhS1
  replace zqhP : kb_P D b (kb_u G18 h0 (.inr (8, [.ref z, .ref (z + 27), .int 0, .ref (z + 54), .ref (z + 55), .ref (z + 57), .ref (z + 60), .ref (z + 64), .null, .null]))) (z + 65) zqH1 := zqhP
  obtain ⟨G19, zqeG⟩ : ∃ q, q = kb_u G18 h0 (.inr (8, [.ref z, .ref (z + 27), .int 0, .ref (z + 54), .ref (z + 55), .ref (z + 57), .ref (z + 60), .ref (z + 64), .null, .null])) := ⟨_, rfl⟩
  rw [← zqeG] at zqhP
  have zqhk : ∀ q : Nat, q ≠ h0 → G19 q = G18 q := fun q hq => by rw [zqeG]; exact kb_un hq
  replace zqhF : ∀ q : Nat, q ≠ h0 → q < z → G19 q = G q := fun q h1 h2 => (zqhk q h1).trans (zqhF q h1 h2)
  replace zqo7 : G19 (z + 54) = .inl (cy 5, 4, .inr (.inr (.inr (.inr (fun _ => none))))) := (zqhk _ (kb_h2 hz0 54)).trans zqo7
  replace zqu10_0 : G19 (z + 55) = .inr (5, [.ref (z + 56), .int 0, .int 0, .int 0, .int 0, .int 0]) := (zqhk _ (kb_h2 hz0 55)).trans zqu10_0
  replace zqu10_1 : G19 (z + 56) = .inl (cy 0, 30, .inl (fun _ => 0)) := (zqhk _ (kb_h2 hz0 56)).trans zqu10_1
  replace zqu13_0 : G19 (z + 57) = .inr (7, [.int 0, .int 0, .ref (z + 58), .ref (z + 59), .int 0, .int 0]) := (zqhk _ (kb_h2 hz0 57)).trans zqu13_0
  replace zqu13_1 : G19 (z + 58) = .inl (cy 0, 60, .inl (fun _ => 0)) := (zqhk _ (kb_h2 hz0 58)).trans zqu13_1
  replace zqu13_2 : G19 (z + 59) = .inl (cy 1, 60, .inl (fun _ => 0)) := (zqhk _ (kb_h2 hz0 59)).trans zqu13_2
  replace zqu16_0 : G19 (z + 60) = .inr (4, [.int 0, .int 0, .int 0, .int 0, .int 0, .ref (z + 61), .ref (z + 62), .ref (z + 63)]) := (zqhk _ (kb_h2 hz0 60)).trans zqu16_0
  replace zqu16_1 : G19 (z + 61) = .inl (cy 0, 9, .inl (fun _ => 0)) := (zqhk _ (kb_h2 hz0 61)).trans zqu16_1
  replace zqu16_2 : G19 (z + 62) = .inl (cy 0, 10, .inl (fun _ => 0)) := (zqhk _ (kb_h2 hz0 62)).trans zqu16_2
  replace zqu16_3 : G19 (z + 63) = .inl (cy 0, 10, .inl (fun _ => 0)) := (zqhk _ (kb_h2 hz0 63)).trans zqu16_3
  replace zqo18 : G19 (z + 64) = .inl (cy 0, 7, .inl (fun _ => 0)) := (zqhk _ (kb_h2 hz0 64)).trans zqo18
  replace zqoh : G19 h0 = .inr (8, [.ref z, .ref (z + 27), .int 0, .ref (z + 54), .ref (z + 55), .ref (z + 57), .ref (z + 60), .ref (z + 64), .null, .null]) := by rw [zqeG]; exact kb_us
  replace zqw2a : kb_R cy G19 z (z + 1) := zqw2a.keep (fun q h => zqhk q (by omega))
  replace zqw5a : kb_R cy G19 (z + 27) (z + 28) := zqw5a.keep (fun q h => zqhk q (by omega))
  clear zqeG zqhk
  refine lv_aload_n hx hb dX8_init_75 rfl (lv_at hl 0 rfl) ?_
  refine lv_bipush (v := 10) hx hb dX8_init_76 (by decide) ?_
  refine kb_newa (atype := .int) (ty := .int) hx hb (hts (.arrayClass .int) (List.mem_cons_of_mem _ bm_32)) 0 rfl rfl (fun _ _ h => h) hK zqhP zqhS (n := 10) (N' := 10) rfl (by decide) (by decide) (Nat.le_of_ble_eq_true rfl) (Nat.le_of_ble_eq_true rfl) (Nat.le_of_ble_eq_true rfl) dX8_init_78 (fun zqH1 zqhP1 zqhS1 => ?_)
  replace zqhP := zqhP1
  replace zqhS := zqhS1
  clear zqhP1 zqhS1
  obtain ⟨G20, zqeG⟩ : ∃ q, q = kb_u G19 (z + 65) (.inl (cy 0, 10, .inl (fun _ => 0))) := ⟨_, rfl⟩
  rw [← zqeG] at zqhP
  have zqhk : ∀ q : Nat, q ≠ z + 65 → G20 q = G19 q := fun q hq => by rw [zqeG]; exact kb_un hq
  replace zqhF : ∀ q : Nat, q ≠ h0 → q < z → G20 q = G q := fun q h1 h2 => (zqhk q (by omega)).trans (zqhF q h1 h2)
  replace zqo7 : G20 (z + 54) = .inl (cy 5, 4, .inr (.inr (.inr (.inr (fun _ => none))))) := (zqhk _ (kb_ne z (show 54 ≠ 65 by decide))).trans zqo7
  replace zqu10_0 : G20 (z + 55) = .inr (5, [.ref (z + 56), .int 0, .int 0, .int 0, .int 0, .int 0]) := (zqhk _ (kb_ne z (show 55 ≠ 65 by decide))).trans zqu10_0
  replace zqu10_1 : G20 (z + 56) = .inl (cy 0, 30, .inl (fun _ => 0)) := (zqhk _ (kb_ne z (show 56 ≠ 65 by decide))).trans zqu10_1
  replace zqu13_0 : G20 (z + 57) = .inr (7, [.int 0, .int 0, .ref (z + 58), .ref (z + 59), .int 0, .int 0]) := (zqhk _ (kb_ne z (show 57 ≠ 65 by decide))).trans zqu13_0
  replace zqu13_1 : G20 (z + 58) = .inl (cy 0, 60, .inl (fun _ => 0)) := (zqhk _ (kb_ne z (show 58 ≠ 65 by decide))).trans zqu13_1
  replace zqu13_2 : G20 (z + 59) = .inl (cy 1, 60, .inl (fun _ => 0)) := (zqhk _ (kb_ne z (show 59 ≠ 65 by decide))).trans zqu13_2
  replace zqu16_0 : G20 (z + 60) = .inr (4, [.int 0, .int 0, .int 0, .int 0, .int 0, .ref (z + 61), .ref (z + 62), .ref (z + 63)]) := (zqhk _ (kb_ne z (show 60 ≠ 65 by decide))).trans zqu16_0
  replace zqu16_1 : G20 (z + 61) = .inl (cy 0, 9, .inl (fun _ => 0)) := (zqhk _ (kb_ne z (show 61 ≠ 65 by decide))).trans zqu16_1
  replace zqu16_2 : G20 (z + 62) = .inl (cy 0, 10, .inl (fun _ => 0)) := (zqhk _ (kb_ne z (show 62 ≠ 65 by decide))).trans zqu16_2
  replace zqu16_3 : G20 (z + 63) = .inl (cy 0, 10, .inl (fun _ => 0)) := (zqhk _ (kb_ne z (show 63 ≠ 65 by decide))).trans zqu16_3
  replace zqo18 : G20 (z + 64) = .inl (cy 0, 7, .inl (fun _ => 0)) := (zqhk _ (kb_ne z (show 64 ≠ 65 by decide))).trans zqo18
  replace zqoh : G20 h0 = .inr (8, [.ref z, .ref (z + 27), .int 0, .ref (z + 54), .ref (z + 55), .ref (z + 57), .ref (z + 60), .ref (z + 64), .null, .null]) := (zqhk _ (kb_h1 hz0 65)).trans zqoh
  have zqo20 : G20 (z + 65) = .inl (cy 0, 10, .inl (fun _ => 0)) := by rw [zqeG]; exact kb_us
  replace zqw2a : kb_R cy G20 z (z + 1) := zqw2a.keep (fun q h => zqhk q (by omega))
  replace zqw5a : kb_R cy G20 (z + 27) (z + 28) := zqw5a.keep (fun q h => zqhk q (by omega))
  clear zqeG zqhk
  replace zqhP : kb_P D b G20 (z + 66) zqH1 := zqhP
  refine kb_putF (v := .ref (z + 65)) (ty := .array .int) hx hb hts hi8 tyX8 tyX8_ok nmX8 hown hK zqhP zqhS (by omega) (by omega) zqoh rfl 8 (by decide) (hts (.fieldLink RX8 50 "NoonLaw" "bannedHours" "[I") (List.mem_cons_of_mem _ bm_34)) rfl rfl zqhin rfl (by decide +kernel) rfl rfl (Nat.le_of_ble_eq_true rfl) dX8_init_80 (fun zqH1 zqlocs1 zqhP1 zqhS1 => ?_)
  replace zqhP := zqhP1
  replace zqhS := zqhS1
  clear zqhP1 zqhS1
  replace zqhP : kb_P D b (kb_u G20 h0 (.inr (8, [.ref z, .ref (z + 27), .int 0, .ref (z + 54), .ref (z + 55), .ref (z + 57), .ref (z + 60), .ref (z + 64), .ref (z + 65), .null]))) (z + 66) zqH1 := zqhP
  obtain ⟨G21, zqeG⟩ : ∃ q, q = kb_u G20 h0 (.inr (8, [.ref z, .ref (z + 27), .int 0, .ref (z + 54), .ref (z + 55), .ref (z + 57), .ref (z + 60), .ref (z + 64), .ref (z + 65), .null])) := ⟨_, rfl⟩
  rw [← zqeG] at zqhP
  have zqhk : ∀ q : Nat, q ≠ h0 → G21 q = G20 q := fun q hq => by rw [zqeG]; exact kb_un hq
  replace zqhF : ∀ q : Nat, q ≠ h0 → q < z → G21 q = G q := fun q h1 h2 => (zqhk q h1).trans (zqhF q h1 h2)
  replace zqo7 : G21 (z + 54) = .inl (cy 5, 4, .inr (.inr (.inr (.inr (fun _ => none))))) := (zqhk _ (kb_h2 hz0 54)).trans zqo7
  replace zqu10_0 : G21 (z + 55) = .inr (5, [.ref (z + 56), .int 0, .int 0, .int 0, .int 0, .int 0]) := (zqhk _ (kb_h2 hz0 55)).trans zqu10_0
  replace zqu10_1 : G21 (z + 56) = .inl (cy 0, 30, .inl (fun _ => 0)) := (zqhk _ (kb_h2 hz0 56)).trans zqu10_1
  replace zqu13_0 : G21 (z + 57) = .inr (7, [.int 0, .int 0, .ref (z + 58), .ref (z + 59), .int 0, .int 0]) := (zqhk _ (kb_h2 hz0 57)).trans zqu13_0
  replace zqu13_1 : G21 (z + 58) = .inl (cy 0, 60, .inl (fun _ => 0)) := (zqhk _ (kb_h2 hz0 58)).trans zqu13_1
  replace zqu13_2 : G21 (z + 59) = .inl (cy 1, 60, .inl (fun _ => 0)) := (zqhk _ (kb_h2 hz0 59)).trans zqu13_2
  replace zqu16_0 : G21 (z + 60) = .inr (4, [.int 0, .int 0, .int 0, .int 0, .int 0, .ref (z + 61), .ref (z + 62), .ref (z + 63)]) := (zqhk _ (kb_h2 hz0 60)).trans zqu16_0
  replace zqu16_1 : G21 (z + 61) = .inl (cy 0, 9, .inl (fun _ => 0)) := (zqhk _ (kb_h2 hz0 61)).trans zqu16_1
  replace zqu16_2 : G21 (z + 62) = .inl (cy 0, 10, .inl (fun _ => 0)) := (zqhk _ (kb_h2 hz0 62)).trans zqu16_2
  replace zqu16_3 : G21 (z + 63) = .inl (cy 0, 10, .inl (fun _ => 0)) := (zqhk _ (kb_h2 hz0 63)).trans zqu16_3
  replace zqo18 : G21 (z + 64) = .inl (cy 0, 7, .inl (fun _ => 0)) := (zqhk _ (kb_h2 hz0 64)).trans zqo18
  replace zqo20 : G21 (z + 65) = .inl (cy 0, 10, .inl (fun _ => 0)) := (zqhk _ (kb_h2 hz0 65)).trans zqo20
  replace zqoh : G21 h0 = .inr (8, [.ref z, .ref (z + 27), .int 0, .ref (z + 54), .ref (z + 55), .ref (z + 57), .ref (z + 60), .ref (z + 64), .ref (z + 65), .null]) := by rw [zqeG]; exact kb_us
  replace zqw2a : kb_R cy G21 z (z + 1) := zqw2a.keep (fun q h => zqhk q (by omega))
  replace zqw5a : kb_R cy G21 (z + 27) (z + 28) := zqw5a.keep (fun q h => zqhk q (by omega))
  clear zqeG zqhk
  refine lv_aload_n hx hb dX8_init_83 rfl (lv_at hl 0 rfl) ?_
  refine lv_bipush (v := 10) hx hb dX8_init_84 (by decide) ?_
  refine kb_newa (atype := .int) (ty := .int) hx hb (hts (.arrayClass .int) (List.mem_cons_of_mem _ bm_32)) 0 rfl rfl (fun _ _ h => h) hK zqhP zqhS (n := 10) (N' := 10) rfl (by decide) (by decide) (Nat.le_of_ble_eq_true rfl) (Nat.le_of_ble_eq_true rfl) (Nat.le_of_ble_eq_true rfl) dX8_init_86 (fun zqH1 zqhP1 zqhS1 => ?_)
  replace zqhP := zqhP1
  replace zqhS := zqhS1
  clear zqhP1 zqhS1
  obtain ⟨G22, zqeG⟩ : ∃ q, q = kb_u G21 (z + 66) (.inl (cy 0, 10, .inl (fun _ => 0))) := ⟨_, rfl⟩
  rw [← zqeG] at zqhP
  have zqhk : ∀ q : Nat, q ≠ z + 66 → G22 q = G21 q := fun q hq => by rw [zqeG]; exact kb_un hq
  replace zqhF : ∀ q : Nat, q ≠ h0 → q < z → G22 q = G q := fun q h1 h2 => (zqhk q (by omega)).trans (zqhF q h1 h2)
  replace zqo7 : G22 (z + 54) = .inl (cy 5, 4, .inr (.inr (.inr (.inr (fun _ => none))))) := (zqhk _ (kb_ne z (show 54 ≠ 66 by decide))).trans zqo7
  replace zqu10_0 : G22 (z + 55) = .inr (5, [.ref (z + 56), .int 0, .int 0, .int 0, .int 0, .int 0]) := (zqhk _ (kb_ne z (show 55 ≠ 66 by decide))).trans zqu10_0
  replace zqu10_1 : G22 (z + 56) = .inl (cy 0, 30, .inl (fun _ => 0)) := (zqhk _ (kb_ne z (show 56 ≠ 66 by decide))).trans zqu10_1
  replace zqu13_0 : G22 (z + 57) = .inr (7, [.int 0, .int 0, .ref (z + 58), .ref (z + 59), .int 0, .int 0]) := (zqhk _ (kb_ne z (show 57 ≠ 66 by decide))).trans zqu13_0
  replace zqu13_1 : G22 (z + 58) = .inl (cy 0, 60, .inl (fun _ => 0)) := (zqhk _ (kb_ne z (show 58 ≠ 66 by decide))).trans zqu13_1
  replace zqu13_2 : G22 (z + 59) = .inl (cy 1, 60, .inl (fun _ => 0)) := (zqhk _ (kb_ne z (show 59 ≠ 66 by decide))).trans zqu13_2
  replace zqu16_0 : G22 (z + 60) = .inr (4, [.int 0, .int 0, .int 0, .int 0, .int 0, .ref (z + 61), .ref (z + 62), .ref (z + 63)]) := (zqhk _ (kb_ne z (show 60 ≠ 66 by decide))).trans zqu16_0
  replace zqu16_1 : G22 (z + 61) = .inl (cy 0, 9, .inl (fun _ => 0)) := (zqhk _ (kb_ne z (show 61 ≠ 66 by decide))).trans zqu16_1
  replace zqu16_2 : G22 (z + 62) = .inl (cy 0, 10, .inl (fun _ => 0)) := (zqhk _ (kb_ne z (show 62 ≠ 66 by decide))).trans zqu16_2
  replace zqu16_3 : G22 (z + 63) = .inl (cy 0, 10, .inl (fun _ => 0)) := (zqhk _ (kb_ne z (show 63 ≠ 66 by decide))).trans zqu16_3
  replace zqo18 : G22 (z + 64) = .inl (cy 0, 7, .inl (fun _ => 0)) := (zqhk _ (kb_ne z (show 64 ≠ 66 by decide))).trans zqo18
  replace zqo20 : G22 (z + 65) = .inl (cy 0, 10, .inl (fun _ => 0)) := (zqhk _ (kb_ne z (show 65 ≠ 66 by decide))).trans zqo20
  replace zqoh : G22 h0 = .inr (8, [.ref z, .ref (z + 27), .int 0, .ref (z + 54), .ref (z + 55), .ref (z + 57), .ref (z + 60), .ref (z + 64), .ref (z + 65), .null]) := (zqhk _ (kb_h1 hz0 66)).trans zqoh
  have zqo22 : G22 (z + 66) = .inl (cy 0, 10, .inl (fun _ => 0)) := by rw [zqeG]; exact kb_us
  replace zqw2a : kb_R cy G22 z (z + 1) := zqw2a.keep (fun q h => zqhk q (by omega))
  replace zqw5a : kb_R cy G22 (z + 27) (z + 28) := zqw5a.keep (fun q h => zqhk q (by omega))
  clear zqeG zqhk
  replace zqhP : kb_P D b G22 (z + 67) zqH1 := zqhP
  refine kb_putF (v := .ref (z + 66)) (ty := .array .int) hx hb hts hi8 tyX8 tyX8_ok nmX8 hown hK zqhP zqhS (by omega) (by omega) zqoh rfl 9 (by decide) (hts (.fieldLink RX8 53 "NoonLaw" "biddenHours" "[I") (List.mem_cons_of_mem _ bm_35)) rfl rfl zqhin rfl (by decide +kernel) rfl rfl (Nat.le_of_ble_eq_true rfl) dX8_init_88 (fun zqH1 zqlocs1 zqhP1 zqhS1 => ?_)
  replace zqhP := zqhP1
  replace zqhS := zqhS1
  clear zqhP1 zqhS1
  replace zqhP : kb_P D b (kb_u G22 h0 (.inr (8, [.ref z, .ref (z + 27), .int 0, .ref (z + 54), .ref (z + 55), .ref (z + 57), .ref (z + 60), .ref (z + 64), .ref (z + 65), .ref (z + 66)]))) (z + 67) zqH1 := zqhP
  obtain ⟨G23, zqeG⟩ : ∃ q, q = kb_u G22 h0 (.inr (8, [.ref z, .ref (z + 27), .int 0, .ref (z + 54), .ref (z + 55), .ref (z + 57), .ref (z + 60), .ref (z + 64), .ref (z + 65), .ref (z + 66)])) := ⟨_, rfl⟩
  rw [← zqeG] at zqhP
  have zqhk : ∀ q : Nat, q ≠ h0 → G23 q = G22 q := fun q hq => by rw [zqeG]; exact kb_un hq
  replace zqhF : ∀ q : Nat, q ≠ h0 → q < z → G23 q = G q := fun q h1 h2 => (zqhk q h1).trans (zqhF q h1 h2)
  replace zqo7 : G23 (z + 54) = .inl (cy 5, 4, .inr (.inr (.inr (.inr (fun _ => none))))) := (zqhk _ (kb_h2 hz0 54)).trans zqo7
  replace zqu10_0 : G23 (z + 55) = .inr (5, [.ref (z + 56), .int 0, .int 0, .int 0, .int 0, .int 0]) := (zqhk _ (kb_h2 hz0 55)).trans zqu10_0
  replace zqu10_1 : G23 (z + 56) = .inl (cy 0, 30, .inl (fun _ => 0)) := (zqhk _ (kb_h2 hz0 56)).trans zqu10_1
  replace zqu13_0 : G23 (z + 57) = .inr (7, [.int 0, .int 0, .ref (z + 58), .ref (z + 59), .int 0, .int 0]) := (zqhk _ (kb_h2 hz0 57)).trans zqu13_0
  replace zqu13_1 : G23 (z + 58) = .inl (cy 0, 60, .inl (fun _ => 0)) := (zqhk _ (kb_h2 hz0 58)).trans zqu13_1
  replace zqu13_2 : G23 (z + 59) = .inl (cy 1, 60, .inl (fun _ => 0)) := (zqhk _ (kb_h2 hz0 59)).trans zqu13_2
  replace zqu16_0 : G23 (z + 60) = .inr (4, [.int 0, .int 0, .int 0, .int 0, .int 0, .ref (z + 61), .ref (z + 62), .ref (z + 63)]) := (zqhk _ (kb_h2 hz0 60)).trans zqu16_0
  replace zqu16_1 : G23 (z + 61) = .inl (cy 0, 9, .inl (fun _ => 0)) := (zqhk _ (kb_h2 hz0 61)).trans zqu16_1
  replace zqu16_2 : G23 (z + 62) = .inl (cy 0, 10, .inl (fun _ => 0)) := (zqhk _ (kb_h2 hz0 62)).trans zqu16_2
  replace zqu16_3 : G23 (z + 63) = .inl (cy 0, 10, .inl (fun _ => 0)) := (zqhk _ (kb_h2 hz0 63)).trans zqu16_3
  replace zqo18 : G23 (z + 64) = .inl (cy 0, 7, .inl (fun _ => 0)) := (zqhk _ (kb_h2 hz0 64)).trans zqo18
  replace zqo20 : G23 (z + 65) = .inl (cy 0, 10, .inl (fun _ => 0)) := (zqhk _ (kb_h2 hz0 65)).trans zqo20
  replace zqo22 : G23 (z + 66) = .inl (cy 0, 10, .inl (fun _ => 0)) := (zqhk _ (kb_h2 hz0 66)).trans zqo22
  replace zqoh : G23 h0 = .inr (8, [.ref z, .ref (z + 27), .int 0, .ref (z + 54), .ref (z + 55), .ref (z + 57), .ref (z + 60), .ref (z + 64), .ref (z + 65), .ref (z + 66)]) := by rw [zqeG]; exact kb_us
  replace zqw2a : kb_R cy G23 z (z + 1) := zqw2a.keep (fun q h => zqhk q (by omega))
  replace zqw5a : kb_R cy G23 (z + 27) (z + 28) := zqw5a.keep (fun q h => zqhk q (by omega))
  clear zqeG zqhk
  refine lv_iconst (v := 0) hx hb dX8_init_91 (by decide) ?_
  refine lv_istore_n (lv' := [(1, .int 0), (0, .ref h0)]) hx hb dX8_init_92 rfl hl (by decide) rfl (fun ls hl => ?_)
  refine lv_iload_n hx hb dX8_init_93 rfl (lv_at hl 0 rfl) ?_
  refine lv_iconst (v := 4) hx hb dX8_init_94 (by decide) ?_
  refine lv_icmp_ge (tgt := 117) hx hb dX8_init_95 (by decide) (fun zqc24 => absurd zqc24 (by decide)) (fun zqc24 => ?_)
  refine lv_aload_n hx hb dX8_init_98 rfl (lv_at hl 1 rfl) ?_
  refine kb_get hx hb hts hi8 hown hK zqhP (by omega) (by omega) zqoh rfl 3 (by decide) (hts (.fieldLink RX8 21 "NoonLaw" "sheets" "[LNoonLaw$Sheet;") (List.mem_cons_of_mem _ bm_19)) rfl rfl dX8_init_99 ?_
  refine lv_iload_n hx hb dX8_init_102 rfl (lv_at hl 0 rfl) ?_
  refine kb_new (C := RX3) (T := TX3) (N := 3) hx hb hts hi3 tyX3 tyX3_ok hown (hts (.classLink RX8 19 RX3) (List.mem_cons_of_mem _ bm_18)) (hts (.instantiable RX3 3) (List.mem_cons_of_mem _ bm_36)) (hts (.initialized RX3) (List.mem_cons_of_mem _ bm_37)) hK zqhP zqhS (ci := 3) rfl [.int 0, .int 0, .null] (fun j zqhj => by rcases (show j = 0 ∨ j = 1 ∨ j = 2 by omega) with rfl | rfl | rfl <;> rfl) (Nat.le_of_ble_eq_true rfl) (Nat.le_of_ble_eq_true rfl) dX8_init_103 (fun zqH1 zqhP1 zqhS1 => ?_)
  replace zqhP := zqhP1
  replace zqhS := zqhS1
  clear zqhP1 zqhS1
  obtain ⟨G25, zqeG⟩ : ∃ q, q = kb_u G23 (z + 67) (.inr (3, [.int 0, .int 0, .null])) := ⟨_, rfl⟩
  rw [← zqeG] at zqhP
  have zqhk : ∀ q : Nat, q ≠ z + 67 → G25 q = G23 q := fun q hq => by rw [zqeG]; exact kb_un hq
  replace zqhF : ∀ q : Nat, q ≠ h0 → q < z → G25 q = G q := fun q h1 h2 => (zqhk q (by omega)).trans (zqhF q h1 h2)
  replace zqo7 : G25 (z + 54) = .inl (cy 5, 4, .inr (.inr (.inr (.inr (fun _ => none))))) := (zqhk _ (kb_ne z (show 54 ≠ 67 by decide))).trans zqo7
  replace zqu10_0 : G25 (z + 55) = .inr (5, [.ref (z + 56), .int 0, .int 0, .int 0, .int 0, .int 0]) := (zqhk _ (kb_ne z (show 55 ≠ 67 by decide))).trans zqu10_0
  replace zqu10_1 : G25 (z + 56) = .inl (cy 0, 30, .inl (fun _ => 0)) := (zqhk _ (kb_ne z (show 56 ≠ 67 by decide))).trans zqu10_1
  replace zqu13_0 : G25 (z + 57) = .inr (7, [.int 0, .int 0, .ref (z + 58), .ref (z + 59), .int 0, .int 0]) := (zqhk _ (kb_ne z (show 57 ≠ 67 by decide))).trans zqu13_0
  replace zqu13_1 : G25 (z + 58) = .inl (cy 0, 60, .inl (fun _ => 0)) := (zqhk _ (kb_ne z (show 58 ≠ 67 by decide))).trans zqu13_1
  replace zqu13_2 : G25 (z + 59) = .inl (cy 1, 60, .inl (fun _ => 0)) := (zqhk _ (kb_ne z (show 59 ≠ 67 by decide))).trans zqu13_2
  replace zqu16_0 : G25 (z + 60) = .inr (4, [.int 0, .int 0, .int 0, .int 0, .int 0, .ref (z + 61), .ref (z + 62), .ref (z + 63)]) := (zqhk _ (kb_ne z (show 60 ≠ 67 by decide))).trans zqu16_0
  replace zqu16_1 : G25 (z + 61) = .inl (cy 0, 9, .inl (fun _ => 0)) := (zqhk _ (kb_ne z (show 61 ≠ 67 by decide))).trans zqu16_1
  replace zqu16_2 : G25 (z + 62) = .inl (cy 0, 10, .inl (fun _ => 0)) := (zqhk _ (kb_ne z (show 62 ≠ 67 by decide))).trans zqu16_2
  replace zqu16_3 : G25 (z + 63) = .inl (cy 0, 10, .inl (fun _ => 0)) := (zqhk _ (kb_ne z (show 63 ≠ 67 by decide))).trans zqu16_3
  replace zqo18 : G25 (z + 64) = .inl (cy 0, 7, .inl (fun _ => 0)) := (zqhk _ (kb_ne z (show 64 ≠ 67 by decide))).trans zqo18
  replace zqo20 : G25 (z + 65) = .inl (cy 0, 10, .inl (fun _ => 0)) := (zqhk _ (kb_ne z (show 65 ≠ 67 by decide))).trans zqo20
  replace zqo22 : G25 (z + 66) = .inl (cy 0, 10, .inl (fun _ => 0)) := (zqhk _ (kb_ne z (show 66 ≠ 67 by decide))).trans zqo22
  replace zqoh : G25 h0 = .inr (8, [.ref z, .ref (z + 27), .int 0, .ref (z + 54), .ref (z + 55), .ref (z + 57), .ref (z + 60), .ref (z + 64), .ref (z + 65), .ref (z + 66)]) := (zqhk _ (kb_h1 hz0 67)).trans zqoh
  have zqo25 : G25 (z + 67) = .inr (3, [.int 0, .int 0, .null]) := by rw [zqeG]; exact kb_us
  replace zqw2a : kb_R cy G25 z (z + 1) := zqw2a.keep (fun q h => zqhk q (by omega))
  replace zqw5a : kb_R cy G25 (z + 27) (z + 28) := zqw5a.keep (fun q h => zqhk q (by omega))
  clear zqeG zqhk
  replace zqhP : kb_P D b G25 (z + 68) zqH1 := zqhP
  refine lv_dup hx hb dX8_init_106 rfl ?_
  refine kb_callN (rest := [.ref (z + 67), .int 0, .ref (z + 54)]) ⟨hx, hb, hml, hown, hts⟩ hK zqhP zqhS (c_X3_init l D cy b G25 (z + 68) (z + 67) (by omega) (by omega) zqo25) ⟨va_cnB 0 hts gX8_init_X3_init_n56 rfl rfl rfl (hK.2.2.2.2.2.2.2.2.2.2.2) (hts (.initialized RX3) (List.mem_cons_of_mem _ bm_37)) (by decide +kernel) ⟨Nat.le_of_ble_eq_true rfl, Nat.le_of_ble_eq_true rfl⟩, rfl, hts (.instanceMethod yX3_init) (by decide +kernel)⟩ hl.1 (Nat.le_of_ble_eq_true rfl) dX8_init_107 ⟨Nat.le_of_ble_eq_true rfl, Nat.le_of_ble_eq_true rfl⟩ (fun G26 zqH1 zqlocs1 zqw26 zqhP1 zqhS1 => ?_)
  replace zqhP := zqhP1
  replace zqhS := zqhS1
  clear zqhP1 zqhS1
  obtain ⟨zqw26a, zqw26⟩ := zqw26
  replace zqo7 : G26 (z + 54) = .inl (cy 5, 4, .inr (.inr (.inr (.inr (fun _ => none))))) := (zqw26 _ (kb_ne z (show 54 ≠ 67 by decide)) (kb_lt z (show 54 < 68 by decide))).trans zqo7
  replace zqu10_0 : G26 (z + 55) = .inr (5, [.ref (z + 56), .int 0, .int 0, .int 0, .int 0, .int 0]) := (zqw26 _ (kb_ne z (show 55 ≠ 67 by decide)) (kb_lt z (show 55 < 68 by decide))).trans zqu10_0
  replace zqu10_1 : G26 (z + 56) = .inl (cy 0, 30, .inl (fun _ => 0)) := (zqw26 _ (kb_ne z (show 56 ≠ 67 by decide)) (kb_lt z (show 56 < 68 by decide))).trans zqu10_1
  replace zqu13_0 : G26 (z + 57) = .inr (7, [.int 0, .int 0, .ref (z + 58), .ref (z + 59), .int 0, .int 0]) := (zqw26 _ (kb_ne z (show 57 ≠ 67 by decide)) (kb_lt z (show 57 < 68 by decide))).trans zqu13_0
  replace zqu13_1 : G26 (z + 58) = .inl (cy 0, 60, .inl (fun _ => 0)) := (zqw26 _ (kb_ne z (show 58 ≠ 67 by decide)) (kb_lt z (show 58 < 68 by decide))).trans zqu13_1
  replace zqu13_2 : G26 (z + 59) = .inl (cy 1, 60, .inl (fun _ => 0)) := (zqw26 _ (kb_ne z (show 59 ≠ 67 by decide)) (kb_lt z (show 59 < 68 by decide))).trans zqu13_2
  replace zqu16_0 : G26 (z + 60) = .inr (4, [.int 0, .int 0, .int 0, .int 0, .int 0, .ref (z + 61), .ref (z + 62), .ref (z + 63)]) := (zqw26 _ (kb_ne z (show 60 ≠ 67 by decide)) (kb_lt z (show 60 < 68 by decide))).trans zqu16_0
  replace zqu16_1 : G26 (z + 61) = .inl (cy 0, 9, .inl (fun _ => 0)) := (zqw26 _ (kb_ne z (show 61 ≠ 67 by decide)) (kb_lt z (show 61 < 68 by decide))).trans zqu16_1
  replace zqu16_2 : G26 (z + 62) = .inl (cy 0, 10, .inl (fun _ => 0)) := (zqw26 _ (kb_ne z (show 62 ≠ 67 by decide)) (kb_lt z (show 62 < 68 by decide))).trans zqu16_2
  replace zqu16_3 : G26 (z + 63) = .inl (cy 0, 10, .inl (fun _ => 0)) := (zqw26 _ (kb_ne z (show 63 ≠ 67 by decide)) (kb_lt z (show 63 < 68 by decide))).trans zqu16_3
  replace zqo18 : G26 (z + 64) = .inl (cy 0, 7, .inl (fun _ => 0)) := (zqw26 _ (kb_ne z (show 64 ≠ 67 by decide)) (kb_lt z (show 64 < 68 by decide))).trans zqo18
  replace zqo20 : G26 (z + 65) = .inl (cy 0, 10, .inl (fun _ => 0)) := (zqw26 _ (kb_ne z (show 65 ≠ 67 by decide)) (kb_lt z (show 65 < 68 by decide))).trans zqo20
  replace zqo22 : G26 (z + 66) = .inl (cy 0, 10, .inl (fun _ => 0)) := (zqw26 _ (kb_ne z (show 66 ≠ 67 by decide)) (kb_lt z (show 66 < 68 by decide))).trans zqo22
  replace zqoh : G26 h0 = .inr (8, [.ref z, .ref (z + 27), .int 0, .ref (z + 54), .ref (z + 55), .ref (z + 57), .ref (z + 60), .ref (z + 64), .ref (z + 65), .ref (z + 66)]) := (zqw26 _ (kb_h1 hz0 67) (kb_h3 hz0 68)).trans zqoh
  replace zqw2a : kb_R cy G26 z (z + 1) := zqw2a.keep (fun q h => zqw26 _ (by omega) (by omega))
  replace zqw5a : kb_R cy G26 (z + 27) (z + 28) := zqw5a.keep (fun q h => zqw26 _ (by omega) (by omega))
  replace zqhF : ∀ q : Nat, q ≠ h0 → q < z → G26 q = G q := fun q h1 h2 => (zqw26 _ (by omega) (by omega)).trans (zqhF q h1 h2)
  obtain ⟨zqu26_0, zqu26_1⟩ := zqw26a
  replace zqhP : kb_P D b G26 (z + 69) zqH1 := zqhP
  have zqk0 : (0 : Int32).toInt = 0 := by decide +kernel
  refine kb_aast hx hb hK zqhP zqhS (by omega) (by omega) 5 3 zqo7 rfl (by omega) (by omega) zqu26_0 rfl (by omega) (by omega) dX8_init_110 (fun j zqH1 zqlocs1 zqej zqhj zqhP1 zqhS1 => ?_)
  replace zqhP := zqhP1
  replace zqhS := zqhS1
  clear zqhP1 zqhS1
  have zqej : j = 0 := by omega
  subst zqej
  obtain ⟨G27, zqeG⟩ : ∃ q, q = kb_u G26 (z + 54) (.inl (cy 5, 4, .inr (.inr (.inr (.inr (va_up (fun _ => none) 0 (some (z + 67)))))))) := ⟨_, rfl⟩
  rw [← zqeG] at zqhP
  have zqhk : ∀ q : Nat, q ≠ z + 54 → G27 q = G26 q := fun q hq => by rw [zqeG]; exact kb_un hq
  replace zqhF : ∀ q : Nat, q ≠ h0 → q < z → G27 q = G q := fun q h1 h2 => (zqhk q (by omega)).trans (zqhF q h1 h2)
  replace zqu10_0 : G27 (z + 55) = .inr (5, [.ref (z + 56), .int 0, .int 0, .int 0, .int 0, .int 0]) := (zqhk _ (kb_ne z (show 55 ≠ 54 by decide))).trans zqu10_0
  replace zqu10_1 : G27 (z + 56) = .inl (cy 0, 30, .inl (fun _ => 0)) := (zqhk _ (kb_ne z (show 56 ≠ 54 by decide))).trans zqu10_1
  replace zqu13_0 : G27 (z + 57) = .inr (7, [.int 0, .int 0, .ref (z + 58), .ref (z + 59), .int 0, .int 0]) := (zqhk _ (kb_ne z (show 57 ≠ 54 by decide))).trans zqu13_0
  replace zqu13_1 : G27 (z + 58) = .inl (cy 0, 60, .inl (fun _ => 0)) := (zqhk _ (kb_ne z (show 58 ≠ 54 by decide))).trans zqu13_1
  replace zqu13_2 : G27 (z + 59) = .inl (cy 1, 60, .inl (fun _ => 0)) := (zqhk _ (kb_ne z (show 59 ≠ 54 by decide))).trans zqu13_2
  replace zqu16_0 : G27 (z + 60) = .inr (4, [.int 0, .int 0, .int 0, .int 0, .int 0, .ref (z + 61), .ref (z + 62), .ref (z + 63)]) := (zqhk _ (kb_ne z (show 60 ≠ 54 by decide))).trans zqu16_0
  replace zqu16_1 : G27 (z + 61) = .inl (cy 0, 9, .inl (fun _ => 0)) := (zqhk _ (kb_ne z (show 61 ≠ 54 by decide))).trans zqu16_1
  replace zqu16_2 : G27 (z + 62) = .inl (cy 0, 10, .inl (fun _ => 0)) := (zqhk _ (kb_ne z (show 62 ≠ 54 by decide))).trans zqu16_2
  replace zqu16_3 : G27 (z + 63) = .inl (cy 0, 10, .inl (fun _ => 0)) := (zqhk _ (kb_ne z (show 63 ≠ 54 by decide))).trans zqu16_3
  replace zqo18 : G27 (z + 64) = .inl (cy 0, 7, .inl (fun _ => 0)) := (zqhk _ (kb_ne z (show 64 ≠ 54 by decide))).trans zqo18
  replace zqo20 : G27 (z + 65) = .inl (cy 0, 10, .inl (fun _ => 0)) := (zqhk _ (kb_ne z (show 65 ≠ 54 by decide))).trans zqo20
  replace zqo22 : G27 (z + 66) = .inl (cy 0, 10, .inl (fun _ => 0)) := (zqhk _ (kb_ne z (show 66 ≠ 54 by decide))).trans zqo22
  replace zqoh : G27 h0 = .inr (8, [.ref z, .ref (z + 27), .int 0, .ref (z + 54), .ref (z + 55), .ref (z + 57), .ref (z + 60), .ref (z + 64), .ref (z + 65), .ref (z + 66)]) := (zqhk _ (kb_h1 hz0 54)).trans zqoh
  replace zqu26_0 : G27 (z + 67) = .inr (3, [.int 0, .int 0, .ref (z + 68)]) := (zqhk _ (kb_ne z (show 67 ≠ 54 by decide))).trans zqu26_0
  replace zqu26_1 : G27 (z + 68) = .inl (cy 0, 24, .inl (fun _ => 0)) := (zqhk _ (kb_ne z (show 68 ≠ 54 by decide))).trans zqu26_1
  replace zqo7 : G27 (z + 54) = .inl (cy 5, 4, .inr (.inr (.inr (.inr (va_up (fun _ => none) 0 (some (z + 67))))))) := by rw [zqeG]; exact kb_us
  replace zqw2a : kb_R cy G27 z (z + 1) := zqw2a.keep (fun q h => zqhk q (by omega))
  replace zqw5a : kb_R cy G27 (z + 27) (z + 28) := zqw5a.keep (fun q h => zqhk q (by omega))
  clear zqeG zqhk
  refine lv_iinc (v := 1) (lv' := [(1, .int 1), (0, .ref h0)]) hx hb dX8_init_111 hl (k := 0) rfl (by decide) (by decide) rfl (fun ls hl => ?_)
  refine lv_goto (tgt := 93) hx hb dX8_init_114 (by decide) ?_
  refine lv_iload_n hx hb dX8_init_93 rfl (lv_at hl 0 rfl) ?_
  refine lv_iconst (v := 4) hx hb dX8_init_94 (by decide) ?_
  refine lv_icmp_ge (tgt := 117) hx hb dX8_init_95 (by decide) (fun zqc28 => absurd zqc28 (by decide)) (fun zqc28 => ?_)
  refine lv_aload_n hx hb dX8_init_98 rfl (lv_at hl 1 rfl) ?_
  refine kb_get hx hb hts hi8 hown hK zqhP (by omega) (by omega) zqoh rfl 3 (by decide) (hts (.fieldLink RX8 21 "NoonLaw" "sheets" "[LNoonLaw$Sheet;") (List.mem_cons_of_mem _ bm_19)) rfl rfl dX8_init_99 ?_
  refine lv_iload_n hx hb dX8_init_102 rfl (lv_at hl 0 rfl) ?_
  refine kb_new (C := RX3) (T := TX3) (N := 3) hx hb hts hi3 tyX3 tyX3_ok hown (hts (.classLink RX8 19 RX3) (List.mem_cons_of_mem _ bm_18)) (hts (.instantiable RX3 3) (List.mem_cons_of_mem _ bm_36)) (hts (.initialized RX3) (List.mem_cons_of_mem _ bm_37)) hK zqhP zqhS (ci := 3) rfl [.int 0, .int 0, .null] (fun j zqhj => by rcases (show j = 0 ∨ j = 1 ∨ j = 2 by omega) with rfl | rfl | rfl <;> rfl) (Nat.le_of_ble_eq_true rfl) (Nat.le_of_ble_eq_true rfl) dX8_init_103 (fun zqH1 zqhP1 zqhS1 => ?_)
  replace zqhP := zqhP1
  replace zqhS := zqhS1
  clear zqhP1 zqhS1
  obtain ⟨G29, zqeG⟩ : ∃ q, q = kb_u G27 (z + 69) (.inr (3, [.int 0, .int 0, .null])) := ⟨_, rfl⟩
  rw [← zqeG] at zqhP
  have zqhk : ∀ q : Nat, q ≠ z + 69 → G29 q = G27 q := fun q hq => by rw [zqeG]; exact kb_un hq
  replace zqhF : ∀ q : Nat, q ≠ h0 → q < z → G29 q = G q := fun q h1 h2 => (zqhk q (by omega)).trans (zqhF q h1 h2)
  replace zqu10_0 : G29 (z + 55) = .inr (5, [.ref (z + 56), .int 0, .int 0, .int 0, .int 0, .int 0]) := (zqhk _ (kb_ne z (show 55 ≠ 69 by decide))).trans zqu10_0
  replace zqu10_1 : G29 (z + 56) = .inl (cy 0, 30, .inl (fun _ => 0)) := (zqhk _ (kb_ne z (show 56 ≠ 69 by decide))).trans zqu10_1
  replace zqu13_0 : G29 (z + 57) = .inr (7, [.int 0, .int 0, .ref (z + 58), .ref (z + 59), .int 0, .int 0]) := (zqhk _ (kb_ne z (show 57 ≠ 69 by decide))).trans zqu13_0
  replace zqu13_1 : G29 (z + 58) = .inl (cy 0, 60, .inl (fun _ => 0)) := (zqhk _ (kb_ne z (show 58 ≠ 69 by decide))).trans zqu13_1
  replace zqu13_2 : G29 (z + 59) = .inl (cy 1, 60, .inl (fun _ => 0)) := (zqhk _ (kb_ne z (show 59 ≠ 69 by decide))).trans zqu13_2
  replace zqu16_0 : G29 (z + 60) = .inr (4, [.int 0, .int 0, .int 0, .int 0, .int 0, .ref (z + 61), .ref (z + 62), .ref (z + 63)]) := (zqhk _ (kb_ne z (show 60 ≠ 69 by decide))).trans zqu16_0
  replace zqu16_1 : G29 (z + 61) = .inl (cy 0, 9, .inl (fun _ => 0)) := (zqhk _ (kb_ne z (show 61 ≠ 69 by decide))).trans zqu16_1
  replace zqu16_2 : G29 (z + 62) = .inl (cy 0, 10, .inl (fun _ => 0)) := (zqhk _ (kb_ne z (show 62 ≠ 69 by decide))).trans zqu16_2
  replace zqu16_3 : G29 (z + 63) = .inl (cy 0, 10, .inl (fun _ => 0)) := (zqhk _ (kb_ne z (show 63 ≠ 69 by decide))).trans zqu16_3
  replace zqo18 : G29 (z + 64) = .inl (cy 0, 7, .inl (fun _ => 0)) := (zqhk _ (kb_ne z (show 64 ≠ 69 by decide))).trans zqo18
  replace zqo20 : G29 (z + 65) = .inl (cy 0, 10, .inl (fun _ => 0)) := (zqhk _ (kb_ne z (show 65 ≠ 69 by decide))).trans zqo20
  replace zqo22 : G29 (z + 66) = .inl (cy 0, 10, .inl (fun _ => 0)) := (zqhk _ (kb_ne z (show 66 ≠ 69 by decide))).trans zqo22
  replace zqoh : G29 h0 = .inr (8, [.ref z, .ref (z + 27), .int 0, .ref (z + 54), .ref (z + 55), .ref (z + 57), .ref (z + 60), .ref (z + 64), .ref (z + 65), .ref (z + 66)]) := (zqhk _ (kb_h1 hz0 69)).trans zqoh
  replace zqu26_0 : G29 (z + 67) = .inr (3, [.int 0, .int 0, .ref (z + 68)]) := (zqhk _ (kb_ne z (show 67 ≠ 69 by decide))).trans zqu26_0
  replace zqu26_1 : G29 (z + 68) = .inl (cy 0, 24, .inl (fun _ => 0)) := (zqhk _ (kb_ne z (show 68 ≠ 69 by decide))).trans zqu26_1
  replace zqo7 : G29 (z + 54) = .inl (cy 5, 4, .inr (.inr (.inr (.inr (va_up (fun _ => none) 0 (some (z + 67))))))) := (zqhk _ (kb_ne z (show 54 ≠ 69 by decide))).trans zqo7
  have zqo29 : G29 (z + 69) = .inr (3, [.int 0, .int 0, .null]) := by rw [zqeG]; exact kb_us
  replace zqw2a : kb_R cy G29 z (z + 1) := zqw2a.keep (fun q h => zqhk q (by omega))
  replace zqw5a : kb_R cy G29 (z + 27) (z + 28) := zqw5a.keep (fun q h => zqhk q (by omega))
  clear zqeG zqhk
  replace zqhP : kb_P D b G29 (z + 70) zqH1 := zqhP
  refine lv_dup hx hb dX8_init_106 rfl ?_
  refine kb_callN (rest := [.ref (z + 69), .int 1, .ref (z + 54)]) ⟨hx, hb, hml, hown, hts⟩ hK zqhP zqhS (c_X3_init l D cy b G29 (z + 70) (z + 69) (by omega) (by omega) zqo29) ⟨va_cnB 0 hts gX8_init_X3_init_n56 rfl rfl rfl (hK.2.2.2.2.2.2.2.2.2.2.2) (hts (.initialized RX3) (List.mem_cons_of_mem _ bm_37)) (by decide +kernel) ⟨Nat.le_of_ble_eq_true rfl, Nat.le_of_ble_eq_true rfl⟩, rfl, hts (.instanceMethod yX3_init) (by decide +kernel)⟩ hl.1 (Nat.le_of_ble_eq_true rfl) dX8_init_107 ⟨Nat.le_of_ble_eq_true rfl, Nat.le_of_ble_eq_true rfl⟩ (fun G30 zqH1 zqlocs1 zqw30 zqhP1 zqhS1 => ?_)
  replace zqhP := zqhP1
  replace zqhS := zqhS1
  clear zqhP1 zqhS1
  obtain ⟨zqw30a, zqw30⟩ := zqw30
  replace zqu10_0 : G30 (z + 55) = .inr (5, [.ref (z + 56), .int 0, .int 0, .int 0, .int 0, .int 0]) := (zqw30 _ (kb_ne z (show 55 ≠ 69 by decide)) (kb_lt z (show 55 < 70 by decide))).trans zqu10_0
  replace zqu10_1 : G30 (z + 56) = .inl (cy 0, 30, .inl (fun _ => 0)) := (zqw30 _ (kb_ne z (show 56 ≠ 69 by decide)) (kb_lt z (show 56 < 70 by decide))).trans zqu10_1
  replace zqu13_0 : G30 (z + 57) = .inr (7, [.int 0, .int 0, .ref (z + 58), .ref (z + 59), .int 0, .int 0]) := (zqw30 _ (kb_ne z (show 57 ≠ 69 by decide)) (kb_lt z (show 57 < 70 by decide))).trans zqu13_0
  replace zqu13_1 : G30 (z + 58) = .inl (cy 0, 60, .inl (fun _ => 0)) := (zqw30 _ (kb_ne z (show 58 ≠ 69 by decide)) (kb_lt z (show 58 < 70 by decide))).trans zqu13_1
  replace zqu13_2 : G30 (z + 59) = .inl (cy 1, 60, .inl (fun _ => 0)) := (zqw30 _ (kb_ne z (show 59 ≠ 69 by decide)) (kb_lt z (show 59 < 70 by decide))).trans zqu13_2
  replace zqu16_0 : G30 (z + 60) = .inr (4, [.int 0, .int 0, .int 0, .int 0, .int 0, .ref (z + 61), .ref (z + 62), .ref (z + 63)]) := (zqw30 _ (kb_ne z (show 60 ≠ 69 by decide)) (kb_lt z (show 60 < 70 by decide))).trans zqu16_0
  replace zqu16_1 : G30 (z + 61) = .inl (cy 0, 9, .inl (fun _ => 0)) := (zqw30 _ (kb_ne z (show 61 ≠ 69 by decide)) (kb_lt z (show 61 < 70 by decide))).trans zqu16_1
  replace zqu16_2 : G30 (z + 62) = .inl (cy 0, 10, .inl (fun _ => 0)) := (zqw30 _ (kb_ne z (show 62 ≠ 69 by decide)) (kb_lt z (show 62 < 70 by decide))).trans zqu16_2
  replace zqu16_3 : G30 (z + 63) = .inl (cy 0, 10, .inl (fun _ => 0)) := (zqw30 _ (kb_ne z (show 63 ≠ 69 by decide)) (kb_lt z (show 63 < 70 by decide))).trans zqu16_3
  replace zqo18 : G30 (z + 64) = .inl (cy 0, 7, .inl (fun _ => 0)) := (zqw30 _ (kb_ne z (show 64 ≠ 69 by decide)) (kb_lt z (show 64 < 70 by decide))).trans zqo18
  replace zqo20 : G30 (z + 65) = .inl (cy 0, 10, .inl (fun _ => 0)) := (zqw30 _ (kb_ne z (show 65 ≠ 69 by decide)) (kb_lt z (show 65 < 70 by decide))).trans zqo20
  replace zqo22 : G30 (z + 66) = .inl (cy 0, 10, .inl (fun _ => 0)) := (zqw30 _ (kb_ne z (show 66 ≠ 69 by decide)) (kb_lt z (show 66 < 70 by decide))).trans zqo22
  replace zqoh : G30 h0 = .inr (8, [.ref z, .ref (z + 27), .int 0, .ref (z + 54), .ref (z + 55), .ref (z + 57), .ref (z + 60), .ref (z + 64), .ref (z + 65), .ref (z + 66)]) := (zqw30 _ (kb_h1 hz0 69) (kb_h3 hz0 70)).trans zqoh
  replace zqu26_0 : G30 (z + 67) = .inr (3, [.int 0, .int 0, .ref (z + 68)]) := (zqw30 _ (kb_ne z (show 67 ≠ 69 by decide)) (kb_lt z (show 67 < 70 by decide))).trans zqu26_0
  replace zqu26_1 : G30 (z + 68) = .inl (cy 0, 24, .inl (fun _ => 0)) := (zqw30 _ (kb_ne z (show 68 ≠ 69 by decide)) (kb_lt z (show 68 < 70 by decide))).trans zqu26_1
  replace zqo7 : G30 (z + 54) = .inl (cy 5, 4, .inr (.inr (.inr (.inr (va_up (fun _ => none) 0 (some (z + 67))))))) := (zqw30 _ (kb_ne z (show 54 ≠ 69 by decide)) (kb_lt z (show 54 < 70 by decide))).trans zqo7
  replace zqw2a : kb_R cy G30 z (z + 1) := zqw2a.keep (fun q h => zqw30 _ (by omega) (by omega))
  replace zqw5a : kb_R cy G30 (z + 27) (z + 28) := zqw5a.keep (fun q h => zqw30 _ (by omega) (by omega))
  replace zqhF : ∀ q : Nat, q ≠ h0 → q < z → G30 q = G q := fun q h1 h2 => (zqw30 _ (by omega) (by omega)).trans (zqhF q h1 h2)
  obtain ⟨zqu30_0, zqu30_1⟩ := zqw30a
  replace zqhP : kb_P D b G30 (z + 71) zqH1 := zqhP
  have zqk1 : (1 : Int32).toInt = 1 := by decide +kernel
  refine kb_aast hx hb hK zqhP zqhS (by omega) (by omega) 5 3 zqo7 rfl (by omega) (by omega) zqu30_0 rfl (by omega) (by omega) dX8_init_110 (fun j zqH1 zqlocs1 zqej zqhj zqhP1 zqhS1 => ?_)
  replace zqhP := zqhP1
  replace zqhS := zqhS1
  clear zqhP1 zqhS1
  have zqej : j = 1 := by omega
  subst zqej
  obtain ⟨G31, zqeG⟩ : ∃ q, q = kb_u G30 (z + 54) (.inl (cy 5, 4, .inr (.inr (.inr (.inr (va_up (va_up (fun _ => none) 0 (some (z + 67))) 1 (some (z + 69)))))))) := ⟨_, rfl⟩
  rw [← zqeG] at zqhP
  have zqhk : ∀ q : Nat, q ≠ z + 54 → G31 q = G30 q := fun q hq => by rw [zqeG]; exact kb_un hq
  replace zqhF : ∀ q : Nat, q ≠ h0 → q < z → G31 q = G q := fun q h1 h2 => (zqhk q (by omega)).trans (zqhF q h1 h2)
  replace zqu10_0 : G31 (z + 55) = .inr (5, [.ref (z + 56), .int 0, .int 0, .int 0, .int 0, .int 0]) := (zqhk _ (kb_ne z (show 55 ≠ 54 by decide))).trans zqu10_0
  replace zqu10_1 : G31 (z + 56) = .inl (cy 0, 30, .inl (fun _ => 0)) := (zqhk _ (kb_ne z (show 56 ≠ 54 by decide))).trans zqu10_1
  replace zqu13_0 : G31 (z + 57) = .inr (7, [.int 0, .int 0, .ref (z + 58), .ref (z + 59), .int 0, .int 0]) := (zqhk _ (kb_ne z (show 57 ≠ 54 by decide))).trans zqu13_0
  replace zqu13_1 : G31 (z + 58) = .inl (cy 0, 60, .inl (fun _ => 0)) := (zqhk _ (kb_ne z (show 58 ≠ 54 by decide))).trans zqu13_1
  replace zqu13_2 : G31 (z + 59) = .inl (cy 1, 60, .inl (fun _ => 0)) := (zqhk _ (kb_ne z (show 59 ≠ 54 by decide))).trans zqu13_2
  replace zqu16_0 : G31 (z + 60) = .inr (4, [.int 0, .int 0, .int 0, .int 0, .int 0, .ref (z + 61), .ref (z + 62), .ref (z + 63)]) := (zqhk _ (kb_ne z (show 60 ≠ 54 by decide))).trans zqu16_0
  replace zqu16_1 : G31 (z + 61) = .inl (cy 0, 9, .inl (fun _ => 0)) := (zqhk _ (kb_ne z (show 61 ≠ 54 by decide))).trans zqu16_1
  replace zqu16_2 : G31 (z + 62) = .inl (cy 0, 10, .inl (fun _ => 0)) := (zqhk _ (kb_ne z (show 62 ≠ 54 by decide))).trans zqu16_2
  replace zqu16_3 : G31 (z + 63) = .inl (cy 0, 10, .inl (fun _ => 0)) := (zqhk _ (kb_ne z (show 63 ≠ 54 by decide))).trans zqu16_3
  replace zqo18 : G31 (z + 64) = .inl (cy 0, 7, .inl (fun _ => 0)) := (zqhk _ (kb_ne z (show 64 ≠ 54 by decide))).trans zqo18
  replace zqo20 : G31 (z + 65) = .inl (cy 0, 10, .inl (fun _ => 0)) := (zqhk _ (kb_ne z (show 65 ≠ 54 by decide))).trans zqo20
  replace zqo22 : G31 (z + 66) = .inl (cy 0, 10, .inl (fun _ => 0)) := (zqhk _ (kb_ne z (show 66 ≠ 54 by decide))).trans zqo22
  replace zqoh : G31 h0 = .inr (8, [.ref z, .ref (z + 27), .int 0, .ref (z + 54), .ref (z + 55), .ref (z + 57), .ref (z + 60), .ref (z + 64), .ref (z + 65), .ref (z + 66)]) := (zqhk _ (kb_h1 hz0 54)).trans zqoh
  replace zqu26_0 : G31 (z + 67) = .inr (3, [.int 0, .int 0, .ref (z + 68)]) := (zqhk _ (kb_ne z (show 67 ≠ 54 by decide))).trans zqu26_0
  replace zqu26_1 : G31 (z + 68) = .inl (cy 0, 24, .inl (fun _ => 0)) := (zqhk _ (kb_ne z (show 68 ≠ 54 by decide))).trans zqu26_1
  replace zqu30_0 : G31 (z + 69) = .inr (3, [.int 0, .int 0, .ref (z + 70)]) := (zqhk _ (kb_ne z (show 69 ≠ 54 by decide))).trans zqu30_0
  replace zqu30_1 : G31 (z + 70) = .inl (cy 0, 24, .inl (fun _ => 0)) := (zqhk _ (kb_ne z (show 70 ≠ 54 by decide))).trans zqu30_1
  replace zqo7 : G31 (z + 54) = .inl (cy 5, 4, .inr (.inr (.inr (.inr (va_up (va_up (fun _ => none) 0 (some (z + 67))) 1 (some (z + 69))))))) := by rw [zqeG]; exact kb_us
  replace zqw2a : kb_R cy G31 z (z + 1) := zqw2a.keep (fun q h => zqhk q (by omega))
  replace zqw5a : kb_R cy G31 (z + 27) (z + 28) := zqw5a.keep (fun q h => zqhk q (by omega))
  clear zqeG zqhk
  refine lv_iinc (v := 2) (lv' := [(1, .int 2), (0, .ref h0)]) hx hb dX8_init_111 hl (k := 0) rfl (by decide) (by decide) rfl (fun ls hl => ?_)
  refine lv_goto (tgt := 93) hx hb dX8_init_114 (by decide) ?_
  refine lv_iload_n hx hb dX8_init_93 rfl (lv_at hl 0 rfl) ?_
  refine lv_iconst (v := 4) hx hb dX8_init_94 (by decide) ?_
  refine lv_icmp_ge (tgt := 117) hx hb dX8_init_95 (by decide) (fun zqc32 => absurd zqc32 (by decide)) (fun zqc32 => ?_)
  refine lv_aload_n hx hb dX8_init_98 rfl (lv_at hl 1 rfl) ?_
  refine kb_get hx hb hts hi8 hown hK zqhP (by omega) (by omega) zqoh rfl 3 (by decide) (hts (.fieldLink RX8 21 "NoonLaw" "sheets" "[LNoonLaw$Sheet;") (List.mem_cons_of_mem _ bm_19)) rfl rfl dX8_init_99 ?_
  refine lv_iload_n hx hb dX8_init_102 rfl (lv_at hl 0 rfl) ?_
  refine kb_new (C := RX3) (T := TX3) (N := 3) hx hb hts hi3 tyX3 tyX3_ok hown (hts (.classLink RX8 19 RX3) (List.mem_cons_of_mem _ bm_18)) (hts (.instantiable RX3 3) (List.mem_cons_of_mem _ bm_36)) (hts (.initialized RX3) (List.mem_cons_of_mem _ bm_37)) hK zqhP zqhS (ci := 3) rfl [.int 0, .int 0, .null] (fun j zqhj => by rcases (show j = 0 ∨ j = 1 ∨ j = 2 by omega) with rfl | rfl | rfl <;> rfl) (Nat.le_of_ble_eq_true rfl) (Nat.le_of_ble_eq_true rfl) dX8_init_103 (fun zqH1 zqhP1 zqhS1 => ?_)
  replace zqhP := zqhP1
  replace zqhS := zqhS1
  clear zqhP1 zqhS1
  obtain ⟨G33, zqeG⟩ : ∃ q, q = kb_u G31 (z + 71) (.inr (3, [.int 0, .int 0, .null])) := ⟨_, rfl⟩
  rw [← zqeG] at zqhP
  have zqhk : ∀ q : Nat, q ≠ z + 71 → G33 q = G31 q := fun q hq => by rw [zqeG]; exact kb_un hq
  replace zqhF : ∀ q : Nat, q ≠ h0 → q < z → G33 q = G q := fun q h1 h2 => (zqhk q (by omega)).trans (zqhF q h1 h2)
  replace zqu10_0 : G33 (z + 55) = .inr (5, [.ref (z + 56), .int 0, .int 0, .int 0, .int 0, .int 0]) := (zqhk _ (kb_ne z (show 55 ≠ 71 by decide))).trans zqu10_0
  replace zqu10_1 : G33 (z + 56) = .inl (cy 0, 30, .inl (fun _ => 0)) := (zqhk _ (kb_ne z (show 56 ≠ 71 by decide))).trans zqu10_1
  replace zqu13_0 : G33 (z + 57) = .inr (7, [.int 0, .int 0, .ref (z + 58), .ref (z + 59), .int 0, .int 0]) := (zqhk _ (kb_ne z (show 57 ≠ 71 by decide))).trans zqu13_0
  replace zqu13_1 : G33 (z + 58) = .inl (cy 0, 60, .inl (fun _ => 0)) := (zqhk _ (kb_ne z (show 58 ≠ 71 by decide))).trans zqu13_1
  replace zqu13_2 : G33 (z + 59) = .inl (cy 1, 60, .inl (fun _ => 0)) := (zqhk _ (kb_ne z (show 59 ≠ 71 by decide))).trans zqu13_2
  replace zqu16_0 : G33 (z + 60) = .inr (4, [.int 0, .int 0, .int 0, .int 0, .int 0, .ref (z + 61), .ref (z + 62), .ref (z + 63)]) := (zqhk _ (kb_ne z (show 60 ≠ 71 by decide))).trans zqu16_0
  replace zqu16_1 : G33 (z + 61) = .inl (cy 0, 9, .inl (fun _ => 0)) := (zqhk _ (kb_ne z (show 61 ≠ 71 by decide))).trans zqu16_1
  replace zqu16_2 : G33 (z + 62) = .inl (cy 0, 10, .inl (fun _ => 0)) := (zqhk _ (kb_ne z (show 62 ≠ 71 by decide))).trans zqu16_2
  replace zqu16_3 : G33 (z + 63) = .inl (cy 0, 10, .inl (fun _ => 0)) := (zqhk _ (kb_ne z (show 63 ≠ 71 by decide))).trans zqu16_3
  replace zqo18 : G33 (z + 64) = .inl (cy 0, 7, .inl (fun _ => 0)) := (zqhk _ (kb_ne z (show 64 ≠ 71 by decide))).trans zqo18
  replace zqo20 : G33 (z + 65) = .inl (cy 0, 10, .inl (fun _ => 0)) := (zqhk _ (kb_ne z (show 65 ≠ 71 by decide))).trans zqo20
  replace zqo22 : G33 (z + 66) = .inl (cy 0, 10, .inl (fun _ => 0)) := (zqhk _ (kb_ne z (show 66 ≠ 71 by decide))).trans zqo22
  replace zqoh : G33 h0 = .inr (8, [.ref z, .ref (z + 27), .int 0, .ref (z + 54), .ref (z + 55), .ref (z + 57), .ref (z + 60), .ref (z + 64), .ref (z + 65), .ref (z + 66)]) := (zqhk _ (kb_h1 hz0 71)).trans zqoh
  replace zqu26_0 : G33 (z + 67) = .inr (3, [.int 0, .int 0, .ref (z + 68)]) := (zqhk _ (kb_ne z (show 67 ≠ 71 by decide))).trans zqu26_0
  replace zqu26_1 : G33 (z + 68) = .inl (cy 0, 24, .inl (fun _ => 0)) := (zqhk _ (kb_ne z (show 68 ≠ 71 by decide))).trans zqu26_1
  replace zqu30_0 : G33 (z + 69) = .inr (3, [.int 0, .int 0, .ref (z + 70)]) := (zqhk _ (kb_ne z (show 69 ≠ 71 by decide))).trans zqu30_0
  replace zqu30_1 : G33 (z + 70) = .inl (cy 0, 24, .inl (fun _ => 0)) := (zqhk _ (kb_ne z (show 70 ≠ 71 by decide))).trans zqu30_1
  replace zqo7 : G33 (z + 54) = .inl (cy 5, 4, .inr (.inr (.inr (.inr (va_up (va_up (fun _ => none) 0 (some (z + 67))) 1 (some (z + 69))))))) := (zqhk _ (kb_ne z (show 54 ≠ 71 by decide))).trans zqo7
  have zqo33 : G33 (z + 71) = .inr (3, [.int 0, .int 0, .null]) := by rw [zqeG]; exact kb_us
  replace zqw2a : kb_R cy G33 z (z + 1) := zqw2a.keep (fun q h => zqhk q (by omega))
  replace zqw5a : kb_R cy G33 (z + 27) (z + 28) := zqw5a.keep (fun q h => zqhk q (by omega))
  clear zqeG zqhk
  replace zqhP : kb_P D b G33 (z + 72) zqH1 := zqhP
  refine lv_dup hx hb dX8_init_106 rfl ?_
  refine kb_callN (rest := [.ref (z + 71), .int 2, .ref (z + 54)]) ⟨hx, hb, hml, hown, hts⟩ hK zqhP zqhS (c_X3_init l D cy b G33 (z + 72) (z + 71) (by omega) (by omega) zqo33) ⟨va_cnB 0 hts gX8_init_X3_init_n56 rfl rfl rfl (hK.2.2.2.2.2.2.2.2.2.2.2) (hts (.initialized RX3) (List.mem_cons_of_mem _ bm_37)) (by decide +kernel) ⟨Nat.le_of_ble_eq_true rfl, Nat.le_of_ble_eq_true rfl⟩, rfl, hts (.instanceMethod yX3_init) (by decide +kernel)⟩ hl.1 (Nat.le_of_ble_eq_true rfl) dX8_init_107 ⟨Nat.le_of_ble_eq_true rfl, Nat.le_of_ble_eq_true rfl⟩ (fun G34 zqH1 zqlocs1 zqw34 zqhP1 zqhS1 => ?_)
  replace zqhP := zqhP1
  replace zqhS := zqhS1
  clear zqhP1 zqhS1
  obtain ⟨zqw34a, zqw34⟩ := zqw34
  replace zqu10_0 : G34 (z + 55) = .inr (5, [.ref (z + 56), .int 0, .int 0, .int 0, .int 0, .int 0]) := (zqw34 _ (kb_ne z (show 55 ≠ 71 by decide)) (kb_lt z (show 55 < 72 by decide))).trans zqu10_0
  replace zqu10_1 : G34 (z + 56) = .inl (cy 0, 30, .inl (fun _ => 0)) := (zqw34 _ (kb_ne z (show 56 ≠ 71 by decide)) (kb_lt z (show 56 < 72 by decide))).trans zqu10_1
  replace zqu13_0 : G34 (z + 57) = .inr (7, [.int 0, .int 0, .ref (z + 58), .ref (z + 59), .int 0, .int 0]) := (zqw34 _ (kb_ne z (show 57 ≠ 71 by decide)) (kb_lt z (show 57 < 72 by decide))).trans zqu13_0
  replace zqu13_1 : G34 (z + 58) = .inl (cy 0, 60, .inl (fun _ => 0)) := (zqw34 _ (kb_ne z (show 58 ≠ 71 by decide)) (kb_lt z (show 58 < 72 by decide))).trans zqu13_1
  replace zqu13_2 : G34 (z + 59) = .inl (cy 1, 60, .inl (fun _ => 0)) := (zqw34 _ (kb_ne z (show 59 ≠ 71 by decide)) (kb_lt z (show 59 < 72 by decide))).trans zqu13_2
  replace zqu16_0 : G34 (z + 60) = .inr (4, [.int 0, .int 0, .int 0, .int 0, .int 0, .ref (z + 61), .ref (z + 62), .ref (z + 63)]) := (zqw34 _ (kb_ne z (show 60 ≠ 71 by decide)) (kb_lt z (show 60 < 72 by decide))).trans zqu16_0
  replace zqu16_1 : G34 (z + 61) = .inl (cy 0, 9, .inl (fun _ => 0)) := (zqw34 _ (kb_ne z (show 61 ≠ 71 by decide)) (kb_lt z (show 61 < 72 by decide))).trans zqu16_1
  replace zqu16_2 : G34 (z + 62) = .inl (cy 0, 10, .inl (fun _ => 0)) := (zqw34 _ (kb_ne z (show 62 ≠ 71 by decide)) (kb_lt z (show 62 < 72 by decide))).trans zqu16_2
  replace zqu16_3 : G34 (z + 63) = .inl (cy 0, 10, .inl (fun _ => 0)) := (zqw34 _ (kb_ne z (show 63 ≠ 71 by decide)) (kb_lt z (show 63 < 72 by decide))).trans zqu16_3
  replace zqo18 : G34 (z + 64) = .inl (cy 0, 7, .inl (fun _ => 0)) := (zqw34 _ (kb_ne z (show 64 ≠ 71 by decide)) (kb_lt z (show 64 < 72 by decide))).trans zqo18
  replace zqo20 : G34 (z + 65) = .inl (cy 0, 10, .inl (fun _ => 0)) := (zqw34 _ (kb_ne z (show 65 ≠ 71 by decide)) (kb_lt z (show 65 < 72 by decide))).trans zqo20
  replace zqo22 : G34 (z + 66) = .inl (cy 0, 10, .inl (fun _ => 0)) := (zqw34 _ (kb_ne z (show 66 ≠ 71 by decide)) (kb_lt z (show 66 < 72 by decide))).trans zqo22
  replace zqoh : G34 h0 = .inr (8, [.ref z, .ref (z + 27), .int 0, .ref (z + 54), .ref (z + 55), .ref (z + 57), .ref (z + 60), .ref (z + 64), .ref (z + 65), .ref (z + 66)]) := (zqw34 _ (kb_h1 hz0 71) (kb_h3 hz0 72)).trans zqoh
  replace zqu26_0 : G34 (z + 67) = .inr (3, [.int 0, .int 0, .ref (z + 68)]) := (zqw34 _ (kb_ne z (show 67 ≠ 71 by decide)) (kb_lt z (show 67 < 72 by decide))).trans zqu26_0
  replace zqu26_1 : G34 (z + 68) = .inl (cy 0, 24, .inl (fun _ => 0)) := (zqw34 _ (kb_ne z (show 68 ≠ 71 by decide)) (kb_lt z (show 68 < 72 by decide))).trans zqu26_1
  replace zqu30_0 : G34 (z + 69) = .inr (3, [.int 0, .int 0, .ref (z + 70)]) := (zqw34 _ (kb_ne z (show 69 ≠ 71 by decide)) (kb_lt z (show 69 < 72 by decide))).trans zqu30_0
  replace zqu30_1 : G34 (z + 70) = .inl (cy 0, 24, .inl (fun _ => 0)) := (zqw34 _ (kb_ne z (show 70 ≠ 71 by decide)) (kb_lt z (show 70 < 72 by decide))).trans zqu30_1
  replace zqo7 : G34 (z + 54) = .inl (cy 5, 4, .inr (.inr (.inr (.inr (va_up (va_up (fun _ => none) 0 (some (z + 67))) 1 (some (z + 69))))))) := (zqw34 _ (kb_ne z (show 54 ≠ 71 by decide)) (kb_lt z (show 54 < 72 by decide))).trans zqo7
  replace zqw2a : kb_R cy G34 z (z + 1) := zqw2a.keep (fun q h => zqw34 _ (by omega) (by omega))
  replace zqw5a : kb_R cy G34 (z + 27) (z + 28) := zqw5a.keep (fun q h => zqw34 _ (by omega) (by omega))
  replace zqhF : ∀ q : Nat, q ≠ h0 → q < z → G34 q = G q := fun q h1 h2 => (zqw34 _ (by omega) (by omega)).trans (zqhF q h1 h2)
  obtain ⟨zqu34_0, zqu34_1⟩ := zqw34a
  replace zqhP : kb_P D b G34 (z + 73) zqH1 := zqhP
  have zqk2 : (2 : Int32).toInt = 2 := by decide +kernel
  refine kb_aast hx hb hK zqhP zqhS (by omega) (by omega) 5 3 zqo7 rfl (by omega) (by omega) zqu34_0 rfl (by omega) (by omega) dX8_init_110 (fun j zqH1 zqlocs1 zqej zqhj zqhP1 zqhS1 => ?_)
  replace zqhP := zqhP1
  replace zqhS := zqhS1
  clear zqhP1 zqhS1
  have zqej : j = 2 := by omega
  subst zqej
  obtain ⟨G35, zqeG⟩ : ∃ q, q = kb_u G34 (z + 54) (.inl (cy 5, 4, .inr (.inr (.inr (.inr (va_up (va_up (va_up (fun _ => none) 0 (some (z + 67))) 1 (some (z + 69))) 2 (some (z + 71)))))))) := ⟨_, rfl⟩
  rw [← zqeG] at zqhP
  have zqhk : ∀ q : Nat, q ≠ z + 54 → G35 q = G34 q := fun q hq => by rw [zqeG]; exact kb_un hq
  replace zqhF : ∀ q : Nat, q ≠ h0 → q < z → G35 q = G q := fun q h1 h2 => (zqhk q (by omega)).trans (zqhF q h1 h2)
  replace zqu10_0 : G35 (z + 55) = .inr (5, [.ref (z + 56), .int 0, .int 0, .int 0, .int 0, .int 0]) := (zqhk _ (kb_ne z (show 55 ≠ 54 by decide))).trans zqu10_0
  replace zqu10_1 : G35 (z + 56) = .inl (cy 0, 30, .inl (fun _ => 0)) := (zqhk _ (kb_ne z (show 56 ≠ 54 by decide))).trans zqu10_1
  replace zqu13_0 : G35 (z + 57) = .inr (7, [.int 0, .int 0, .ref (z + 58), .ref (z + 59), .int 0, .int 0]) := (zqhk _ (kb_ne z (show 57 ≠ 54 by decide))).trans zqu13_0
  replace zqu13_1 : G35 (z + 58) = .inl (cy 0, 60, .inl (fun _ => 0)) := (zqhk _ (kb_ne z (show 58 ≠ 54 by decide))).trans zqu13_1
  replace zqu13_2 : G35 (z + 59) = .inl (cy 1, 60, .inl (fun _ => 0)) := (zqhk _ (kb_ne z (show 59 ≠ 54 by decide))).trans zqu13_2
  replace zqu16_0 : G35 (z + 60) = .inr (4, [.int 0, .int 0, .int 0, .int 0, .int 0, .ref (z + 61), .ref (z + 62), .ref (z + 63)]) := (zqhk _ (kb_ne z (show 60 ≠ 54 by decide))).trans zqu16_0
  replace zqu16_1 : G35 (z + 61) = .inl (cy 0, 9, .inl (fun _ => 0)) := (zqhk _ (kb_ne z (show 61 ≠ 54 by decide))).trans zqu16_1
  replace zqu16_2 : G35 (z + 62) = .inl (cy 0, 10, .inl (fun _ => 0)) := (zqhk _ (kb_ne z (show 62 ≠ 54 by decide))).trans zqu16_2
  replace zqu16_3 : G35 (z + 63) = .inl (cy 0, 10, .inl (fun _ => 0)) := (zqhk _ (kb_ne z (show 63 ≠ 54 by decide))).trans zqu16_3
  replace zqo18 : G35 (z + 64) = .inl (cy 0, 7, .inl (fun _ => 0)) := (zqhk _ (kb_ne z (show 64 ≠ 54 by decide))).trans zqo18
  replace zqo20 : G35 (z + 65) = .inl (cy 0, 10, .inl (fun _ => 0)) := (zqhk _ (kb_ne z (show 65 ≠ 54 by decide))).trans zqo20
  replace zqo22 : G35 (z + 66) = .inl (cy 0, 10, .inl (fun _ => 0)) := (zqhk _ (kb_ne z (show 66 ≠ 54 by decide))).trans zqo22
  replace zqoh : G35 h0 = .inr (8, [.ref z, .ref (z + 27), .int 0, .ref (z + 54), .ref (z + 55), .ref (z + 57), .ref (z + 60), .ref (z + 64), .ref (z + 65), .ref (z + 66)]) := (zqhk _ (kb_h1 hz0 54)).trans zqoh
  replace zqu26_0 : G35 (z + 67) = .inr (3, [.int 0, .int 0, .ref (z + 68)]) := (zqhk _ (kb_ne z (show 67 ≠ 54 by decide))).trans zqu26_0
  replace zqu26_1 : G35 (z + 68) = .inl (cy 0, 24, .inl (fun _ => 0)) := (zqhk _ (kb_ne z (show 68 ≠ 54 by decide))).trans zqu26_1
  replace zqu30_0 : G35 (z + 69) = .inr (3, [.int 0, .int 0, .ref (z + 70)]) := (zqhk _ (kb_ne z (show 69 ≠ 54 by decide))).trans zqu30_0
  replace zqu30_1 : G35 (z + 70) = .inl (cy 0, 24, .inl (fun _ => 0)) := (zqhk _ (kb_ne z (show 70 ≠ 54 by decide))).trans zqu30_1
  replace zqu34_0 : G35 (z + 71) = .inr (3, [.int 0, .int 0, .ref (z + 72)]) := (zqhk _ (kb_ne z (show 71 ≠ 54 by decide))).trans zqu34_0
  replace zqu34_1 : G35 (z + 72) = .inl (cy 0, 24, .inl (fun _ => 0)) := (zqhk _ (kb_ne z (show 72 ≠ 54 by decide))).trans zqu34_1
  replace zqo7 : G35 (z + 54) = .inl (cy 5, 4, .inr (.inr (.inr (.inr (va_up (va_up (va_up (fun _ => none) 0 (some (z + 67))) 1 (some (z + 69))) 2 (some (z + 71))))))) := by rw [zqeG]; exact kb_us
  replace zqw2a : kb_R cy G35 z (z + 1) := zqw2a.keep (fun q h => zqhk q (by omega))
  replace zqw5a : kb_R cy G35 (z + 27) (z + 28) := zqw5a.keep (fun q h => zqhk q (by omega))
  clear zqeG zqhk
  refine lv_iinc (v := 3) (lv' := [(1, .int 3), (0, .ref h0)]) hx hb dX8_init_111 hl (k := 0) rfl (by decide) (by decide) rfl (fun ls hl => ?_)
  refine lv_goto (tgt := 93) hx hb dX8_init_114 (by decide) ?_
  refine lv_iload_n hx hb dX8_init_93 rfl (lv_at hl 0 rfl) ?_
  refine lv_iconst (v := 4) hx hb dX8_init_94 (by decide) ?_
  refine lv_icmp_ge (tgt := 117) hx hb dX8_init_95 (by decide) (fun zqc36 => absurd zqc36 (by decide)) (fun zqc36 => ?_)
  refine lv_aload_n hx hb dX8_init_98 rfl (lv_at hl 1 rfl) ?_
  refine kb_get hx hb hts hi8 hown hK zqhP (by omega) (by omega) zqoh rfl 3 (by decide) (hts (.fieldLink RX8 21 "NoonLaw" "sheets" "[LNoonLaw$Sheet;") (List.mem_cons_of_mem _ bm_19)) rfl rfl dX8_init_99 ?_
  refine lv_iload_n hx hb dX8_init_102 rfl (lv_at hl 0 rfl) ?_
  refine kb_new (C := RX3) (T := TX3) (N := 3) hx hb hts hi3 tyX3 tyX3_ok hown (hts (.classLink RX8 19 RX3) (List.mem_cons_of_mem _ bm_18)) (hts (.instantiable RX3 3) (List.mem_cons_of_mem _ bm_36)) (hts (.initialized RX3) (List.mem_cons_of_mem _ bm_37)) hK zqhP zqhS (ci := 3) rfl [.int 0, .int 0, .null] (fun j zqhj => by rcases (show j = 0 ∨ j = 1 ∨ j = 2 by omega) with rfl | rfl | rfl <;> rfl) (Nat.le_of_ble_eq_true rfl) (Nat.le_of_ble_eq_true rfl) dX8_init_103 (fun zqH1 zqhP1 zqhS1 => ?_)
  replace zqhP := zqhP1
  replace zqhS := zqhS1
  clear zqhP1 zqhS1
  obtain ⟨G37, zqeG⟩ : ∃ q, q = kb_u G35 (z + 73) (.inr (3, [.int 0, .int 0, .null])) := ⟨_, rfl⟩
  rw [← zqeG] at zqhP
  have zqhk : ∀ q : Nat, q ≠ z + 73 → G37 q = G35 q := fun q hq => by rw [zqeG]; exact kb_un hq
  replace zqhF : ∀ q : Nat, q ≠ h0 → q < z → G37 q = G q := fun q h1 h2 => (zqhk q (by omega)).trans (zqhF q h1 h2)
  replace zqu10_0 : G37 (z + 55) = .inr (5, [.ref (z + 56), .int 0, .int 0, .int 0, .int 0, .int 0]) := (zqhk _ (kb_ne z (show 55 ≠ 73 by decide))).trans zqu10_0
  replace zqu10_1 : G37 (z + 56) = .inl (cy 0, 30, .inl (fun _ => 0)) := (zqhk _ (kb_ne z (show 56 ≠ 73 by decide))).trans zqu10_1
  replace zqu13_0 : G37 (z + 57) = .inr (7, [.int 0, .int 0, .ref (z + 58), .ref (z + 59), .int 0, .int 0]) := (zqhk _ (kb_ne z (show 57 ≠ 73 by decide))).trans zqu13_0
  replace zqu13_1 : G37 (z + 58) = .inl (cy 0, 60, .inl (fun _ => 0)) := (zqhk _ (kb_ne z (show 58 ≠ 73 by decide))).trans zqu13_1
  replace zqu13_2 : G37 (z + 59) = .inl (cy 1, 60, .inl (fun _ => 0)) := (zqhk _ (kb_ne z (show 59 ≠ 73 by decide))).trans zqu13_2
  replace zqu16_0 : G37 (z + 60) = .inr (4, [.int 0, .int 0, .int 0, .int 0, .int 0, .ref (z + 61), .ref (z + 62), .ref (z + 63)]) := (zqhk _ (kb_ne z (show 60 ≠ 73 by decide))).trans zqu16_0
  replace zqu16_1 : G37 (z + 61) = .inl (cy 0, 9, .inl (fun _ => 0)) := (zqhk _ (kb_ne z (show 61 ≠ 73 by decide))).trans zqu16_1
  replace zqu16_2 : G37 (z + 62) = .inl (cy 0, 10, .inl (fun _ => 0)) := (zqhk _ (kb_ne z (show 62 ≠ 73 by decide))).trans zqu16_2
  replace zqu16_3 : G37 (z + 63) = .inl (cy 0, 10, .inl (fun _ => 0)) := (zqhk _ (kb_ne z (show 63 ≠ 73 by decide))).trans zqu16_3
  replace zqo18 : G37 (z + 64) = .inl (cy 0, 7, .inl (fun _ => 0)) := (zqhk _ (kb_ne z (show 64 ≠ 73 by decide))).trans zqo18
  replace zqo20 : G37 (z + 65) = .inl (cy 0, 10, .inl (fun _ => 0)) := (zqhk _ (kb_ne z (show 65 ≠ 73 by decide))).trans zqo20
  replace zqo22 : G37 (z + 66) = .inl (cy 0, 10, .inl (fun _ => 0)) := (zqhk _ (kb_ne z (show 66 ≠ 73 by decide))).trans zqo22
  replace zqoh : G37 h0 = .inr (8, [.ref z, .ref (z + 27), .int 0, .ref (z + 54), .ref (z + 55), .ref (z + 57), .ref (z + 60), .ref (z + 64), .ref (z + 65), .ref (z + 66)]) := (zqhk _ (kb_h1 hz0 73)).trans zqoh
  replace zqu26_0 : G37 (z + 67) = .inr (3, [.int 0, .int 0, .ref (z + 68)]) := (zqhk _ (kb_ne z (show 67 ≠ 73 by decide))).trans zqu26_0
  replace zqu26_1 : G37 (z + 68) = .inl (cy 0, 24, .inl (fun _ => 0)) := (zqhk _ (kb_ne z (show 68 ≠ 73 by decide))).trans zqu26_1
  replace zqu30_0 : G37 (z + 69) = .inr (3, [.int 0, .int 0, .ref (z + 70)]) := (zqhk _ (kb_ne z (show 69 ≠ 73 by decide))).trans zqu30_0
  replace zqu30_1 : G37 (z + 70) = .inl (cy 0, 24, .inl (fun _ => 0)) := (zqhk _ (kb_ne z (show 70 ≠ 73 by decide))).trans zqu30_1
  replace zqu34_0 : G37 (z + 71) = .inr (3, [.int 0, .int 0, .ref (z + 72)]) := (zqhk _ (kb_ne z (show 71 ≠ 73 by decide))).trans zqu34_0
  replace zqu34_1 : G37 (z + 72) = .inl (cy 0, 24, .inl (fun _ => 0)) := (zqhk _ (kb_ne z (show 72 ≠ 73 by decide))).trans zqu34_1
  replace zqo7 : G37 (z + 54) = .inl (cy 5, 4, .inr (.inr (.inr (.inr (va_up (va_up (va_up (fun _ => none) 0 (some (z + 67))) 1 (some (z + 69))) 2 (some (z + 71))))))) := (zqhk _ (kb_ne z (show 54 ≠ 73 by decide))).trans zqo7
  have zqo37 : G37 (z + 73) = .inr (3, [.int 0, .int 0, .null]) := by rw [zqeG]; exact kb_us
  replace zqw2a : kb_R cy G37 z (z + 1) := zqw2a.keep (fun q h => zqhk q (by omega))
  replace zqw5a : kb_R cy G37 (z + 27) (z + 28) := zqw5a.keep (fun q h => zqhk q (by omega))
  clear zqeG zqhk
  replace zqhP : kb_P D b G37 (z + 74) zqH1 := zqhP
  refine lv_dup hx hb dX8_init_106 rfl ?_
  refine kb_callN (rest := [.ref (z + 73), .int 3, .ref (z + 54)]) ⟨hx, hb, hml, hown, hts⟩ hK zqhP zqhS (c_X3_init l D cy b G37 (z + 74) (z + 73) (by omega) (by omega) zqo37) ⟨va_cnB 0 hts gX8_init_X3_init_n56 rfl rfl rfl (hK.2.2.2.2.2.2.2.2.2.2.2) (hts (.initialized RX3) (List.mem_cons_of_mem _ bm_37)) (by decide +kernel) ⟨Nat.le_of_ble_eq_true rfl, Nat.le_of_ble_eq_true rfl⟩, rfl, hts (.instanceMethod yX3_init) (by decide +kernel)⟩ hl.1 (Nat.le_of_ble_eq_true rfl) dX8_init_107 ⟨Nat.le_of_ble_eq_true rfl, Nat.le_of_ble_eq_true rfl⟩ (fun G38 zqH1 zqlocs1 zqw38 zqhP1 zqhS1 => ?_)
  replace zqhP := zqhP1
  replace zqhS := zqhS1
  clear zqhP1 zqhS1
  obtain ⟨zqw38a, zqw38⟩ := zqw38
  replace zqu10_0 : G38 (z + 55) = .inr (5, [.ref (z + 56), .int 0, .int 0, .int 0, .int 0, .int 0]) := (zqw38 _ (kb_ne z (show 55 ≠ 73 by decide)) (kb_lt z (show 55 < 74 by decide))).trans zqu10_0
  replace zqu10_1 : G38 (z + 56) = .inl (cy 0, 30, .inl (fun _ => 0)) := (zqw38 _ (kb_ne z (show 56 ≠ 73 by decide)) (kb_lt z (show 56 < 74 by decide))).trans zqu10_1
  replace zqu13_0 : G38 (z + 57) = .inr (7, [.int 0, .int 0, .ref (z + 58), .ref (z + 59), .int 0, .int 0]) := (zqw38 _ (kb_ne z (show 57 ≠ 73 by decide)) (kb_lt z (show 57 < 74 by decide))).trans zqu13_0
  replace zqu13_1 : G38 (z + 58) = .inl (cy 0, 60, .inl (fun _ => 0)) := (zqw38 _ (kb_ne z (show 58 ≠ 73 by decide)) (kb_lt z (show 58 < 74 by decide))).trans zqu13_1
  replace zqu13_2 : G38 (z + 59) = .inl (cy 1, 60, .inl (fun _ => 0)) := (zqw38 _ (kb_ne z (show 59 ≠ 73 by decide)) (kb_lt z (show 59 < 74 by decide))).trans zqu13_2
  replace zqu16_0 : G38 (z + 60) = .inr (4, [.int 0, .int 0, .int 0, .int 0, .int 0, .ref (z + 61), .ref (z + 62), .ref (z + 63)]) := (zqw38 _ (kb_ne z (show 60 ≠ 73 by decide)) (kb_lt z (show 60 < 74 by decide))).trans zqu16_0
  replace zqu16_1 : G38 (z + 61) = .inl (cy 0, 9, .inl (fun _ => 0)) := (zqw38 _ (kb_ne z (show 61 ≠ 73 by decide)) (kb_lt z (show 61 < 74 by decide))).trans zqu16_1
  replace zqu16_2 : G38 (z + 62) = .inl (cy 0, 10, .inl (fun _ => 0)) := (zqw38 _ (kb_ne z (show 62 ≠ 73 by decide)) (kb_lt z (show 62 < 74 by decide))).trans zqu16_2
  replace zqu16_3 : G38 (z + 63) = .inl (cy 0, 10, .inl (fun _ => 0)) := (zqw38 _ (kb_ne z (show 63 ≠ 73 by decide)) (kb_lt z (show 63 < 74 by decide))).trans zqu16_3
  replace zqo18 : G38 (z + 64) = .inl (cy 0, 7, .inl (fun _ => 0)) := (zqw38 _ (kb_ne z (show 64 ≠ 73 by decide)) (kb_lt z (show 64 < 74 by decide))).trans zqo18
  replace zqo20 : G38 (z + 65) = .inl (cy 0, 10, .inl (fun _ => 0)) := (zqw38 _ (kb_ne z (show 65 ≠ 73 by decide)) (kb_lt z (show 65 < 74 by decide))).trans zqo20
  replace zqo22 : G38 (z + 66) = .inl (cy 0, 10, .inl (fun _ => 0)) := (zqw38 _ (kb_ne z (show 66 ≠ 73 by decide)) (kb_lt z (show 66 < 74 by decide))).trans zqo22
  replace zqoh : G38 h0 = .inr (8, [.ref z, .ref (z + 27), .int 0, .ref (z + 54), .ref (z + 55), .ref (z + 57), .ref (z + 60), .ref (z + 64), .ref (z + 65), .ref (z + 66)]) := (zqw38 _ (kb_h1 hz0 73) (kb_h3 hz0 74)).trans zqoh
  replace zqu26_0 : G38 (z + 67) = .inr (3, [.int 0, .int 0, .ref (z + 68)]) := (zqw38 _ (kb_ne z (show 67 ≠ 73 by decide)) (kb_lt z (show 67 < 74 by decide))).trans zqu26_0
  replace zqu26_1 : G38 (z + 68) = .inl (cy 0, 24, .inl (fun _ => 0)) := (zqw38 _ (kb_ne z (show 68 ≠ 73 by decide)) (kb_lt z (show 68 < 74 by decide))).trans zqu26_1
  replace zqu30_0 : G38 (z + 69) = .inr (3, [.int 0, .int 0, .ref (z + 70)]) := (zqw38 _ (kb_ne z (show 69 ≠ 73 by decide)) (kb_lt z (show 69 < 74 by decide))).trans zqu30_0
  replace zqu30_1 : G38 (z + 70) = .inl (cy 0, 24, .inl (fun _ => 0)) := (zqw38 _ (kb_ne z (show 70 ≠ 73 by decide)) (kb_lt z (show 70 < 74 by decide))).trans zqu30_1
  replace zqu34_0 : G38 (z + 71) = .inr (3, [.int 0, .int 0, .ref (z + 72)]) := (zqw38 _ (kb_ne z (show 71 ≠ 73 by decide)) (kb_lt z (show 71 < 74 by decide))).trans zqu34_0
  replace zqu34_1 : G38 (z + 72) = .inl (cy 0, 24, .inl (fun _ => 0)) := (zqw38 _ (kb_ne z (show 72 ≠ 73 by decide)) (kb_lt z (show 72 < 74 by decide))).trans zqu34_1
  replace zqo7 : G38 (z + 54) = .inl (cy 5, 4, .inr (.inr (.inr (.inr (va_up (va_up (va_up (fun _ => none) 0 (some (z + 67))) 1 (some (z + 69))) 2 (some (z + 71))))))) := (zqw38 _ (kb_ne z (show 54 ≠ 73 by decide)) (kb_lt z (show 54 < 74 by decide))).trans zqo7
  replace zqw2a : kb_R cy G38 z (z + 1) := zqw2a.keep (fun q h => zqw38 _ (by omega) (by omega))
  replace zqw5a : kb_R cy G38 (z + 27) (z + 28) := zqw5a.keep (fun q h => zqw38 _ (by omega) (by omega))
  replace zqhF : ∀ q : Nat, q ≠ h0 → q < z → G38 q = G q := fun q h1 h2 => (zqw38 _ (by omega) (by omega)).trans (zqhF q h1 h2)
  obtain ⟨zqu38_0, zqu38_1⟩ := zqw38a
  replace zqhP : kb_P D b G38 (z + 75) zqH1 := zqhP
  have zqk3 : (3 : Int32).toInt = 3 := by decide +kernel
  refine kb_aast hx hb hK zqhP zqhS (by omega) (by omega) 5 3 zqo7 rfl (by omega) (by omega) zqu38_0 rfl (by omega) (by omega) dX8_init_110 (fun j zqH1 zqlocs1 zqej zqhj zqhP1 zqhS1 => ?_)
  replace zqhP := zqhP1
  replace zqhS := zqhS1
  clear zqhP1 zqhS1
  have zqej : j = 3 := by omega
  subst zqej
  obtain ⟨G39, zqeG⟩ : ∃ q, q = kb_u G38 (z + 54) (.inl (cy 5, 4, .inr (.inr (.inr (.inr (va_up (va_up (va_up (va_up (fun _ => none) 0 (some (z + 67))) 1 (some (z + 69))) 2 (some (z + 71))) 3 (some (z + 73)))))))) := ⟨_, rfl⟩
  rw [← zqeG] at zqhP
  have zqhk : ∀ q : Nat, q ≠ z + 54 → G39 q = G38 q := fun q hq => by rw [zqeG]; exact kb_un hq
  replace zqhF : ∀ q : Nat, q ≠ h0 → q < z → G39 q = G q := fun q h1 h2 => (zqhk q (by omega)).trans (zqhF q h1 h2)
  replace zqu10_0 : G39 (z + 55) = .inr (5, [.ref (z + 56), .int 0, .int 0, .int 0, .int 0, .int 0]) := (zqhk _ (kb_ne z (show 55 ≠ 54 by decide))).trans zqu10_0
  replace zqu10_1 : G39 (z + 56) = .inl (cy 0, 30, .inl (fun _ => 0)) := (zqhk _ (kb_ne z (show 56 ≠ 54 by decide))).trans zqu10_1
  replace zqu13_0 : G39 (z + 57) = .inr (7, [.int 0, .int 0, .ref (z + 58), .ref (z + 59), .int 0, .int 0]) := (zqhk _ (kb_ne z (show 57 ≠ 54 by decide))).trans zqu13_0
  replace zqu13_1 : G39 (z + 58) = .inl (cy 0, 60, .inl (fun _ => 0)) := (zqhk _ (kb_ne z (show 58 ≠ 54 by decide))).trans zqu13_1
  replace zqu13_2 : G39 (z + 59) = .inl (cy 1, 60, .inl (fun _ => 0)) := (zqhk _ (kb_ne z (show 59 ≠ 54 by decide))).trans zqu13_2
  replace zqu16_0 : G39 (z + 60) = .inr (4, [.int 0, .int 0, .int 0, .int 0, .int 0, .ref (z + 61), .ref (z + 62), .ref (z + 63)]) := (zqhk _ (kb_ne z (show 60 ≠ 54 by decide))).trans zqu16_0
  replace zqu16_1 : G39 (z + 61) = .inl (cy 0, 9, .inl (fun _ => 0)) := (zqhk _ (kb_ne z (show 61 ≠ 54 by decide))).trans zqu16_1
  replace zqu16_2 : G39 (z + 62) = .inl (cy 0, 10, .inl (fun _ => 0)) := (zqhk _ (kb_ne z (show 62 ≠ 54 by decide))).trans zqu16_2
  replace zqu16_3 : G39 (z + 63) = .inl (cy 0, 10, .inl (fun _ => 0)) := (zqhk _ (kb_ne z (show 63 ≠ 54 by decide))).trans zqu16_3
  replace zqo18 : G39 (z + 64) = .inl (cy 0, 7, .inl (fun _ => 0)) := (zqhk _ (kb_ne z (show 64 ≠ 54 by decide))).trans zqo18
  replace zqo20 : G39 (z + 65) = .inl (cy 0, 10, .inl (fun _ => 0)) := (zqhk _ (kb_ne z (show 65 ≠ 54 by decide))).trans zqo20
  replace zqo22 : G39 (z + 66) = .inl (cy 0, 10, .inl (fun _ => 0)) := (zqhk _ (kb_ne z (show 66 ≠ 54 by decide))).trans zqo22
  replace zqoh : G39 h0 = .inr (8, [.ref z, .ref (z + 27), .int 0, .ref (z + 54), .ref (z + 55), .ref (z + 57), .ref (z + 60), .ref (z + 64), .ref (z + 65), .ref (z + 66)]) := (zqhk _ (kb_h1 hz0 54)).trans zqoh
  replace zqu26_0 : G39 (z + 67) = .inr (3, [.int 0, .int 0, .ref (z + 68)]) := (zqhk _ (kb_ne z (show 67 ≠ 54 by decide))).trans zqu26_0
  replace zqu26_1 : G39 (z + 68) = .inl (cy 0, 24, .inl (fun _ => 0)) := (zqhk _ (kb_ne z (show 68 ≠ 54 by decide))).trans zqu26_1
  replace zqu30_0 : G39 (z + 69) = .inr (3, [.int 0, .int 0, .ref (z + 70)]) := (zqhk _ (kb_ne z (show 69 ≠ 54 by decide))).trans zqu30_0
  replace zqu30_1 : G39 (z + 70) = .inl (cy 0, 24, .inl (fun _ => 0)) := (zqhk _ (kb_ne z (show 70 ≠ 54 by decide))).trans zqu30_1
  replace zqu34_0 : G39 (z + 71) = .inr (3, [.int 0, .int 0, .ref (z + 72)]) := (zqhk _ (kb_ne z (show 71 ≠ 54 by decide))).trans zqu34_0
  replace zqu34_1 : G39 (z + 72) = .inl (cy 0, 24, .inl (fun _ => 0)) := (zqhk _ (kb_ne z (show 72 ≠ 54 by decide))).trans zqu34_1
  replace zqu38_0 : G39 (z + 73) = .inr (3, [.int 0, .int 0, .ref (z + 74)]) := (zqhk _ (kb_ne z (show 73 ≠ 54 by decide))).trans zqu38_0
  replace zqu38_1 : G39 (z + 74) = .inl (cy 0, 24, .inl (fun _ => 0)) := (zqhk _ (kb_ne z (show 74 ≠ 54 by decide))).trans zqu38_1
  replace zqo7 : G39 (z + 54) = .inl (cy 5, 4, .inr (.inr (.inr (.inr (va_up (va_up (va_up (va_up (fun _ => none) 0 (some (z + 67))) 1 (some (z + 69))) 2 (some (z + 71))) 3 (some (z + 73))))))) := by rw [zqeG]; exact kb_us
  replace zqw2a : kb_R cy G39 z (z + 1) := zqw2a.keep (fun q h => zqhk q (by omega))
  replace zqw5a : kb_R cy G39 (z + 27) (z + 28) := zqw5a.keep (fun q h => zqhk q (by omega))
  clear zqeG zqhk
  refine lv_iinc (v := 4) (lv' := [(1, .int 4), (0, .ref h0)]) hx hb dX8_init_111 hl (k := 0) rfl (by decide) (by decide) rfl (fun ls hl => ?_)
  refine lv_goto (tgt := 93) hx hb dX8_init_114 (by decide) ?_
  refine lv_iload_n hx hb dX8_init_93 rfl (lv_at hl 0 rfl) ?_
  refine lv_iconst (v := 4) hx hb dX8_init_94 (by decide) ?_
  refine lv_icmp_ge (tgt := 117) hx hb dX8_init_95 (by decide) (fun zqc40 => ?_) (fun zqc40 => absurd (by decide) zqc40)
  have zqp1 : ∀ j : Nat, j < 4 → (va_up (va_up (va_up (va_up (fun _ => none) 0 (some (z + 67))) 1 (some (z + 69))) 2 (some (z + 71))) 3 (some (z + 73))) j = some (z + 67 + 2 * j) := fun j zqhj => by rcases (show j = 0 ∨ j = 1 ∨ j = 2 ∨ j = 3 by omega) with rfl | rfl | rfl | rfl <;> rfl
  have zqp2 : ∀ j : Nat, j < 4 → G39 (z + 67 + 2 * j) = .inr (3, [.int 0, .int 0, .ref (z + 67 + 2 * j + 1)]) ∧ G39 (z + 67 + 2 * j + 1) = .inl (cy 0, 24, .inl (fun _ => 0)) := by
    intro j zqhj
    rcases (show j = 0 ∨ j = 1 ∨ j = 2 ∨ j = 3 by omega) with rfl | rfl | rfl | rfl
    · exact ⟨zqu26_0, zqu26_1⟩
    · exact ⟨zqu30_0, zqu30_1⟩
    · exact ⟨zqu34_0, zqu34_1⟩
    · exact ⟨zqu38_0, zqu38_1⟩
  exact kb_vret hx hb hr hlocks hK zqhP zqhS dX8_init_117 ⟨⟨zqoh, zqw2a, zqw5a, ⟨_, zqo7, zqp1⟩, zqp2, ⟨zqu10_0, zqu10_1⟩, ⟨zqu13_0, zqu13_1, zqu13_2⟩, ⟨zqu16_0, zqu16_1, zqu16_2, zqu16_3⟩, zqo18, zqo20, zqo22⟩, zqhF⟩
