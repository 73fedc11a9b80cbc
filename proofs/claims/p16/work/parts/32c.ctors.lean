/-- a realm at h whose cells lie from z on -/
def kb_R (cy : Nat → ClassId) (G : Nat → va_E) (h z : Nat) : Prop := G h = .inr (2, [.int 0, .int 22, .int 1, .ref z, .int 0, .ref (z + 1), .int 0, .ref (z + 2), .ref (z + 3), .int 0, .ref (z + 4), .int 0]) ∧ (∃ f, G z = .inl (cy 2, 9, .inr (.inr (.inr (.inr f)))) ∧ ∀ j : Nat, j < 9 → f j = some (z + 5 + j)) ∧ (∃ f, G (z + 1) = .inl (cy 3, 6, .inr (.inr (.inr (.inr f)))) ∧ ∀ j : Nat, j < 6 → f j = some (z + 14 + j)) ∧ (∃ f, G (z + 2) = .inl (cy 4, 2, .inr (.inr (.inr (.inr f)))) ∧ ∀ j : Nat, j < 2 → f j = some (z + 20 + 3 * j)) ∧ G (z + 3) = .inl (cy 1, 60, .inl (fun _ => 0)) ∧ G (z + 4) = .inl (cy 0, 24, .inl (fun _ => 0)) ∧ (∀ j : Nat, j < 9 → G (z + 5 + j) = .inr (0, [.int 0, .int 0, .int 0, .int 0, .int 0, .int 0])) ∧ (∀ j : Nat, j < 6 → G (z + 14 + j) = .inr (1, [.int 0, .int 0])) ∧ ∀ j : Nat, j < 2 → G (z + 20 + 3 * j) = .inr (6, [.int 0, .int 0, .ref (z + 20 + 3 * j + 1), .ref (z + 20 + 3 * j + 2)]) ∧ G (z + 20 + 3 * j + 1) = .inl (cy 0, 60, .inl (fun _ => 0)) ∧ G (z + 20 + 3 * j + 2) = .inl (cy 0, 60, .inl (fun _ => 0))
theorem kb_R.keep {cy : Nat → ClassId} {G G1 : Nat → va_E} {h z : Nat} (w : kb_R cy G h z) (e : ∀ q : Nat, q = h ∨ (z ≤ q ∧ q < z + 26) → G1 q = G q) : kb_R cy G1 h z := by
  obtain ⟨a0, ⟨f1, a1, b1⟩, ⟨f2, a2, b2⟩, ⟨f3, a3, b3⟩, a4, a5, a6, a7, a8⟩ := w
  refine ⟨by rw [e _ (Or.inl rfl)]; exact a0, ⟨f1, by rw [e _ (by omega)]; exact a1, b1⟩, ⟨f2, by rw [e _ (by omega)]; exact a2, b2⟩, ⟨f3, by rw [e _ (by omega)]; exact a3, b3⟩, by rw [e _ (by omega)]; exact a4, by rw [e _ (by omega)]; exact a5, fun j zqhj => by rw [e _ (by omega)]; exact a6 j zqhj, fun j zqhj => by rw [e _ (by omega)]; exact a7 j zqhj, fun j zqhj => ?_⟩
  obtain ⟨q1, q2, q3⟩ := a8 j zqhj
  exact ⟨by rw [e _ (by omega)]; exact q1, by rw [e _ (by omega)]; exact q2, by rw [e _ (by omega)]; exact q3⟩
theorem gX2_init_X0_init_n44 : GoodIn wzX2_init (wzX0_init) := wz_in bm_60
theorem gX2_init_X1_init_n45 : GoodIn wzX2_init (wzX1_init) := wz_in bm_63
theorem gX2_init_X6_init_n46 : GoodIn wzX2_init (wzX6_init) := wz_in bm_66
set_option maxHeartbeats 8000000 in
set_option maxRecDepth 100000 in
theorem c_X2_init (l : Launch) (D : va_G) (cy : Nat → ClassId) (b : Nat) (G : Nat → va_E) (z h0 : Nat) (zqhb0 : b ≤ h0) (hz0 : h0 < z) (zqoh : G h0 = .inr (2, [.int 0, .int 0, .int 0, .null, .int 0, .null, .int 0, .null, .null, .int 0, .null, .int 0])) : Met l yX2_init wzX2_init ({ frames := 2, cells := 26, slots := 415, locals := 32 }) (va_Pc [.ref h0] (kb_B D cy b G z)) (va_Qv (fun G1 => (kb_R cy G1 h0 z) ∧ ∀ q : Nat, q ≠ h0 → q < z → G1 q = G q) (fun G1 => kb_B D cy b G1 (z + 26)) (fun q : Nat => b ≤ q)) 26 415 (fun q : Nat => b ≤ q) := by
  refine kb_met (cc := cX2_init) (maxL := 2) (by decide) rfl (Nat.le_of_ble_eq_true rfl) ?_
  intro p e s m args below meth c ls hx hb hr hts hown hlocks hml zqhin hK zqhP zqhS hl
  have hl : lv_has ls 2 [(0, .ref h0)] := hl
  have hown : s.vm.findClass RX2 = some m.cls := hown
  have zqhin : meth.name = "<init>" := zqhin
  have zqhF : ∀ q : Nat, q ≠ h0 → q < z → G q = G q := fun _ _ _ => rfl
  generalize hlocs0 : ([] : List Loc) = zqlocs at zqhS ⊢
  have hi0 : ∀ w ∈ wsX00, w ∈ wzX2_init := fun w h => List.mem_cons_of_mem _ (hbw0 w h)
  have hi1 : ∀ w ∈ wsX10, w ∈ wzX2_init := fun w h => List.mem_cons_of_mem _ (hbw1 w h)
  have hi2 : ∀ w ∈ wsX20, w ∈ wzX2_init := fun w h => List.mem_cons_of_mem _ (hbw2 w h)
  have hi6 : ∀ w ∈ wsX60, w ∈ wzX2_init := fun w h => List.mem_cons_of_mem _ (hbw6 w h)
  refine lv_aload_n hx hb dX2_init_0 rfl (lv_at hl 0 rfl) ?_
  refine W.objInit hx hb hown (hts (.methodLink RX2 3 objectInit) (List.mem_cons_of_mem _ bm_41)) (hts (.instanceMethod objectInit) (List.mem_cons_of_mem _ bm_11)) (hts (.code objectInit ⟨#[0xb1]⟩ 1 none) (List.mem_cons_of_mem _ bm_12)) rfl (by rw [hml]; exact hl.1) rfl dX2_init_1 (Nat.le_of_ble_eq_true rfl) (Nat.le_of_ble_eq_true rfl) ?_
  refine W.eq (g2 := F0 m 4 ls []) rfl ?_
  refine lv_aload_n hx hb dX2_init_4 rfl (lv_at hl 0 rfl) ?_
  refine lv_bipush (v := 22) hx hb dX2_init_5 (by decide) ?_
  refine kb_puti (v := .int 22) (ty := .int) hx hb hts hi2 tyX2 tyX2_ok nmX2 hown hK zqhP zqhS (by omega) (by omega) zqoh rfl 1 (by decide) (hts (.fieldLink RX2 9 "NoonLaw$Realm" "sleep" "I") (List.mem_cons_of_mem _ bm_42)) rfl rfl (by decide +kernel) rfl rfl (Nat.le_of_ble_eq_true rfl) dX2_init_7 (fun zqH1 zqlocs1 zqhP1 zqhS1 => ?_)
  replace zqhP := zqhP1
  replace zqhS := zqhS1
  clear zqhP1 zqhS1
  replace zqhP : kb_P D b (kb_u G h0 (.inr (2, [.int 0, .int 22, .int 0, .null, .int 0, .null, .int 0, .null, .null, .int 0, .null, .int 0]))) (z) zqH1 := zqhP
  obtain ⟨G1, zqeG⟩ : ∃ q, q = kb_u G h0 (.inr (2, [.int 0, .int 22, .int 0, .null, .int 0, .null, .int 0, .null, .null, .int 0, .null, .int 0])) := ⟨_, rfl⟩
  rw [← zqeG] at zqhP
  have zqhk : ∀ q : Nat, q ≠ h0 → G1 q = G q := fun q hq => by rw [zqeG]; exact kb_un hq
  replace zqhF : ∀ q : Nat, q ≠ h0 → q < z → G1 q = G q := fun q h1 h2 => (zqhk q h1).trans (zqhF q h1 h2)
  replace zqoh : G1 h0 = .inr (2, [.int 0, .int 22, .int 0, .null, .int 0, .null, .int 0, .null, .null, .int 0, .null, .int 0]) := by rw [zqeG]; exact kb_us
  clear zqeG zqhk
  refine lv_aload_n hx hb dX2_init_10 rfl (lv_at hl 0 rfl) ?_
  refine lv_iconst (v := 1) hx hb dX2_init_11 (by decide) ?_
  refine kb_puti (v := .int 1) (ty := .int) hx hb hts hi2 tyX2 tyX2_ok nmX2 hown hK zqhP zqhS (by omega) (by omega) zqoh rfl 2 (by decide) (hts (.fieldLink RX2 15 "NoonLaw$Realm" "z" "I") (List.mem_cons_of_mem _ bm_43)) rfl rfl (by decide +kernel) rfl rfl (Nat.le_of_ble_eq_true rfl) dX2_init_12 (fun zqH1 zqlocs1 zqhP1 zqhS1 => ?_)
  replace zqhP := zqhP1
  replace zqhS := zqhS1
  clear zqhP1 zqhS1
  replace zqhP : kb_P D b (kb_u G1 h0 (.inr (2, [.int 0, .int 22, .int 1, .null, .int 0, .null, .int 0, .null, .null, .int 0, .null, .int 0]))) (z) zqH1 := zqhP
  obtain ⟨G2, zqeG⟩ : ∃ q, q = kb_u G1 h0 (.inr (2, [.int 0, .int 22, .int 1, .null, .int 0, .null, .int 0, .null, .null, .int 0, .null, .int 0])) := ⟨_, rfl⟩
  rw [← zqeG] at zqhP
  have zqhk : ∀ q : Nat, q ≠ h0 → G2 q = G1 q := fun q hq => by rw [zqeG]; exact kb_un hq
  replace zqhF : ∀ q : Nat, q ≠ h0 → q < z → G2 q = G q := fun q h1 h2 => (zqhk q h1).trans (zqhF q h1 h2)
  replace zqoh : G2 h0 = .inr (2, [.int 0, .int 22, .int 1, .null, .int 0, .null, .int 0, .null, .null, .int 0, .null, .int 0]) := by rw [zqeG]; exact kb_us
  clear zqeG zqhk
  refine lv_aload_n hx hb dX2_init_15 rfl (lv_at hl 0 rfl) ?_
  refine lv_bipush (v := 9) hx hb dX2_init_16 (by decide) ?_
  refine kb_newq (C := RX0) hx hb hown (hts (.classLink RX2 18 RX0) (List.mem_cons_of_mem _ bm_44)) hK.2.1 2 rfl hK zqhP zqhS (n := 9) (N' := 9) (by decide) (by decide) (Nat.le_of_ble_eq_true rfl) (Nat.le_of_ble_eq_true rfl) (Nat.le_of_ble_eq_true rfl) dX2_init_18 (fun zqH1 zqhP1 zqhS1 => ?_)
  replace zqhP := zqhP1
  replace zqhS := zqhS1
  clear zqhP1 zqhS1
  obtain ⟨G3, zqeG⟩ : ∃ q, q = kb_u G2 z (.inl (cy 2, 9, .inr (.inr (.inr (.inr (fun _ => none)))))) := ⟨_, rfl⟩
  rw [← zqeG] at zqhP
  have zqhk : ∀ q : Nat, q ≠ z → G3 q = G2 q := fun q hq => by rw [zqeG]; exact kb_un hq
  replace zqhF : ∀ q : Nat, q ≠ h0 → q < z → G3 q = G q := fun q h1 h2 => (zqhk q (by omega)).trans (zqhF q h1 h2)
  replace zqoh : G3 h0 = .inr (2, [.int 0, .int 22, .int 1, .null, .int 0, .null, .int 0, .null, .null, .int 0, .null, .int 0]) := (zqhk _ (kb_h1 hz0 0)).trans zqoh
  have zqo3 : G3 z = .inl (cy 2, 9, .inr (.inr (.inr (.inr (fun _ => none))))) := by rw [zqeG]; exact kb_us
  clear zqeG zqhk
  replace zqhP : kb_P D b G3 (z + 1) zqH1 := zqhP
  refine kb_putF (v := .ref z) (ty := .array (.object "NoonLaw$Dream")) hx hb hts hi2 tyX2 tyX2_ok nmX2 hown hK zqhP zqhS (by omega) (by omega) zqoh rfl 3 (by decide) (hts (.fieldLink RX2 20 "NoonLaw$Realm" "dreams" "[LNoonLaw$Dream;") (List.mem_cons_of_mem _ bm_45)) rfl rfl zqhin rfl (by decide +kernel) rfl rfl (Nat.le_of_ble_eq_true rfl) dX2_init_21 (fun zqH1 zqlocs1 zqhP1 zqhS1 => ?_)
  replace zqhP := zqhP1
  replace zqhS := zqhS1
  clear zqhP1 zqhS1
  replace zqhP : kb_P D b (kb_u G3 h0 (.inr (2, [.int 0, .int 22, .int 1, .ref z, .int 0, .null, .int 0, .null, .null, .int 0, .null, .int 0]))) (z + 1) zqH1 := zqhP
  obtain ⟨G4, zqeG⟩ : ∃ q, q = kb_u G3 h0 (.inr (2, [.int 0, .int 22, .int 1, .ref z, .int 0, .null, .int 0, .null, .null, .int 0, .null, .int 0])) := ⟨_, rfl⟩
  rw [← zqeG] at zqhP
  have zqhk : ∀ q : Nat, q ≠ h0 → G4 q = G3 q := fun q hq => by rw [zqeG]; exact kb_un hq
  replace zqhF : ∀ q : Nat, q ≠ h0 → q < z → G4 q = G q := fun q h1 h2 => (zqhk q h1).trans (zqhF q h1 h2)
  replace zqo3 : G4 z = .inl (cy 2, 9, .inr (.inr (.inr (.inr (fun _ => none))))) := (zqhk _ (kb_h2 hz0 0)).trans zqo3
  replace zqoh : G4 h0 = .inr (2, [.int 0, .int 22, .int 1, .ref z, .int 0, .null, .int 0, .null, .null, .int 0, .null, .int 0]) := by rw [zqeG]; exact kb_us
  clear zqeG zqhk
  refine lv_aload_n hx hb dX2_init_24 rfl (lv_at hl 0 rfl) ?_
  refine lv_bipush (v := 6) hx hb dX2_init_25 (by decide) ?_
  refine kb_newq (C := RX1) hx hb hown (hts (.classLink RX2 24 RX1) (List.mem_cons_of_mem _ bm_46)) hK.2.2.1 3 rfl hK zqhP zqhS (n := 6) (N' := 6) (by decide) (by decide) (Nat.le_of_ble_eq_true rfl) (Nat.le_of_ble_eq_true rfl) (Nat.le_of_ble_eq_true rfl) dX2_init_27 (fun zqH1 zqhP1 zqhS1 => ?_)
  replace zqhP := zqhP1
  replace zqhS := zqhS1
  clear zqhP1 zqhS1
  obtain ⟨G5, zqeG⟩ : ∃ q, q = kb_u G4 (z + 1) (.inl (cy 3, 6, .inr (.inr (.inr (.inr (fun _ => none)))))) := ⟨_, rfl⟩
  rw [← zqeG] at zqhP
  have zqhk : ∀ q : Nat, q ≠ z + 1 → G5 q = G4 q := fun q hq => by rw [zqeG]; exact kb_un hq
  replace zqhF : ∀ q : Nat, q ≠ h0 → q < z → G5 q = G q := fun q h1 h2 => (zqhk q (by omega)).trans (zqhF q h1 h2)
  replace zqo3 : G5 z = .inl (cy 2, 9, .inr (.inr (.inr (.inr (fun _ => none))))) := (zqhk _ (kb_ne z (show 0 ≠ 1 by decide))).trans zqo3
  replace zqoh : G5 h0 = .inr (2, [.int 0, .int 22, .int 1, .ref z, .int 0, .null, .int 0, .null, .null, .int 0, .null, .int 0]) := (zqhk _ (kb_h1 hz0 1)).trans zqoh
  have zqo5 : G5 (z + 1) = .inl (cy 3, 6, .inr (.inr (.inr (.inr (fun _ => none))))) := by rw [zqeG]; exact kb_us
  clear zqeG zqhk
  replace zqhP : kb_P D b G5 (z + 2) zqH1 := zqhP
  refine kb_putF (v := .ref (z + 1)) (ty := .array (.object "NoonLaw$Person")) hx hb hts hi2 tyX2 tyX2_ok nmX2 hown hK zqhP zqhS (by omega) (by omega) zqoh rfl 5 (by decide) (hts (.fieldLink RX2 26 "NoonLaw$Realm" "people" "[LNoonLaw$Person;") (List.mem_cons_of_mem _ bm_47)) rfl rfl zqhin rfl (by decide +kernel) rfl rfl (Nat.le_of_ble_eq_true rfl) dX2_init_30 (fun zqH1 zqlocs1 zqhP1 zqhS1 => ?_)
  replace zqhP := zqhP1
  replace zqhS := zqhS1
  clear zqhP1 zqhS1
  replace zqhP : kb_P D b (kb_u G5 h0 (.inr (2, [.int 0, .int 22, .int 1, .ref z, .int 0, .ref (z + 1), .int 0, .null, .null, .int 0, .null, .int 0]))) (z + 2) zqH1 := zqhP
  obtain ⟨G6, zqeG⟩ : ∃ q, q = kb_u G5 h0 (.inr (2, [.int 0, .int 22, .int 1, .ref z, .int 0, .ref (z + 1), .int 0, .null, .null, .int 0, .null, .int 0])) := ⟨_, rfl⟩
  rw [← zqeG] at zqhP
  have zqhk : ∀ q : Nat, q ≠ h0 → G6 q = G5 q := fun q hq => by rw [zqeG]; exact kb_un hq
  replace zqhF : ∀ q : Nat, q ≠ h0 → q < z → G6 q = G q := fun q h1 h2 => (zqhk q h1).trans (zqhF q h1 h2)
  replace zqo3 : G6 z = .inl (cy 2, 9, .inr (.inr (.inr (.inr (fun _ => none))))) := (zqhk _ (kb_h2 hz0 0)).trans zqo3
  replace zqo5 : G6 (z + 1) = .inl (cy 3, 6, .inr (.inr (.inr (.inr (fun _ => none))))) := (zqhk _ (kb_h2 hz0 1)).trans zqo5
  replace zqoh : G6 h0 = .inr (2, [.int 0, .int 22, .int 1, .ref z, .int 0, .ref (z + 1), .int 0, .null, .null, .int 0, .null, .int 0]) := by rw [zqeG]; exact kb_us
  clear zqeG zqhk
  refine lv_aload_n hx hb dX2_init_33 rfl (lv_at hl 0 rfl) ?_
  refine lv_iconst (v := 2) hx hb dX2_init_34 (by decide) ?_
  refine kb_newq (C := RX6) hx hb hown (hts (.classLink RX2 30 RX6) (List.mem_cons_of_mem _ bm_48)) hK.2.2.2.1 4 rfl hK zqhP zqhS (n := 2) (N' := 2) (by decide) (by decide) (Nat.le_of_ble_eq_true rfl) (Nat.le_of_ble_eq_true rfl) (Nat.le_of_ble_eq_true rfl) dX2_init_35 (fun zqH1 zqhP1 zqhS1 => ?_)
  replace zqhP := zqhP1
  replace zqhS := zqhS1
  clear zqhP1 zqhS1
  obtain ⟨G7, zqeG⟩ : ∃ q, q = kb_u G6 (z + 2) (.inl (cy 4, 2, .inr (.inr (.inr (.inr (fun _ => none)))))) := ⟨_, rfl⟩
  rw [← zqeG] at zqhP
  have zqhk : ∀ q : Nat, q ≠ z + 2 → G7 q = G6 q := fun q hq => by rw [zqeG]; exact kb_un hq
  replace zqhF : ∀ q : Nat, q ≠ h0 → q < z → G7 q = G q := fun q h1 h2 => (zqhk q (by omega)).trans (zqhF q h1 h2)
  replace zqo3 : G7 z = .inl (cy 2, 9, .inr (.inr (.inr (.inr (fun _ => none))))) := (zqhk _ (kb_ne z (show 0 ≠ 2 by decide))).trans zqo3
  replace zqo5 : G7 (z + 1) = .inl (cy 3, 6, .inr (.inr (.inr (.inr (fun _ => none))))) := (zqhk _ (kb_ne z (show 1 ≠ 2 by decide))).trans zqo5
  replace zqoh : G7 h0 = .inr (2, [.int 0, .int 22, .int 1, .ref z, .int 0, .ref (z + 1), .int 0, .null, .null, .int 0, .null, .int 0]) := (zqhk _ (kb_h1 hz0 2)).trans zqoh
  have zqo7 : G7 (z + 2) = .inl (cy 4, 2, .inr (.inr (.inr (.inr (fun _ => none))))) := by rw [zqeG]; exact kb_us
  clear zqeG zqhk
  replace zqhP : kb_P D b G7 (z + 3) zqH1 := zqhP
  refine kb_putF (v := .ref (z + 2)) (ty := .array (.object "NoonLaw$Text")) hx hb hts hi2 tyX2 tyX2_ok nmX2 hown hK zqhP zqhS (by omega) (by omega) zqoh rfl 7 (by decide) (hts (.fieldLink RX2 32 "NoonLaw$Realm" "texts" "[LNoonLaw$Text;") (List.mem_cons_of_mem _ bm_49)) rfl rfl zqhin rfl (by decide +kernel) rfl rfl (Nat.le_of_ble_eq_true rfl) dX2_init_38 (fun zqH1 zqlocs1 zqhP1 zqhS1 => ?_)
  replace zqhP := zqhP1
  replace zqhS := zqhS1
  clear zqhP1 zqhS1
  replace zqhP : kb_P D b (kb_u G7 h0 (.inr (2, [.int 0, .int 22, .int 1, .ref z, .int 0, .ref (z + 1), .int 0, .ref (z + 2), .null, .int 0, .null, .int 0]))) (z + 3) zqH1 := zqhP
  obtain ⟨G8, zqeG⟩ : ∃ q, q = kb_u G7 h0 (.inr (2, [.int 0, .int 22, .int 1, .ref z, .int 0, .ref (z + 1), .int 0, .ref (z + 2), .null, .int 0, .null, .int 0])) := ⟨_, rfl⟩
  rw [← zqeG] at zqhP
  have zqhk : ∀ q : Nat, q ≠ h0 → G8 q = G7 q := fun q hq => by rw [zqeG]; exact kb_un hq
  replace zqhF : ∀ q : Nat, q ≠ h0 → q < z → G8 q = G q := fun q h1 h2 => (zqhk q h1).trans (zqhF q h1 h2)
  replace zqo3 : G8 z = .inl (cy 2, 9, .inr (.inr (.inr (.inr (fun _ => none))))) := (zqhk _ (kb_h2 hz0 0)).trans zqo3
  replace zqo5 : G8 (z + 1) = .inl (cy 3, 6, .inr (.inr (.inr (.inr (fun _ => none))))) := (zqhk _ (kb_h2 hz0 1)).trans zqo5
  replace zqo7 : G8 (z + 2) = .inl (cy 4, 2, .inr (.inr (.inr (.inr (fun _ => none))))) := (zqhk _ (kb_h2 hz0 2)).trans zqo7
  replace zqoh : G8 h0 = .inr (2, [.int 0, .int 22, .int 1, .ref z, .int 0, .ref (z + 1), .int 0, .ref (z + 2), .null, .int 0, .null, .int 0]) := by rw [zqeG]; exact kb_us
  clear zqeG zqhk
  refine lv_aload_n hx hb dX2_init_41 rfl (lv_at hl 0 rfl) ?_
  refine lv_bipush (v := 60) hx hb dX2_init_42 (by decide) ?_
  refine kb_newa (atype := .byte) (ty := .byte) hx hb (hts (.arrayClass .byte) (List.mem_cons_of_mem _ bm_50)) 1 rfl rfl (fun _ _ h => h) hK zqhP zqhS (n := 60) (N' := 60) rfl (by decide) (by decide) (Nat.le_of_ble_eq_true rfl) (Nat.le_of_ble_eq_true rfl) (Nat.le_of_ble_eq_true rfl) dX2_init_44 (fun zqH1 zqhP1 zqhS1 => ?_)
  replace zqhP := zqhP1
  replace zqhS := zqhS1
  clear zqhP1 zqhS1
  obtain ⟨G9, zqeG⟩ : ∃ q, q = kb_u G8 (z + 3) (.inl (cy 1, 60, .inl (fun _ => 0))) := ⟨_, rfl⟩
  rw [← zqeG] at zqhP
  have zqhk : ∀ q : Nat, q ≠ z + 3 → G9 q = G8 q := fun q hq => by rw [zqeG]; exact kb_un hq
  replace zqhF : ∀ q : Nat, q ≠ h0 → q < z → G9 q = G q := fun q h1 h2 => (zqhk q (by omega)).trans (zqhF q h1 h2)
  replace zqo3 : G9 z = .inl (cy 2, 9, .inr (.inr (.inr (.inr (fun _ => none))))) := (zqhk _ (kb_ne z (show 0 ≠ 3 by decide))).trans zqo3
  replace zqo5 : G9 (z + 1) = .inl (cy 3, 6, .inr (.inr (.inr (.inr (fun _ => none))))) := (zqhk _ (kb_ne z (show 1 ≠ 3 by decide))).trans zqo5
  replace zqo7 : G9 (z + 2) = .inl (cy 4, 2, .inr (.inr (.inr (.inr (fun _ => none))))) := (zqhk _ (kb_ne z (show 2 ≠ 3 by decide))).trans zqo7
  replace zqoh : G9 h0 = .inr (2, [.int 0, .int 22, .int 1, .ref z, .int 0, .ref (z + 1), .int 0, .ref (z + 2), .null, .int 0, .null, .int 0]) := (zqhk _ (kb_h1 hz0 3)).trans zqoh
  have zqo9 : G9 (z + 3) = .inl (cy 1, 60, .inl (fun _ => 0)) := by rw [zqeG]; exact kb_us
  clear zqeG zqhk
  replace zqhP : kb_P D b G9 (z + 4) zqH1 := zqhP
  refine kb_putF (v := .ref (z + 3)) (ty := .array .byte) hx hb hts hi2 tyX2 tyX2_ok nmX2 hown hK zqhP zqhS (by omega) (by omega) zqoh rfl 8 (by decide) (hts (.fieldLink RX2 36 "NoonLaw$Realm" "tape" "[B") (List.mem_cons_of_mem _ bm_51)) rfl rfl zqhin rfl (by decide +kernel) rfl rfl (Nat.le_of_ble_eq_true rfl) dX2_init_46 (fun zqH1 zqlocs1 zqhP1 zqhS1 => ?_)
  replace zqhP := zqhP1
  replace zqhS := zqhS1
  clear zqhP1 zqhS1
  replace zqhP : kb_P D b (kb_u G9 h0 (.inr (2, [.int 0, .int 22, .int 1, .ref z, .int 0, .ref (z + 1), .int 0, .ref (z + 2), .ref (z + 3), .int 0, .null, .int 0]))) (z + 4) zqH1 := zqhP
  obtain ⟨G10, zqeG⟩ : ∃ q, q = kb_u G9 h0 (.inr (2, [.int 0, .int 22, .int 1, .ref z, .int 0, .ref (z + 1), .int 0, .ref (z + 2), .ref (z + 3), .int 0, .null, .int 0])) := ⟨_, rfl⟩
  rw [← zqeG] at zqhP
  have zqhk : ∀ q : Nat, q ≠ h0 → G10 q = G9 q := fun q hq => by rw [zqeG]; exact kb_un hq
  replace zqhF : ∀ q : Nat, q ≠ h0 → q < z → G10 q = G q := fun q h1 h2 => (zqhk q h1).trans (zqhF q h1 h2)
  replace zqo3 : G10 z = .inl (cy 2, 9, .inr (.inr (.inr (.inr (fun _ => none))))) := (zqhk _ (kb_h2 hz0 0)).trans zqo3
  replace zqo5 : G10 (z + 1) = .inl (cy 3, 6, .inr (.inr (.inr (.inr (fun _ => none))))) := (zqhk _ (kb_h2 hz0 1)).trans zqo5
  replace zqo7 : G10 (z + 2) = .inl (cy 4, 2, .inr (.inr (.inr (.inr (fun _ => none))))) := (zqhk _ (kb_h2 hz0 2)).trans zqo7
  replace zqo9 : G10 (z + 3) = .inl (cy 1, 60, .inl (fun _ => 0)) := (zqhk _ (kb_h2 hz0 3)).trans zqo9
  replace zqoh : G10 h0 = .inr (2, [.int 0, .int 22, .int 1, .ref z, .int 0, .ref (z + 1), .int 0, .ref (z + 2), .ref (z + 3), .int 0, .null, .int 0]) := by rw [zqeG]; exact kb_us
  clear zqeG zqhk
  refine lv_aload_n hx hb dX2_init_49 rfl (lv_at hl 0 rfl) ?_
  refine lv_bipush (v := 24) hx hb dX2_init_50 (by decide) ?_
  refine kb_newa (atype := .int) (ty := .int) hx hb (hts (.arrayClass .int) (List.mem_cons_of_mem _ bm_32)) 0 rfl rfl (fun _ _ h => h) hK zqhP zqhS (n := 24) (N' := 24) rfl (by decide) (by decide) (Nat.le_of_ble_eq_true rfl) (Nat.le_of_ble_eq_true rfl) (Nat.le_of_ble_eq_true rfl) dX2_init_52 (fun zqH1 zqhP1 zqhS1 => ?_)
  replace zqhP := zqhP1
  replace zqhS := zqhS1
  clear zqhP1 zqhS1
  obtain ⟨G11, zqeG⟩ : ∃ q, q = kb_u G10 (z + 4) (.inl (cy 0, 24, .inl (fun _ => 0))) := ⟨_, rfl⟩
  rw [← zqeG] at zqhP
  have zqhk : ∀ q : Nat, q ≠ z + 4 → G11 q = G10 q := fun q hq => by rw [zqeG]; exact kb_un hq
  replace zqhF : ∀ q : Nat, q ≠ h0 → q < z → G11 q = G q := fun q h1 h2 => (zqhk q (by omega)).trans (zqhF q h1 h2)
  replace zqo3 : G11 z = .inl (cy 2, 9, .inr (.inr (.inr (.inr (fun _ => none))))) := (zqhk _ (kb_ne z (show 0 ≠ 4 by decide))).trans zqo3
  replace zqo5 : G11 (z + 1) = .inl (cy 3, 6, .inr (.inr (.inr (.inr (fun _ => none))))) := (zqhk _ (kb_ne z (show 1 ≠ 4 by decide))).trans zqo5
  replace zqo7 : G11 (z + 2) = .inl (cy 4, 2, .inr (.inr (.inr (.inr (fun _ => none))))) := (zqhk _ (kb_ne z (show 2 ≠ 4 by decide))).trans zqo7
  replace zqo9 : G11 (z + 3) = .inl (cy 1, 60, .inl (fun _ => 0)) := (zqhk _ (kb_ne z (show 3 ≠ 4 by decide))).trans zqo9
  replace zqoh : G11 h0 = .inr (2, [.int 0, .int 22, .int 1, .ref z, .int 0, .ref (z + 1), .int 0, .ref (z + 2), .ref (z + 3), .int 0, .null, .int 0]) := (zqhk _ (kb_h1 hz0 4)).trans zqoh
  have zqo11 : G11 (z + 4) = .inl (cy 0, 24, .inl (fun _ => 0)) := by rw [zqeG]; exact kb_us
  clear zqeG zqhk
  replace zqhP : kb_P D b G11 (z + 5) zqH1 := zqhP
  refine kb_putF (v := .ref (z + 4)) (ty := .array .int) hx hb hts hi2 tyX2 tyX2_ok nmX2 hown hK zqhP zqhS (by omega) (by omega) zqoh rfl 10 (by decide) (hts (.fieldLink RX2 40 "NoonLaw$Realm" "waiting" "[I") (List.mem_cons_of_mem _ bm_52)) rfl rfl zqhin rfl (by decide +kernel) rfl rfl (Nat.le_of_ble_eq_true rfl) dX2_init_54 (fun zqH1 zqlocs1 zqhP1 zqhS1 => ?_)
  replace zqhP := zqhP1
  replace zqhS := zqhS1
  clear zqhP1 zqhS1
  replace zqhP : kb_P D b (kb_u G11 h0 (.inr (2, [.int 0, .int 22, .int 1, .ref z, .int 0, .ref (z + 1), .int 0, .ref (z + 2), .ref (z + 3), .int 0, .ref (z + 4), .int 0]))) (z + 5) zqH1 := zqhP
  obtain ⟨G12, zqeG⟩ : ∃ q, q = kb_u G11 h0 (.inr (2, [.int 0, .int 22, .int 1, .ref z, .int 0, .ref (z + 1), .int 0, .ref (z + 2), .ref (z + 3), .int 0, .ref (z + 4), .int 0])) := ⟨_, rfl⟩
  rw [← zqeG] at zqhP
  have zqhk : ∀ q : Nat, q ≠ h0 → G12 q = G11 q := fun q hq => by rw [zqeG]; exact kb_un hq
  replace zqhF : ∀ q : Nat, q ≠ h0 → q < z → G12 q = G q := fun q h1 h2 => (zqhk q h1).trans (zqhF q h1 h2)
  replace zqo3 : G12 z = .inl (cy 2, 9, .inr (.inr (.inr (.inr (fun _ => none))))) := (zqhk _ (kb_h2 hz0 0)).trans zqo3
  replace zqo5 : G12 (z + 1) = .inl (cy 3, 6, .inr (.inr (.inr (.inr (fun _ => none))))) := (zqhk _ (kb_h2 hz0 1)).trans zqo5
  replace zqo7 : G12 (z + 2) = .inl (cy 4, 2, .inr (.inr (.inr (.inr (fun _ => none))))) := (zqhk _ (kb_h2 hz0 2)).trans zqo7
  replace zqo9 : G12 (z + 3) = .inl (cy 1, 60, .inl (fun _ => 0)) := (zqhk _ (kb_h2 hz0 3)).trans zqo9
  replace zqo11 : G12 (z + 4) = .inl (cy 0, 24, .inl (fun _ => 0)) := (zqhk _ (kb_h2 hz0 4)).trans zqo11
  replace zqoh : G12 h0 = .inr (2, [.int 0, .int 22, .int 1, .ref z, .int 0, .ref (z + 1), .int 0, .ref (z + 2), .ref (z + 3), .int 0, .ref (z + 4), .int 0]) := by rw [zqeG]; exact kb_us
  clear zqeG zqhk
  refine lv_iconst (v := 0) hx hb dX2_init_57 (by decide) ?_
  refine lv_istore_n (lv' := [(1, .int 0), (0, .ref h0)]) hx hb dX2_init_58 rfl hl (by decide) rfl (fun ls hl => ?_)
  refine lv_iload_n hx hb dX2_init_59 rfl (lv_at hl 0 rfl) ?_
  refine lv_bipush (v := 9) hx hb dX2_init_60 (by decide) ?_
  refine lv_icmp_ge (tgt := 84) hx hb dX2_init_62 (by decide) (fun zqc13 => absurd zqc13 (by decide)) (fun zqc13 => ?_)
  refine lv_aload_n hx hb dX2_init_65 rfl (lv_at hl 1 rfl) ?_
  refine kb_get hx hb hts hi2 hown hK zqhP (by omega) (by omega) zqoh rfl 3 (by decide) (hts (.fieldLink RX2 20 "NoonLaw$Realm" "dreams" "[LNoonLaw$Dream;") (List.mem_cons_of_mem _ bm_45)) rfl rfl dX2_init_66 ?_
  refine lv_iload_n hx hb dX2_init_69 rfl (lv_at hl 0 rfl) ?_
  refine kb_new (C := RX0) (T := TX0) (N := 6) hx hb hts hi0 tyX0 tyX0_ok hown (hts (.classLink RX2 18 RX0) (List.mem_cons_of_mem _ bm_44)) (hts (.instantiable RX0 6) (List.mem_cons_of_mem _ bm_53)) (hts (.initialized RX0) (List.mem_cons_of_mem _ bm_54)) hK zqhP zqhS (ci := 0) rfl [.int 0, .int 0, .int 0, .int 0, .int 0, .int 0] (fun j zqhj => by rcases (show j = 0 ∨ j = 1 ∨ j = 2 ∨ j = 3 ∨ j = 4 ∨ j = 5 by omega) with rfl | rfl | rfl | rfl | rfl | rfl <;> rfl) (Nat.le_of_ble_eq_true rfl) (Nat.le_of_ble_eq_true rfl) dX2_init_70 (fun zqH1 zqhP1 zqhS1 => ?_)
  replace zqhP := zqhP1
  replace zqhS := zqhS1
  clear zqhP1 zqhS1
  obtain ⟨G14, zqeG⟩ : ∃ q, q = kb_u G12 (z + 5) (.inr (0, [.int 0, .int 0, .int 0, .int 0, .int 0, .int 0])) := ⟨_, rfl⟩
  rw [← zqeG] at zqhP
  have zqhk : ∀ q : Nat, q ≠ z + 5 → G14 q = G12 q := fun q hq => by rw [zqeG]; exact kb_un hq
  replace zqhF : ∀ q : Nat, q ≠ h0 → q < z → G14 q = G q := fun q h1 h2 => (zqhk q (by omega)).trans (zqhF q h1 h2)
  replace zqo3 : G14 z = .inl (cy 2, 9, .inr (.inr (.inr (.inr (fun _ => none))))) := (zqhk _ (kb_ne z (show 0 ≠ 5 by decide))).trans zqo3
  replace zqo5 : G14 (z + 1) = .inl (cy 3, 6, .inr (.inr (.inr (.inr (fun _ => none))))) := (zqhk _ (kb_ne z (show 1 ≠ 5 by decide))).trans zqo5
  replace zqo7 : G14 (z + 2) = .inl (cy 4, 2, .inr (.inr (.inr (.inr (fun _ => none))))) := (zqhk _ (kb_ne z (show 2 ≠ 5 by decide))).trans zqo7
  replace zqo9 : G14 (z + 3) = .inl (cy 1, 60, .inl (fun _ => 0)) := (zqhk _ (kb_ne z (show 3 ≠ 5 by decide))).trans zqo9
  replace zqo11 : G14 (z + 4) = .inl (cy 0, 24, .inl (fun _ => 0)) := (zqhk _ (kb_ne z (show 4 ≠ 5 by decide))).trans zqo11
  replace zqoh : G14 h0 = .inr (2, [.int 0, .int 22, .int 1, .ref z, .int 0, .ref (z + 1), .int 0, .ref (z + 2), .ref (z + 3), .int 0, .ref (z + 4), .int 0]) := (zqhk _ (kb_h1 hz0 5)).trans zqoh
  have zqo14 : G14 (z + 5) = .inr (0, [.int 0, .int 0, .int 0, .int 0, .int 0, .int 0]) := by rw [zqeG]; exact kb_us
  clear zqeG zqhk
  replace zqhP : kb_P D b G14 (z + 6) zqH1 := zqhP
  refine lv_dup hx hb dX2_init_73 rfl ?_
  refine kb_callN (rest := [.ref (z + 5), .int 0, .ref z]) ⟨hx, hb, hml, hown, hts⟩ hK zqhP zqhS (c_X0_init l D cy b G14 (z + 6) (z + 5) (by omega) (by omega) zqo14) ⟨va_cnB 0 hts gX2_init_X0_init_n44 rfl rfl rfl (hK.2.2.2.2.2.1) (hts (.initialized RX0) (List.mem_cons_of_mem _ bm_54)) (by decide +kernel) ⟨Nat.le_of_ble_eq_true rfl, Nat.le_of_ble_eq_true rfl⟩, rfl, hts (.instanceMethod yX0_init) (by decide +kernel)⟩ hl.1 (Nat.le_of_ble_eq_true rfl) dX2_init_74 ⟨Nat.le_of_ble_eq_true rfl, Nat.le_of_ble_eq_true rfl⟩ (fun G15 zqH1 zqlocs1 zqw15 zqhP1 zqhS1 => ?_)
  replace zqhP := zqhP1
  replace zqhS := zqhS1
  clear zqhP1 zqhS1
  obtain ⟨zqw15a, zqw15⟩ := zqw15
  replace zqo3 : G15 z = .inl (cy 2, 9, .inr (.inr (.inr (.inr (fun _ => none))))) := (zqw15 _ (kb_ne z (show 0 ≠ 5 by decide)) (kb_lt z (show 0 < 6 by decide))).trans zqo3
  replace zqo5 : G15 (z + 1) = .inl (cy 3, 6, .inr (.inr (.inr (.inr (fun _ => none))))) := (zqw15 _ (kb_ne z (show 1 ≠ 5 by decide)) (kb_lt z (show 1 < 6 by decide))).trans zqo5
  replace zqo7 : G15 (z + 2) = .inl (cy 4, 2, .inr (.inr (.inr (.inr (fun _ => none))))) := (zqw15 _ (kb_ne z (show 2 ≠ 5 by decide)) (kb_lt z (show 2 < 6 by decide))).trans zqo7
  replace zqo9 : G15 (z + 3) = .inl (cy 1, 60, .inl (fun _ => 0)) := (zqw15 _ (kb_ne z (show 3 ≠ 5 by decide)) (kb_lt z (show 3 < 6 by decide))).trans zqo9
  replace zqo11 : G15 (z + 4) = .inl (cy 0, 24, .inl (fun _ => 0)) := (zqw15 _ (kb_ne z (show 4 ≠ 5 by decide)) (kb_lt z (show 4 < 6 by decide))).trans zqo11
  replace zqoh : G15 h0 = .inr (2, [.int 0, .int 22, .int 1, .ref z, .int 0, .ref (z + 1), .int 0, .ref (z + 2), .ref (z + 3), .int 0, .ref (z + 4), .int 0]) := (zqw15 _ (kb_h1 hz0 5) (kb_h3 hz0 6)).trans zqoh
  replace zqhF : ∀ q : Nat, q ≠ h0 → q < z → G15 q = G q := fun q h1 h2 => (zqw15 _ (by omega) (by omega)).trans (zqhF q h1 h2)
  have zqu15_0 := zqw15a
  replace zqhP : kb_P D b G15 (z + 6) zqH1 := zqhP
  have zqk0 : (0 : Int32).toInt = 0 := by decide +kernel
  refine kb_aast hx hb hK zqhP zqhS (by omega) (by omega) 2 0 zqo3 rfl (by omega) (by omega) zqu15_0 rfl (by omega) (by omega) dX2_init_77 (fun j zqH1 zqlocs1 zqej zqhj zqhP1 zqhS1 => ?_)
  replace zqhP := zqhP1
  replace zqhS := zqhS1
  clear zqhP1 zqhS1
  have zqej : j = 0 := by omega
  subst zqej
  obtain ⟨G16, zqeG⟩ : ∃ q, q = kb_u G15 z (.inl (cy 2, 9, .inr (.inr (.inr (.inr (va_up (fun _ => none) 0 (some (z + 5)))))))) := ⟨_, rfl⟩
  rw [← zqeG] at zqhP
  have zqhk : ∀ q : Nat, q ≠ z → G16 q = G15 q := fun q hq => by rw [zqeG]; exact kb_un hq
  replace zqhF : ∀ q : Nat, q ≠ h0 → q < z → G16 q = G q := fun q h1 h2 => (zqhk q (by omega)).trans (zqhF q h1 h2)
  replace zqo5 : G16 (z + 1) = .inl (cy 3, 6, .inr (.inr (.inr (.inr (fun _ => none))))) := (zqhk _ (kb_ne z (show 1 ≠ 0 by decide))).trans zqo5
  replace zqo7 : G16 (z + 2) = .inl (cy 4, 2, .inr (.inr (.inr (.inr (fun _ => none))))) := (zqhk _ (kb_ne z (show 2 ≠ 0 by decide))).trans zqo7
  replace zqo9 : G16 (z + 3) = .inl (cy 1, 60, .inl (fun _ => 0)) := (zqhk _ (kb_ne z (show 3 ≠ 0 by decide))).trans zqo9
  replace zqo11 : G16 (z + 4) = .inl (cy 0, 24, .inl (fun _ => 0)) := (zqhk _ (kb_ne z (show 4 ≠ 0 by decide))).trans zqo11
  replace zqoh : G16 h0 = .inr (2, [.int 0, .int 22, .int 1, .ref z, .int 0, .ref (z + 1), .int 0, .ref (z + 2), .ref (z + 3), .int 0, .ref (z + 4), .int 0]) := (zqhk _ (kb_h1 hz0 0)).trans zqoh
  replace zqu15_0 : G16 (z + 5) = .inr (0, [.int 0, .int 0, .int 0, .int 0, .int 0, .int 0]) := (zqhk _ (kb_ne z (show 5 ≠ 0 by decide))).trans zqu15_0
  replace zqo3 : G16 z = .inl (cy 2, 9, .inr (.inr (.inr (.inr (va_up (fun _ => none) 0 (some (z + 5))))))) := by rw [zqeG]; exact kb_us
  clear zqeG zqhk
  refine lv_iinc (v := 1) (lv' := [(1, .int 1), (0, .ref h0)]) hx hb dX2_init_78 hl (k := 0) rfl (by decide) (by decide) rfl (fun ls hl => ?_)
  refine lv_goto (tgt := 59) hx hb dX2_init_81 (by decide) ?_
  refine lv_iload_n hx hb dX2_init_59 rfl (lv_at hl 0 rfl) ?_
  refine lv_bipush (v := 9) hx hb dX2_init_60 (by decide) ?_
  refine lv_icmp_ge (tgt := 84) hx hb dX2_init_62 (by decide) (fun zqc17 => absurd zqc17 (by decide)) (fun zqc17 => ?_)
  refine lv_aload_n hx hb dX2_init_65 rfl (lv_at hl 1 rfl) ?_
  refine kb_get hx hb hts hi2 hown hK zqhP (by omega) (by omega) zqoh rfl 3 (by decide) (hts (.fieldLink RX2 20 "NoonLaw$Realm" "dreams" "[LNoonLaw$Dream;") (List.mem_cons_of_mem _ bm_45)) rfl rfl dX2_init_66 ?_
  refine lv_iload_n hx hb dX2_init_69 rfl (lv_at hl 0 rfl) ?_
  refine kb_new (C := RX0) (T := TX0) (N := 6) hx hb hts hi0 tyX0 tyX0_ok hown (hts (.classLink RX2 18 RX0) (List.mem_cons_of_mem _ bm_44)) (hts (.instantiable RX0 6) (List.mem_cons_of_mem _ bm_53)) (hts (.initialized RX0) (List.mem_cons_of_mem _ bm_54)) hK zqhP zqhS (ci := 0) rfl [.int 0, .int 0, .int 0, .int 0, .int 0, .int 0] (fun j zqhj => by rcases (show j = 0 ∨ j = 1 ∨ j = 2 ∨ j = 3 ∨ j = 4 ∨ j = 5 by omega) with rfl | rfl | rfl | rfl | rfl | rfl <;> rfl) (Nat.le_of_ble_eq_true rfl) (Nat.le_of_ble_eq_true rfl) dX2_init_70 (fun zqH1 zqhP1 zqhS1 => ?_)
  replace zqhP := zqhP1
  replace zqhS := zqhS1
  clear zqhP1 zqhS1
  obtain ⟨G18, zqeG⟩ : ∃ q, q = kb_u G16 (z + 6) (.inr (0, [.int 0, .int 0, .int 0, .int 0, .int 0, .int 0])) := ⟨_, rfl⟩
  rw [← zqeG] at zqhP
  have zqhk : ∀ q : Nat, q ≠ z + 6 → G18 q = G16 q := fun q hq => by rw [zqeG]; exact kb_un hq
  replace zqhF : ∀ q : Nat, q ≠ h0 → q < z → G18 q = G q := fun q h1 h2 => (zqhk q (by omega)).trans (zqhF q h1 h2)
  replace zqo5 : G18 (z + 1) = .inl (cy 3, 6, .inr (.inr (.inr (.inr (fun _ => none))))) := (zqhk _ (kb_ne z (show 1 ≠ 6 by decide))).trans zqo5
  replace zqo7 : G18 (z + 2) = .inl (cy 4, 2, .inr (.inr (.inr (.inr (fun _ => none))))) := (zqhk _ (kb_ne z (show 2 ≠ 6 by decide))).trans zqo7
  replace zqo9 : G18 (z + 3) = .inl (cy 1, 60, .inl (fun _ => 0)) := (zqhk _ (kb_ne z (show 3 ≠ 6 by decide))).trans zqo9
  replace zqo11 : G18 (z + 4) = .inl (cy 0, 24, .inl (fun _ => 0)) := (zqhk _ (kb_ne z (show 4 ≠ 6 by decide))).trans zqo11
  replace zqoh : G18 h0 = .inr (2, [.int 0, .int 22, .int 1, .ref z, .int 0, .ref (z + 1), .int 0, .ref (z + 2), .ref (z + 3), .int 0, .ref (z + 4), .int 0]) := (zqhk _ (kb_h1 hz0 6)).trans zqoh
  replace zqu15_0 : G18 (z + 5) = .inr (0, [.int 0, .int 0, .int 0, .int 0, .int 0, .int 0]) := (zqhk _ (kb_ne z (show 5 ≠ 6 by decide))).trans zqu15_0
  replace zqo3 : G18 z = .inl (cy 2, 9, .inr (.inr (.inr (.inr (va_up (fun _ => none) 0 (some (z + 5))))))) := (zqhk _ (kb_ne z (show 0 ≠ 6 by decide))).trans zqo3
  have zqo18 : G18 (z + 6) = .inr (0, [.int 0, .int 0, .int 0, .int 0, .int 0, .int 0]) := by rw [zqeG]; exact kb_us
  clear zqeG zqhk
  replace zqhP : kb_P D b G18 (z + 7) zqH1 := zqhP
  refine lv_dup hx hb dX2_init_73 rfl ?_
  refine kb_callN (rest := [.ref (z + 6), .int 1, .ref z]) ⟨hx, hb, hml, hown, hts⟩ hK zqhP zqhS (c_X0_init l D cy b G18 (z + 7) (z + 6) (by omega) (by omega) zqo18) ⟨va_cnB 0 hts gX2_init_X0_init_n44 rfl rfl rfl (hK.2.2.2.2.2.1) (hts (.initialized RX0) (List.mem_cons_of_mem _ bm_54)) (by decide +kernel) ⟨Nat.le_of_ble_eq_true rfl, Nat.le_of_ble_eq_true rfl⟩, rfl, hts (.instanceMethod yX0_init) (by decide +kernel)⟩ hl.1 (Nat.le_of_ble_eq_true rfl) dX2_init_74 ⟨Nat.le_of_ble_eq_true rfl, Nat.le_of_ble_eq_true rfl⟩ (fun G19 zqH1 zqlocs1 zqw19 zqhP1 zqhS1 => ?_)
  replace zqhP := zqhP1
  replace zqhS := zqhS1
  clear zqhP1 zqhS1
  obtain ⟨zqw19a, zqw19⟩ := zqw19
  replace zqo5 : G19 (z + 1) = .inl (cy 3, 6, .inr (.inr (.inr (.inr (fun _ => none))))) := (zqw19 _ (kb_ne z (show 1 ≠ 6 by decide)) (kb_lt z (show 1 < 7 by decide))).trans zqo5
  replace zqo7 : G19 (z + 2) = .inl (cy 4, 2, .inr (.inr (.inr (.inr (fun _ => none))))) := (zqw19 _ (kb_ne z (show 2 ≠ 6 by decide)) (kb_lt z (show 2 < 7 by decide))).trans zqo7
  replace zqo9 : G19 (z + 3) = .inl (cy 1, 60, .inl (fun _ => 0)) := (zqw19 _ (kb_ne z (show 3 ≠ 6 by decide)) (kb_lt z (show 3 < 7 by decide))).trans zqo9
  replace zqo11 : G19 (z + 4) = .inl (cy 0, 24, .inl (fun _ => 0)) := (zqw19 _ (kb_ne z (show 4 ≠ 6 by decide)) (kb_lt z (show 4 < 7 by decide))).trans zqo11
  replace zqoh : G19 h0 = .inr (2, [.int 0, .int 22, .int 1, .ref z, .int 0, .ref (z + 1), .int 0, .ref (z + 2), .ref (z + 3), .int 0, .ref (z + 4), .int 0]) := (zqw19 _ (kb_h1 hz0 6) (kb_h3 hz0 7)).trans zqoh
  replace zqu15_0 : G19 (z + 5) = .inr (0, [.int 0, .int 0, .int 0, .int 0, .int 0, .int 0]) := (zqw19 _ (kb_ne z (show 5 ≠ 6 by decide)) (kb_lt z (show 5 < 7 by decide))).trans zqu15_0
  replace zqo3 : G19 z = .inl (cy 2, 9, .inr (.inr (.inr (.inr (va_up (fun _ => none) 0 (some (z + 5))))))) := (zqw19 _ (kb_ne z (show 0 ≠ 6 by decide)) (kb_lt z (show 0 < 7 by decide))).trans zqo3
  replace zqhF : ∀ q : Nat, q ≠ h0 → q < z → G19 q = G q := fun q h1 h2 => (zqw19 _ (by omega) (by omega)).trans (zqhF q h1 h2)
  have zqu19_0 := zqw19a
  replace zqhP : kb_P D b G19 (z + 7) zqH1 := zqhP
  have zqk1 : (1 : Int32).toInt = 1 := by decide +kernel
  refine kb_aast hx hb hK zqhP zqhS (by omega) (by omega) 2 0 zqo3 rfl (by omega) (by omega) zqu19_0 rfl (by omega) (by omega) dX2_init_77 (fun j zqH1 zqlocs1 zqej zqhj zqhP1 zqhS1 => ?_)
  replace zqhP := zqhP1
  replace zqhS := zqhS1
  clear zqhP1 zqhS1
  have zqej : j = 1 := by omega
  subst zqej
  obtain ⟨G20, zqeG⟩ : ∃ q, q = kb_u G19 z (.inl (cy 2, 9, .inr (.inr (.inr (.inr (va_up (va_up (fun _ => none) 0 (some (z + 5))) 1 (some (z + 6)))))))) := ⟨_, rfl⟩
  rw [← zqeG] at zqhP
  have zqhk : ∀ q : Nat, q ≠ z → G20 q = G19 q := fun q hq => by rw [zqeG]; exact kb_un hq
  replace zqhF : ∀ q : Nat, q ≠ h0 → q < z → G20 q = G q := fun q h1 h2 => (zqhk q (by omega)).trans (zqhF q h1 h2)
  replace zqo5 : G20 (z + 1) = .inl (cy 3, 6, .inr (.inr (.inr (.inr (fun _ => none))))) := (zqhk _ (kb_ne z (show 1 ≠ 0 by decide))).trans zqo5
  replace zqo7 : G20 (z + 2) = .inl (cy 4, 2, .inr (.inr (.inr (.inr (fun _ => none))))) := (zqhk _ (kb_ne z (show 2 ≠ 0 by decide))).trans zqo7
  replace zqo9 : G20 (z + 3) = .inl (cy 1, 60, .inl (fun _ => 0)) := (zqhk _ (kb_ne z (show 3 ≠ 0 by decide))).trans zqo9
  replace zqo11 : G20 (z + 4) = .inl (cy 0, 24, .inl (fun _ => 0)) := (zqhk _ (kb_ne z (show 4 ≠ 0 by decide))).trans zqo11
  replace zqoh : G20 h0 = .inr (2, [.int 0, .int 22, .int 1, .ref z, .int 0, .ref (z + 1), .int 0, .ref (z + 2), .ref (z + 3), .int 0, .ref (z + 4), .int 0]) := (zqhk _ (kb_h1 hz0 0)).trans zqoh
  replace zqu15_0 : G20 (z + 5) = .inr (0, [.int 0, .int 0, .int 0, .int 0, .int 0, .int 0]) := (zqhk _ (kb_ne z (show 5 ≠ 0 by decide))).trans zqu15_0
  replace zqu19_0 : G20 (z + 6) = .inr (0, [.int 0, .int 0, .int 0, .int 0, .int 0, .int 0]) := (zqhk _ (kb_ne z (show 6 ≠ 0 by decide))).trans zqu19_0
  replace zqo3 : G20 z = .inl (cy 2, 9, .inr (.inr (.inr (.inr (va_up (va_up (fun _ => none) 0 (some (z + 5))) 1 (some (z + 6))))))) := by rw [zqeG]; exact kb_us
  clear zqeG zqhk
  refine lv_iinc (v := 2) (lv' := [(1, .int 2), (0, .ref h0)]) hx hb dX2_init_78 hl (k := 0) rfl (by decide) (by decide) rfl (fun ls hl => ?_)
  refine lv_goto (tgt := 59) hx hb dX2_init_81 (by decide) ?_
  refine lv_iload_n hx hb dX2_init_59 rfl (lv_at hl 0 rfl) ?_
  refine lv_bipush (v := 9) hx hb dX2_init_60 (by decide) ?_
  refine lv_icmp_ge (tgt := 84) hx hb dX2_init_62 (by decide) (fun zqc21 => absurd zqc21 (by decide)) (fun zqc21 => ?_)
  refine lv_aload_n hx hb dX2_init_65 rfl (lv_at hl 1 rfl) ?_
  refine kb_get hx hb hts hi2 hown hK zqhP (by omega) (by omega) zqoh rfl 3 (by decide) (hts (.fieldLink RX2 20 "NoonLaw$Realm" "dreams" "[LNoonLaw$Dream;") (List.mem_cons_of_mem _ bm_45)) rfl rfl dX2_init_66 ?_
  refine lv_iload_n hx hb dX2_init_69 rfl (lv_at hl 0 rfl) ?_
  refine kb_new (C := RX0) (T := TX0) (N := 6) hx hb hts hi0 tyX0 tyX0_ok hown (hts (.classLink RX2 18 RX0) (List.mem_cons_of_mem _ bm_44)) (hts (.instantiable RX0 6) (List.mem_cons_of_mem _ bm_53)) (hts (.initialized RX0) (List.mem_cons_of_mem _ bm_54)) hK zqhP zqhS (ci := 0) rfl [.int 0, .int 0, .int 0, .int 0, .int 0, .int 0] (fun j zqhj => by rcases (show j = 0 ∨ j = 1 ∨ j = 2 ∨ j = 3 ∨ j = 4 ∨ j = 5 by omega) with rfl | rfl | rfl | rfl | rfl | rfl <;> rfl) (Nat.le_of_ble_eq_true rfl) (Nat.le_of_ble_eq_true rfl) dX2_init_70 (fun zqH1 zqhP1 zqhS1 => ?_)
  replace zqhP := zqhP1
  replace zqhS := zqhS1
  clear zqhP1 zqhS1
  obtain ⟨G22, zqeG⟩ : ∃ q, q = kb_u G20 (z + 7) (.inr (0, [.int 0, .int 0, .int 0, .int 0, .int 0, .int 0])) := ⟨_, rfl⟩
  rw [← zqeG] at zqhP
  have zqhk : ∀ q : Nat, q ≠ z + 7 → G22 q = G20 q := fun q hq => by rw [zqeG]; exact kb_un hq
  replace zqhF : ∀ q : Nat, q ≠ h0 → q < z → G22 q = G q := fun q h1 h2 => (zqhk q (by omega)).trans (zqhF q h1 h2)
  replace zqo5 : G22 (z + 1) = .inl (cy 3, 6, .inr (.inr (.inr (.inr (fun _ => none))))) := (zqhk _ (kb_ne z (show 1 ≠ 7 by decide))).trans zqo5
  replace zqo7 : G22 (z + 2) = .inl (cy 4, 2, .inr (.inr (.inr (.inr (fun _ => none))))) := (zqhk _ (kb_ne z (show 2 ≠ 7 by decide))).trans zqo7
  replace zqo9 : G22 (z + 3) = .inl (cy 1, 60, .inl (fun _ => 0)) := (zqhk _ (kb_ne z (show 3 ≠ 7 by decide))).trans zqo9
  replace zqo11 : G22 (z + 4) = .inl (cy 0, 24, .inl (fun _ => 0)) := (zqhk _ (kb_ne z (show 4 ≠ 7 by decide))).trans zqo11
  replace zqoh : G22 h0 = .inr (2, [.int 0, .int 22, .int 1, .ref z, .int 0, .ref (z + 1), .int 0, .ref (z + 2), .ref (z + 3), .int 0, .ref (z + 4), .int 0]) := (zqhk _ (kb_h1 hz0 7)).trans zqoh
  replace zqu15_0 : G22 (z + 5) = .inr (0, [.int 0, .int 0, .int 0, .int 0, .int 0, .int 0]) := (zqhk _ (kb_ne z (show 5 ≠ 7 by decide))).trans zqu15_0
  replace zqu19_0 : G22 (z + 6) = .inr (0, [.int 0, .int 0, .int 0, .int 0, .int 0, .int 0]) := (zqhk _ (kb_ne z (show 6 ≠ 7 by decide))).trans zqu19_0
  replace zqo3 : G22 z = .inl (cy 2, 9, .inr (.inr (.inr (.inr (va_up (va_up (fun _ => none) 0 (some (z + 5))) 1 (some (z + 6))))))) := (zqhk _ (kb_ne z (show 0 ≠ 7 by decide))).trans zqo3
  have zqo22 : G22 (z + 7) = .inr (0, [.int 0, .int 0, .int 0, .int 0, .int 0, .int 0]) := by rw [zqeG]; exact kb_us
  clear zqeG zqhk
  replace zqhP : kb_P D b G22 (z + 8) zqH1 := zqhP
  refine lv_dup hx hb dX2_init_73 rfl ?_
  refine kb_callN (rest := [.ref (z + 7), .int 2, .ref z]) ⟨hx, hb, hml, hown, hts⟩ hK zqhP zqhS (c_X0_init l D cy b G22 (z + 8) (z + 7) (by omega) (by omega) zqo22) ⟨va_cnB 0 hts gX2_init_X0_init_n44 rfl rfl rfl (hK.2.2.2.2.2.1) (hts (.initialized RX0) (List.mem_cons_of_mem _ bm_54)) (by decide +kernel) ⟨Nat.le_of_ble_eq_true rfl, Nat.le_of_ble_eq_true rfl⟩, rfl, hts (.instanceMethod yX0_init) (by decide +kernel)⟩ hl.1 (Nat.le_of_ble_eq_true rfl) dX2_init_74 ⟨Nat.le_of_ble_eq_true rfl, Nat.le_of_ble_eq_true rfl⟩ (fun G23 zqH1 zqlocs1 zqw23 zqhP1 zqhS1 => ?_)
  replace zqhP := zqhP1
  replace zqhS := zqhS1
  clear zqhP1 zqhS1
  obtain ⟨zqw23a, zqw23⟩ := zqw23
  replace zqo5 : G23 (z + 1) = .inl (cy 3, 6, .inr (.inr (.inr (.inr (fun _ => none))))) := (zqw23 _ (kb_ne z (show 1 ≠ 7 by decide)) (kb_lt z (show 1 < 8 by decide))).trans zqo5
  replace zqo7 : G23 (z + 2) = .inl (cy 4, 2, .inr (.inr (.inr (.inr (fun _ => none))))) := (zqw23 _ (kb_ne z (show 2 ≠ 7 by decide)) (kb_lt z (show 2 < 8 by decide))).trans zqo7
  replace zqo9 : G23 (z + 3) = .inl (cy 1, 60, .inl (fun _ => 0)) := (zqw23 _ (kb_ne z (show 3 ≠ 7 by decide)) (kb_lt z (show 3 < 8 by decide))).trans zqo9
  replace zqo11 : G23 (z + 4) = .inl (cy 0, 24, .inl (fun _ => 0)) := (zqw23 _ (kb_ne z (show 4 ≠ 7 by decide)) (kb_lt z (show 4 < 8 by decide))).trans zqo11
  replace zqoh : G23 h0 = .inr (2, [.int 0, .int 22, .int 1, .ref z, .int 0, .ref (z + 1), .int 0, .ref (z + 2), .ref (z + 3), .int 0, .ref (z + 4), .int 0]) := (zqw23 _ (kb_h1 hz0 7) (kb_h3 hz0 8)).trans zqoh
  replace zqu15_0 : G23 (z + 5) = .inr (0, [.int 0, .int 0, .int 0, .int 0, .int 0, .int 0]) := (zqw23 _ (kb_ne z (show 5 ≠ 7 by decide)) (kb_lt z (show 5 < 8 by decide))).trans zqu15_0
  replace zqu19_0 : G23 (z + 6) = .inr (0, [.int 0, .int 0, .int 0, .int 0, .int 0, .int 0]) := (zqw23 _ (kb_ne z (show 6 ≠ 7 by decide)) (kb_lt z (show 6 < 8 by decide))).trans zqu19_0
  replace zqo3 : G23 z = .inl (cy 2, 9, .inr (.inr (.inr (.inr (va_up (va_up (fun _ => none) 0 (some (z + 5))) 1 (some (z + 6))))))) := (zqw23 _ (kb_ne z (show 0 ≠ 7 by decide)) (kb_lt z (show 0 < 8 by decide))).trans zqo3
  replace zqhF : ∀ q : Nat, q ≠ h0 → q < z → G23 q = G q := fun q h1 h2 => (zqw23 _ (by omega) (by omega)).trans (zqhF q h1 h2)
  have zqu23_0 := zqw23a
  replace zqhP : kb_P D b G23 (z + 8) zqH1 := zqhP
  have zqk2 : (2 : Int32).toInt = 2 := by decide +kernel
  refine kb_aast hx hb hK zqhP zqhS (by omega) (by omega) 2 0 zqo3 rfl (by omega) (by omega) zqu23_0 rfl (by omega) (by omega) dX2_init_77 (fun j zqH1 zqlocs1 zqej zqhj zqhP1 zqhS1 => ?_)
  replace zqhP := zqhP1
  replace zqhS := zqhS1
  clear zqhP1 zqhS1
  have zqej : j = 2 := by omega
  subst zqej
  obtain ⟨G24, zqeG⟩ : ∃ q, q = kb_u G23 z (.inl (cy 2, 9, .inr (.inr (.inr (.inr (va_up (va_up (va_up (fun _ => none) 0 (some (z + 5))) 1 (some (z + 6))) 2 (some (z + 7)))))))) := ⟨_, rfl⟩
  rw [← zqeG] at zqhP
  have zqhk : ∀ q : Nat, q ≠ z → G24 q = G23 q := fun q hq => by rw [zqeG]; exact kb_un hq
  replace zqhF : ∀ q : Nat, q ≠ h0 → q < z → G24 q = G q := fun q h1 h2 => (zqhk q (by omega)).trans (zqhF q h1 h2)
  replace zqo5 : G24 (z + 1) = .inl (cy 3, 6, .inr (.inr (.inr (.inr (fun _ => none))))) := (zqhk _ (kb_ne z (show 1 ≠ 0 by decide))).trans zqo5
  replace zqo7 : G24 (z + 2) = .inl (cy 4, 2, .inr (.inr (.inr (.inr (fun _ => none))))) := (zqhk _ (kb_ne z (show 2 ≠ 0 by decide))).trans zqo7
  replace zqo9 : G24 (z + 3) = .inl (cy 1, 60, .inl (fun _ => 0)) := (zqhk _ (kb_ne z (show 3 ≠ 0 by decide))).trans zqo9
  replace zqo11 : G24 (z + 4) = .inl (cy 0, 24, .inl (fun _ => 0)) := (zqhk _ (kb_ne z (show 4 ≠ 0 by decide))).trans zqo11
  replace zqoh : G24 h0 = .inr (2, [.int 0, .int 22, .int 1, .ref z, .int 0, .ref (z + 1), .int 0, .ref (z + 2), .ref (z + 3), .int 0, .ref (z + 4), .int 0]) := (zqhk _ (kb_h1 hz0 0)).trans zqoh
  replace zqu15_0 : G24 (z + 5) = .inr (0, [.int 0, .int 0, .int 0, .int 0, .int 0, .int 0]) := (zqhk _ (kb_ne z (show 5 ≠ 0 by decide))).trans zqu15_0
  replace zqu19_0 : G24 (z + 6) = .inr (0, [.int 0, .int 0, .int 0, .int 0, .int 0, .int 0]) := (zqhk _ (kb_ne z (show 6 ≠ 0 by decide))).trans zqu19_0
  replace zqu23_0 : G24 (z + 7) = .inr (0, [.int 0, .int 0, .int 0, .int 0, .int 0, .int 0]) := (zqhk _ (kb_ne z (show 7 ≠ 0 by decide))).trans zqu23_0
  replace zqo3 : G24 z = .inl (cy 2, 9, .inr (.inr (.inr (.inr (va_up (va_up (va_up (fun _ => none) 0 (some (z + 5))) 1 (some (z + 6))) 2 (some (z + 7))))))) := by rw [zqeG]; exact kb_us
  clear zqeG zqhk
  refine lv_iinc (v := 3) (lv' := [(1, .int 3), (0, .ref h0)]) hx hb dX2_init_78 hl (k := 0) rfl (by decide) (by decide) rfl (fun ls hl => ?_)
  refine lv_goto (tgt := 59) hx hb dX2_init_81 (by decide) ?_
  refine lv_iload_n hx hb dX2_init_59 rfl (lv_at hl 0 rfl) ?_
  refine lv_bipush (v := 9) hx hb dX2_init_60 (by decide) ?_
  refine lv_icmp_ge (tgt := 84) hx hb dX2_init_62 (by decide) (fun zqc25 => absurd zqc25 (by decide)) (fun zqc25 => ?_)
  refine lv_aload_n hx hb dX2_init_65 rfl (lv_at hl 1 rfl) ?_
  refine kb_get hx hb hts hi2 hown hK zqhP (by omega) (by omega) zqoh rfl 3 (by decide) (hts (.fieldLink RX2 20 "NoonLaw$Realm" "dreams" "[LNoonLaw$Dream;") (List.mem_cons_of_mem _ bm_45)) rfl rfl dX2_init_66 ?_
  refine lv_iload_n hx hb dX2_init_69 rfl (lv_at hl 0 rfl) ?_
  refine kb_new (C := RX0) (T := TX0) (N := 6) hx hb hts hi0 tyX0 tyX0_ok hown (hts (.classLink RX2 18 RX0) (List.mem_cons_of_mem _ bm_44)) (hts (.instantiable RX0 6) (List.mem_cons_of_mem _ bm_53)) (hts (.initialized RX0) (List.mem_cons_of_mem _ bm_54)) hK zqhP zqhS (ci := 0) rfl [.int 0, .int 0, .int 0, .int 0, .int 0, .int 0] (fun j zqhj => by rcases (show j = 0 ∨ j = 1 ∨ j = 2 ∨ j = 3 ∨ j = 4 ∨ j = 5 by omega) with rfl | rfl | rfl | rfl | rfl | rfl <;> rfl) (Nat.le_of_ble_eq_true rfl) (Nat.le_of_ble_eq_true rfl) dX2_init_70 (fun zqH1 zqhP1 zqhS1 => ?_)
  replace zqhP := zqhP1
  replace zqhS := zqhS1
  clear zqhP1 zqhS1
  obtain ⟨G26, zqeG⟩ : ∃ q, q = kb_u G24 (z + 8) (.inr (0, [.int 0, .int 0, .int 0, .int 0, .int 0, .int 0])) := ⟨_, rfl⟩
  rw [← zqeG] at zqhP
  have zqhk : ∀ q : Nat, q ≠ z + 8 → G26 q = G24 q := fun q hq => by rw [zqeG]; exact kb_un hq
  replace zqhF : ∀ q : Nat, q ≠ h0 → q < z → G26 q = G q := fun q h1 h2 => (zqhk q (by omega)).trans (zqhF q h1 h2)
  replace zqo5 : G26 (z + 1) = .inl (cy 3, 6, .inr (.inr (.inr (.inr (fun _ => none))))) := (zqhk _ (kb_ne z (show 1 ≠ 8 by decide))).trans zqo5
  replace zqo7 : G26 (z + 2) = .inl (cy 4, 2, .inr (.inr (.inr (.inr (fun _ => none))))) := (zqhk _ (kb_ne z (show 2 ≠ 8 by decide))).trans zqo7
  replace zqo9 : G26 (z + 3) = .inl (cy 1, 60, .inl (fun _ => 0)) := (zqhk _ (kb_ne z (show 3 ≠ 8 by decide))).trans zqo9
  replace zqo11 : G26 (z + 4) = .inl (cy 0, 24, .inl (fun _ => 0)) := (zqhk _ (kb_ne z (show 4 ≠ 8 by decide))).trans zqo11
  replace zqoh : G26 h0 = .inr (2, [.int 0, .int 22, .int 1, .ref z, .int 0, .ref (z + 1), .int 0, .ref (z + 2), .ref (z + 3), .int 0, .ref (z + 4), .int 0]) := (zqhk _ (kb_h1 hz0 8)).trans zqoh
  replace zqu15_0 : G26 (z + 5) = .inr (0, [.int 0, .int 0, .int 0, .int 0, .int 0, .int 0]) := (zqhk _ (kb_ne z (show 5 ≠ 8 by decide))).trans zqu15_0
  replace zqu19_0 : G26 (z + 6) = .inr (0, [.int 0, .int 0, .int 0, .int 0, .int 0, .int 0]) := (zqhk _ (kb_ne z (show 6 ≠ 8 by decide))).trans zqu19_0
  replace zqu23_0 : G26 (z + 7) = .inr (0, [.int 0, .int 0, .int 0, .int 0, .int 0, .int 0]) := (zqhk _ (kb_ne z (show 7 ≠ 8 by decide))).trans zqu23_0
  replace zqo3 : G26 z = .inl (cy 2, 9, .inr (.inr (.inr (.inr (va_up (va_up (va_up (fun _ => none) 0 (some (z + 5))) 1 (some (z + 6))) 2 (some (z + 7))))))) := (zqhk _ (kb_ne z (show 0 ≠ 8 by decide))).trans zqo3
  have zqo26 : G26 (z + 8) = .inr (0, [.int 0, .int 0, .int 0, .int 0, .int 0, .int 0]) := by rw [zqeG]; exact kb_us
  clear zqeG zqhk
  replace zqhP : kb_P D b G26 (z + 9) zqH1 := zqhP
  refine lv_dup hx hb dX2_init_73 rfl ?_
  refine kb_callN (rest := [.ref (z + 8), .int 3, .ref z]) ⟨hx, hb, hml, hown, hts⟩ hK zqhP zqhS (c_X0_init l D cy b G26 (z + 9) (z + 8) (by omega) (by omega) zqo26) ⟨va_cnB 0 hts gX2_init_X0_init_n44 rfl rfl rfl (hK.2.2.2.2.2.1) (hts (.initialized RX0) (List.mem_cons_of_mem _ bm_54)) (by decide +kernel) ⟨Nat.le_of_ble_eq_true rfl, Nat.le_of_ble_eq_true rfl⟩, rfl, hts (.instanceMethod yX0_init) (by decide +kernel)⟩ hl.1 (Nat.le_of_ble_eq_true rfl) dX2_init_74 ⟨Nat.le_of_ble_eq_true rfl, Nat.le_of_ble_eq_true rfl⟩ (fun G27 zqH1 zqlocs1 zqw27 zqhP1 zqhS1 => ?_)
  replace zqhP := zqhP1
  replace zqhS := zqhS1
  clear zqhP1 zqhS1
  obtain ⟨zqw27a, zqw27⟩ := zqw27
  replace zqo5 : G27 (z + 1) = .inl (cy 3, 6, .inr (.inr (.inr (.inr (fun _ => none))))) := (zqw27 _ (kb_ne z (show 1 ≠ 8 by decide)) (kb_lt z (show 1 < 9 by decide))).trans zqo5
  replace zqo7 : G27 (z + 2) = .inl (cy 4, 2, .inr (.inr (.inr (.inr (fun _ => none))))) := (zqw27 _ (kb_ne z (show 2 ≠ 8 by decide)) (kb_lt z (show 2 < 9 by decide))).trans zqo7
  replace zqo9 : G27 (z + 3) = .inl (cy 1, 60, .inl (fun _ => 0)) := (zqw27 _ (kb_ne z (show 3 ≠ 8 by decide)) (kb_lt z (show 3 < 9 by decide))).trans zqo9
  replace zqo11 : G27 (z + 4) = .inl (cy 0, 24, .inl (fun _ => 0)) := (zqw27 _ (kb_ne z (show 4 ≠ 8 by decide)) (kb_lt z (show 4 < 9 by decide))).trans zqo11
  replace zqoh : G27 h0 = .inr (2, [.int 0, .int 22, .int 1, .ref z, .int 0, .ref (z + 1), .int 0, .ref (z + 2), .ref (z + 3), .int 0, .ref (z + 4), .int 0]) := (zqw27 _ (kb_h1 hz0 8) (kb_h3 hz0 9)).trans zqoh
  replace zqu15_0 : G27 (z + 5) = .inr (0, [.int 0, .int 0, .int 0, .int 0, .int 0, .int 0]) := (zqw27 _ (kb_ne z (show 5 ≠ 8 by decide)) (kb_lt z (show 5 < 9 by decide))).trans zqu15_0
  replace zqu19_0 : G27 (z + 6) = .inr (0, [.int 0, .int 0, .int 0, .int 0, .int 0, .int 0]) := (zqw27 _ (kb_ne z (show 6 ≠ 8 by decide)) (kb_lt z (show 6 < 9 by decide))).trans zqu19_0
  replace zqu23_0 : G27 (z + 7) = .inr (0, [.int 0, .int 0, .int 0, .int 0, .int 0, .int 0]) := (zqw27 _ (kb_ne z (show 7 ≠ 8 by decide)) (kb_lt z (show 7 < 9 by decide))).trans zqu23_0
  replace zqo3 : G27 z = .inl (cy 2, 9, .inr (.inr (.inr (.inr (va_up (va_up (va_up (fun _ => none) 0 (some (z + 5))) 1 (some (z + 6))) 2 (some (z + 7))))))) := (zqw27 _ (kb_ne z (show 0 ≠ 8 by decide)) (kb_lt z (show 0 < 9 by decide))).trans zqo3
  replace zqhF : ∀ q : Nat, q ≠ h0 → q < z → G27 q = G q := fun q h1 h2 => (zqw27 _ (by omega) (by omega)).trans (zqhF q h1 h2)
  have zqu27_0 := zqw27a
  replace zqhP : kb_P D b G27 (z + 9) zqH1 := zqhP
  have zqk3 : (3 : Int32).toInt = 3 := by decide +kernel
  refine kb_aast hx hb hK zqhP zqhS (by omega) (by omega) 2 0 zqo3 rfl (by omega) (by omega) zqu27_0 rfl (by omega) (by omega) dX2_init_77 (fun j zqH1 zqlocs1 zqej zqhj zqhP1 zqhS1 => ?_)
  replace zqhP := zqhP1
  replace zqhS := zqhS1
  clear zqhP1 zqhS1
  have zqej : j = 3 := by omega
  subst zqej
  obtain ⟨G28, zqeG⟩ : ∃ q, q = kb_u G27 z (.inl (cy 2, 9, .inr (.inr (.inr (.inr (va_up (va_up (va_up (va_up (fun _ => none) 0 (some (z + 5))) 1 (some (z + 6))) 2 (some (z + 7))) 3 (some (z + 8)))))))) := ⟨_, rfl⟩
  rw [← zqeG] at zqhP
  have zqhk : ∀ q : Nat, q ≠ z → G28 q = G27 q := fun q hq => by rw [zqeG]; exact kb_un hq
  replace zqhF : ∀ q : Nat, q ≠ h0 → q < z → G28 q = G q := fun q h1 h2 => (zqhk q (by omega)).trans (zqhF q h1 h2)
  replace zqo5 : G28 (z + 1) = .inl (cy 3, 6, .inr (.inr (.inr (.inr (fun _ => none))))) := (zqhk _ (kb_ne z (show 1 ≠ 0 by decide))).trans zqo5
  replace zqo7 : G28 (z + 2) = .inl (cy 4, 2, .inr (.inr (.inr (.inr (fun _ => none))))) := (zqhk _ (kb_ne z (show 2 ≠ 0 by decide))).trans zqo7
  replace zqo9 : G28 (z + 3) = .inl (cy 1, 60, .inl (fun _ => 0)) := (zqhk _ (kb_ne z (show 3 ≠ 0 by decide))).trans zqo9
  replace zqo11 : G28 (z + 4) = .inl (cy 0, 24, .inl (fun _ => 0)) := (zqhk _ (kb_ne z (show 4 ≠ 0 by decide))).trans zqo11
  replace zqoh : G28 h0 = .inr (2, [.int 0, .int 22, .int 1, .ref z, .int 0, .ref (z + 1), .int 0, .ref (z + 2), .ref (z + 3), .int 0, .ref (z + 4), .int 0]) := (zqhk _ (kb_h1 hz0 0)).trans zqoh
  replace zqu15_0 : G28 (z + 5) = .inr (0, [.int 0, .int 0, .int 0, .int 0, .int 0, .int 0]) := (zqhk _ (kb_ne z (show 5 ≠ 0 by decide))).trans zqu15_0
  replace zqu19_0 : G28 (z + 6) = .inr (0, [.int 0, .int 0, .int 0, .int 0, .int 0, .int 0]) := (zqhk _ (kb_ne z (show 6 ≠ 0 by decide))).trans zqu19_0
  replace zqu23_0 : G28 (z + 7) = .inr (0, [.int 0, .int 0, .int 0, .int 0, .int 0, .int 0]) := (zqhk _ (kb_ne z (show 7 ≠ 0 by decide))).trans zqu23_0
  replace zqu27_0 : G28 (z + 8) = .inr (0, [.int 0, .int 0, .int 0, .int 0, .int 0, .int 0]) := (zqhk _ (kb_ne z (show 8 ≠ 0 by decide))).trans zqu27_0
  replace zqo3 : G28 z = .inl (cy 2, 9, .inr (.inr (.inr (.inr (va_up (va_up (va_up (va_up (fun _ => none) 0 (some (z + 5))) 1 (some (z + 6))) 2 (some (z + 7))) 3 (some (z + 8))))))) := by rw [zqeG]; exact kb_us
  clear zqeG zqhk
  refine lv_iinc (v := 4) (lv' := [(1, .int 4), (0, .ref h0)]) hx hb dX2_init_78 hl (k := 0) rfl (by decide) (by decide) rfl (fun ls hl => ?_)
  refine lv_goto (tgt := 59) hx hb dX2_init_81 (by decide) ?_
  refine lv_iload_n hx hb dX2_init_59 rfl (lv_at hl 0 rfl) ?_
  refine lv_bipush (v := 9) hx hb dX2_init_60 (by decide) ?_
  refine lv_icmp_ge (tgt := 84) hx hb dX2_init_62 (by decide) (fun zqc29 => absurd zqc29 (by decide)) (fun zqc29 => ?_)
  refine lv_aload_n hx hb dX2_init_65 rfl (lv_at hl 1 rfl) ?_
  refine kb_get hx hb hts hi2 hown hK zqhP (by omega) (by omega) zqoh rfl 3 (by decide) (hts (.fieldLink RX2 20 "NoonLaw$Realm" "dreams" "[LNoonLaw$Dream;") (List.mem_cons_of_mem _ bm_45)) rfl rfl dX2_init_66 ?_
  refine lv_iload_n hx hb dX2_init_69 rfl (lv_at hl 0 rfl) ?_
  refine kb_new (C := RX0) (T := TX0) (N := 6) hx hb hts hi0 tyX0 tyX0_ok hown (hts (.classLink RX2 18 RX0) (List.mem_cons_of_mem _ bm_44)) (hts (.instantiable RX0 6) (List.mem_cons_of_mem _ bm_53)) (hts (.initialized RX0) (List.mem_cons_of_mem _ bm_54)) hK zqhP zqhS (ci := 0) rfl [.int 0, .int 0, .int 0, .int 0, .int 0, .int 0] (fun j zqhj => by rcases (show j = 0 ∨ j = 1 ∨ j = 2 ∨ j = 3 ∨ j = 4 ∨ j = 5 by omega) with rfl | rfl | rfl | rfl | rfl | rfl <;> rfl) (Nat.le_of_ble_eq_true rfl) (Nat.le_of_ble_eq_true rfl) dX2_init_70 (fun zqH1 zqhP1 zqhS1 => ?_)
  replace zqhP := zqhP1
  replace zqhS := zqhS1
  clear zqhP1 zqhS1
  obtain ⟨G30, zqeG⟩ : ∃ q, q = kb_u G28 (z + 9) (.inr (0, [.int 0, .int 0, .int 0, .int 0, .int 0, .int 0])) := ⟨_, rfl⟩
  rw [← zqeG] at zqhP
  have zqhk : ∀ q : Nat, q ≠ z + 9 → G30 q = G28 q := fun q hq => by rw [zqeG]; exact kb_un hq
  replace zqhF : ∀ q : Nat, q ≠ h0 → q < z → G30 q = G q := fun q h1 h2 => (zqhk q (by omega)).trans (zqhF q h1 h2)
  replace zqo5 : G30 (z + 1) = .inl (cy 3, 6, .inr (.inr (.inr (.inr (fun _ => none))))) := (zqhk _ (kb_ne z (show 1 ≠ 9 by decide))).trans zqo5
  replace zqo7 : G30 (z + 2) = .inl (cy 4, 2, .inr (.inr (.inr (.inr (fun _ => none))))) := (zqhk _ (kb_ne z (show 2 ≠ 9 by decide))).trans zqo7
  replace zqo9 : G30 (z + 3) = .inl (cy 1, 60, .inl (fun _ => 0)) := (zqhk _ (kb_ne z (show 3 ≠ 9 by decide))).trans zqo9
  replace zqo11 : G30 (z + 4) = .inl (cy 0, 24, .inl (fun _ => 0)) := (zqhk _ (kb_ne z (show 4 ≠ 9 by decide))).trans zqo11
  replace zqoh : G30 h0 = .inr (2, [.int 0, .int 22, .int 1, .ref z, .int 0, .ref (z + 1), .int 0, .ref (z + 2), .ref (z + 3), .int 0, .ref (z + 4), .int 0]) := (zqhk _ (kb_h1 hz0 9)).trans zqoh
  replace zqu15_0 : G30 (z + 5) = .inr (0, [.int 0, .int 0, .int 0, .int 0, .int 0, .int 0]) := (zqhk _ (kb_ne z (show 5 ≠ 9 by decide))).trans zqu15_0
  replace zqu19_0 : G30 (z + 6) = .inr (0, [.int 0, .int 0, .int 0, .int 0, .int 0, .int 0]) := (zqhk _ (kb_ne z (show 6 ≠ 9 by decide))).trans zqu19_0
  replace zqu23_0 : G30 (z + 7) = .inr (0, [.int 0, .int 0, .int 0, .int 0, .int 0, .int 0]) := (zqhk _ (kb_ne z (show 7 ≠ 9 by decide))).trans zqu23_0
  replace zqu27_0 : G30 (z + 8) = .inr (0, [.int 0, .int 0, .int 0, .int 0, .int 0, .int 0]) := (zqhk _ (kb_ne z (show 8 ≠ 9 by decide))).trans zqu27_0
  replace zqo3 : G30 z = .inl (cy 2, 9, .inr (.inr (.inr (.inr (va_up (va_up (va_up (va_up (fun _ => none) 0 (some (z + 5))) 1 (some (z + 6))) 2 (some (z + 7))) 3 (some (z + 8))))))) := (zqhk _ (kb_ne z (show 0 ≠ 9 by decide))).trans zqo3
  have zqo30 : G30 (z + 9) = .inr (0, [.int 0, .int 0, .int 0, .int 0, .int 0, .int 0]) := by rw [zqeG]; exact kb_us
  clear zqeG zqhk
  replace zqhP : kb_P D b G30 (z + 10) zqH1 := zqhP
  refine lv_dup hx hb dX2_init_73 rfl ?_
  refine kb_callN (rest := [.ref (z + 9), .int 4, .ref z]) ⟨hx, hb, hml, hown, hts⟩ hK zqhP zqhS (c_X0_init l D cy b G30 (z + 10) (z + 9) (by omega) (by omega) zqo30) ⟨va_cnB 0 hts gX2_init_X0_init_n44 rfl rfl rfl (hK.2.2.2.2.2.1) (hts (.initialized RX0) (List.mem_cons_of_mem _ bm_54)) (by decide +kernel) ⟨Nat.le_of_ble_eq_true rfl, Nat.le_of_ble_eq_true rfl⟩, rfl, hts (.instanceMethod yX0_init) (by decide +kernel)⟩ hl.1 (Nat.le_of_ble_eq_true rfl) dX2_init_74 ⟨Nat.le_of_ble_eq_true rfl, Nat.le_of_ble_eq_true rfl⟩ (fun G31 zqH1 zqlocs1 zqw31 zqhP1 zqhS1 => ?_)
  replace zqhP := zqhP1
  replace zqhS := zqhS1
  clear zqhP1 zqhS1
  obtain ⟨zqw31a, zqw31⟩ := zqw31
  replace zqo5 : G31 (z + 1) = .inl (cy 3, 6, .inr (.inr (.inr (.inr (fun _ => none))))) := (zqw31 _ (kb_ne z (show 1 ≠ 9 by decide)) (kb_lt z (show 1 < 10 by decide))).trans zqo5
  replace zqo7 : G31 (z + 2) = .inl (cy 4, 2, .inr (.inr (.inr (.inr (fun _ => none))))) := (zqw31 _ (kb_ne z (show 2 ≠ 9 by decide)) (kb_lt z (show 2 < 10 by decide))).trans zqo7
  replace zqo9 : G31 (z + 3) = .inl (cy 1, 60, .inl (fun _ => 0)) := (zqw31 _ (kb_ne z (show 3 ≠ 9 by decide)) (kb_lt z (show 3 < 10 by decide))).trans zqo9
  replace zqo11 : G31 (z + 4) = .inl (cy 0, 24, .inl (fun _ => 0)) := (zqw31 _ (kb_ne z (show 4 ≠ 9 by decide)) (kb_lt z (show 4 < 10 by decide))).trans zqo11
  replace zqoh : G31 h0 = .inr (2, [.int 0, .int 22, .int 1, .ref z, .int 0, .ref (z + 1), .int 0, .ref (z + 2), .ref (z + 3), .int 0, .ref (z + 4), .int 0]) := (zqw31 _ (kb_h1 hz0 9) (kb_h3 hz0 10)).trans zqoh
  replace zqu15_0 : G31 (z + 5) = .inr (0, [.int 0, .int 0, .int 0, .int 0, .int 0, .int 0]) := (zqw31 _ (kb_ne z (show 5 ≠ 9 by decide)) (kb_lt z (show 5 < 10 by decide))).trans zqu15_0
  replace zqu19_0 : G31 (z + 6) = .inr (0, [.int 0, .int 0, .int 0, .int 0, .int 0, .int 0]) := (zqw31 _ (kb_ne z (show 6 ≠ 9 by decide)) (kb_lt z (show 6 < 10 by decide))).trans zqu19_0
  replace zqu23_0 : G31 (z + 7) = .inr (0, [.int 0, .int 0, .int 0, .int 0, .int 0, .int 0]) := (zqw31 _ (kb_ne z (show 7 ≠ 9 by decide)) (kb_lt z (show 7 < 10 by decide))).trans zqu23_0
  replace zqu27_0 : G31 (z + 8) = .inr (0, [.int 0, .int 0, .int 0, .int 0, .int 0, .int 0]) := (zqw31 _ (kb_ne z (show 8 ≠ 9 by decide)) (kb_lt z (show 8 < 10 by decide))).trans zqu27_0
  replace zqo3 : G31 z = .inl (cy 2, 9, .inr (.inr (.inr (.inr (va_up (va_up (va_up (va_up (fun _ => none) 0 (some (z + 5))) 1 (some (z + 6))) 2 (some (z + 7))) 3 (some (z + 8))))))) := (zqw31 _ (kb_ne z (show 0 ≠ 9 by decide)) (kb_lt z (show 0 < 10 by decide))).trans zqo3
  replace zqhF : ∀ q : Nat, q ≠ h0 → q < z → G31 q = G q := fun q h1 h2 => (zqw31 _ (by omega) (by omega)).trans (zqhF q h1 h2)
  have zqu31_0 := zqw31a
  replace zqhP : kb_P D b G31 (z + 10) zqH1 := zqhP
  have zqk4 : (4 : Int32).toInt = 4 := by decide +kernel
  refine kb_aast hx hb hK zqhP zqhS (by omega) (by omega) 2 0 zqo3 rfl (by omega) (by omega) zqu31_0 rfl (by omega) (by omega) dX2_init_77 (fun j zqH1 zqlocs1 zqej zqhj zqhP1 zqhS1 => ?_)
  replace zqhP := zqhP1
  replace zqhS := zqhS1
  clear zqhP1 zqhS1
  have zqej : j = 4 := by omega
  subst zqej
  obtain ⟨G32, zqeG⟩ : ∃ q, q = kb_u G31 z (.inl (cy 2, 9, .inr (.inr (.inr (.inr (va_up (va_up (va_up (va_up (va_up (fun _ => none) 0 (some (z + 5))) 1 (some (z + 6))) 2 (some (z + 7))) 3 (some (z + 8))) 4 (some (z + 9)))))))) := ⟨_, rfl⟩
  rw [← zqeG] at zqhP
  have zqhk : ∀ q : Nat, q ≠ z → G32 q = G31 q := fun q hq => by rw [zqeG]; exact kb_un hq
  replace zqhF : ∀ q : Nat, q ≠ h0 → q < z → G32 q = G q := fun q h1 h2 => (zqhk q (by omega)).trans (zqhF q h1 h2)
  replace zqo5 : G32 (z + 1) = .inl (cy 3, 6, .inr (.inr (.inr (.inr (fun _ => none))))) := (zqhk _ (kb_ne z (show 1 ≠ 0 by decide))).trans zqo5
  replace zqo7 : G32 (z + 2) = .inl (cy 4, 2, .inr (.inr (.inr (.inr (fun _ => none))))) := (zqhk _ (kb_ne z (show 2 ≠ 0 by decide))).trans zqo7
  replace zqo9 : G32 (z + 3) = .inl (cy 1, 60, .inl (fun _ => 0)) := (zqhk _ (kb_ne z (show 3 ≠ 0 by decide))).trans zqo9
  replace zqo11 : G32 (z + 4) = .inl (cy 0, 24, .inl (fun _ => 0)) := (zqhk _ (kb_ne z (show 4 ≠ 0 by decide))).trans zqo11
  replace zqoh : G32 h0 = .inr (2, [.int 0, .int 22, .int 1, .ref z, .int 0, .ref (z + 1), .int 0, .ref (z + 2), .ref (z + 3), .int 0, .ref (z + 4), .int 0]) := (zqhk _ (kb_h1 hz0 0)).trans zqoh
  replace zqu15_0 : G32 (z + 5) = .inr (0, [.int 0, .int 0, .int 0, .int 0, .int 0, .int 0]) := (zqhk _ (kb_ne z (show 5 ≠ 0 by decide))).trans zqu15_0
  replace zqu19_0 : G32 (z + 6) = .inr (0, [.int 0, .int 0, .int 0, .int 0, .int 0, .int 0]) := (zqhk _ (kb_ne z (show 6 ≠ 0 by decide))).trans zqu19_0
  replace zqu23_0 : G32 (z + 7) = .inr (0, [.int 0, .int 0, .int 0, .int 0, .int 0, .int 0]) := (zqhk _ (kb_ne z (show 7 ≠ 0 by decide))).trans zqu23_0
  replace zqu27_0 : G32 (z + 8) = .inr (0, [.int 0, .int 0, .int 0, .int 0, .int 0, .int 0]) := (zqhk _ (kb_ne z (show 8 ≠ 0 by decide))).trans zqu27_0
  replace zqu31_0 : G32 (z + 9) = .inr (0, [.int 0, .int 0, .int 0, .int 0, .int 0, .int 0]) := (zqhk _ (kb_ne z (show 9 ≠ 0 by decide))).trans zqu31_0
  replace zqo3 : G32 z = .inl (cy 2, 9, .inr (.inr (.inr (.inr (va_up (va_up (va_up (va_up (va_up (fun _ => none) 0 (some (z + 5))) 1 (some (z + 6))) 2 (some (z + 7))) 3 (some (z + 8))) 4 (some (z + 9))))))) := by rw [zqeG]; exact kb_us
  clear zqeG zqhk
  refine lv_iinc (v := 5) (lv' := [(1, .int 5), (0, .ref h0)]) hx hb dX2_init_78 hl (k := 0) rfl (by decide) (by decide) rfl (fun ls hl => ?_)
  refine lv_goto (tgt := 59) hx hb dX2_init_81 (by decide) ?_
  refine lv_iload_n hx hb dX2_init_59 rfl (lv_at hl 0 rfl) ?_
  refine lv_bipush (v := 9) hx hb dX2_init_60 (by decide) ?_
  refine lv_icmp_ge (tgt := 84) hx hb dX2_init_62 (by decide) (fun zqc33 => absurd zqc33 (by decide)) (fun zqc33 => ?_)
  refine lv_aload_n hx hb dX2_init_65 rfl (lv_at hl 1 rfl) ?_
  refine kb_get hx hb hts hi2 hown hK zqhP (by omega) (by omega) zqoh rfl 3 (by decide) (hts (.fieldLink RX2 20 "NoonLaw$Realm" "dreams" "[LNoonLaw$Dream;") (List.mem_cons_of_mem _ bm_45)) rfl rfl dX2_init_66 ?_
  refine lv_iload_n hx hb dX2_init_69 rfl (lv_at hl 0 rfl) ?_
  refine kb_new (C := RX0) (T := TX0) (N := 6) hx hb hts hi0 tyX0 tyX0_ok hown (hts (.classLink RX2 18 RX0) (List.mem_cons_of_mem _ bm_44)) (hts (.instantiable RX0 6) (List.mem_cons_of_mem _ bm_53)) (hts (.initialized RX0) (List.mem_cons_of_mem _ bm_54)) hK zqhP zqhS (ci := 0) rfl [.int 0, .int 0, .int 0, .int 0, .int 0, .int 0] (fun j zqhj => by rcases (show j = 0 ∨ j = 1 ∨ j = 2 ∨ j = 3 ∨ j = 4 ∨ j = 5 by omega) with rfl | rfl | rfl | rfl | rfl | rfl <;> rfl) (Nat.le_of_ble_eq_true rfl) (Nat.le_of_ble_eq_true rfl) dX2_init_70 (fun zqH1 zqhP1 zqhS1 => ?_)
  replace zqhP := zqhP1
  replace zqhS := zqhS1
  clear zqhP1 zqhS1
  obtain ⟨G34, zqeG⟩ : ∃ q, q = kb_u G32 (z + 10) (.inr (0, [.int 0, .int 0, .int 0, .int 0, .int 0, .int 0])) := ⟨_, rfl⟩
  rw [← zqeG] at zqhP
  have zqhk : ∀ q : Nat, q ≠ z + 10 → G34 q = G32 q := fun q hq => by rw [zqeG]; exact kb_un hq
  replace zqhF : ∀ q : Nat, q ≠ h0 → q < z → G34 q = G q := fun q h1 h2 => (zqhk q (by omega)).trans (zqhF q h1 h2)
  replace zqo5 : G34 (z + 1) = .inl (cy 3, 6, .inr (.inr (.inr (.inr (fun _ => none))))) := (zqhk _ (kb_ne z (show 1 ≠ 10 by decide))).trans zqo5
  replace zqo7 : G34 (z + 2) = .inl (cy 4, 2, .inr (.inr (.inr (.inr (fun _ => none))))) := (zqhk _ (kb_ne z (show 2 ≠ 10 by decide))).trans zqo7
  replace zqo9 : G34 (z + 3) = .inl (cy 1, 60, .inl (fun _ => 0)) := (zqhk _ (kb_ne z (show 3 ≠ 10 by decide))).trans zqo9
  replace zqo11 : G34 (z + 4) = .inl (cy 0, 24, .inl (fun _ => 0)) := (zqhk _ (kb_ne z (show 4 ≠ 10 by decide))).trans zqo11
  replace zqoh : G34 h0 = .inr (2, [.int 0, .int 22, .int 1, .ref z, .int 0, .ref (z + 1), .int 0, .ref (z + 2), .ref (z + 3), .int 0, .ref (z + 4), .int 0]) := (zqhk _ (kb_h1 hz0 10)).trans zqoh
  replace zqu15_0 : G34 (z + 5) = .inr (0, [.int 0, .int 0, .int 0, .int 0, .int 0, .int 0]) := (zqhk _ (kb_ne z (show 5 ≠ 10 by decide))).trans zqu15_0
  replace zqu19_0 : G34 (z + 6) = .inr (0, [.int 0, .int 0, .int 0, .int 0, .int 0, .int 0]) := (zqhk _ (kb_ne z (show 6 ≠ 10 by decide))).trans zqu19_0
  replace zqu23_0 : G34 (z + 7) = .inr (0, [.int 0, .int 0, .int 0, .int 0, .int 0, .int 0]) := (zqhk _ (kb_ne z (show 7 ≠ 10 by decide))).trans zqu23_0
  replace zqu27_0 : G34 (z + 8) = .inr (0, [.int 0, .int 0, .int 0, .int 0, .int 0, .int 0]) := (zqhk _ (kb_ne z (show 8 ≠ 10 by decide))).trans zqu27_0
  replace zqu31_0 : G34 (z + 9) = .inr (0, [.int 0, .int 0, .int 0, .int 0, .int 0, .int 0]) := (zqhk _ (kb_ne z (show 9 ≠ 10 by decide))).trans zqu31_0
  replace zqo3 : G34 z = .inl (cy 2, 9, .inr (.inr (.inr (.inr (va_up (va_up (va_up (va_up (va_up (fun _ => none) 0 (some (z + 5))) 1 (some (z + 6))) 2 (some (z + 7))) 3 (some (z + 8))) 4 (some (z + 9))))))) := (zqhk _ (kb_ne z (show 0 ≠ 10 by decide))).trans zqo3
  have zqo34 : G34 (z + 10) = .inr (0, [.int 0, .int 0, .int 0, .int 0, .int 0, .int 0]) := by rw [zqeG]; exact kb_us
  clear zqeG zqhk
  replace zqhP : kb_P D b G34 (z + 11) zqH1 := zqhP
  refine lv_dup hx hb dX2_init_73 rfl ?_
  refine kb_callN (rest := [.ref (z + 10), .int 5, .ref z]) ⟨hx, hb, hml, hown, hts⟩ hK zqhP zqhS (c_X0_init l D cy b G34 (z + 11) (z + 10) (by omega) (by omega) zqo34) ⟨va_cnB 0 hts gX2_init_X0_init_n44 rfl rfl rfl (hK.2.2.2.2.2.1) (hts (.initialized RX0) (List.mem_cons_of_mem _ bm_54)) (by decide +kernel) ⟨Nat.le_of_ble_eq_true rfl, Nat.le_of_ble_eq_true rfl⟩, rfl, hts (.instanceMethod yX0_init) (by decide +kernel)⟩ hl.1 (Nat.le_of_ble_eq_true rfl) dX2_init_74 ⟨Nat.le_of_ble_eq_true rfl, Nat.le_of_ble_eq_true rfl⟩ (fun G35 zqH1 zqlocs1 zqw35 zqhP1 zqhS1 => ?_)
  replace zqhP := zqhP1
  replace zqhS := zqhS1
  clear zqhP1 zqhS1
  obtain ⟨zqw35a, zqw35⟩ := zqw35
  replace zqo5 : G35 (z + 1) = .inl (cy 3, 6, .inr (.inr (.inr (.inr (fun _ => none))))) := (zqw35 _ (kb_ne z (show 1 ≠ 10 by decide)) (kb_lt z (show 1 < 11 by decide))).trans zqo5
  replace zqo7 : G35 (z + 2) = .inl (cy 4, 2, .inr (.inr (.inr (.inr (fun _ => none))))) := (zqw35 _ (kb_ne z (show 2 ≠ 10 by decide)) (kb_lt z (show 2 < 11 by decide))).trans zqo7
  replace zqo9 : G35 (z + 3) = .inl (cy 1, 60, .inl (fun _ => 0)) := (zqw35 _ (kb_ne z (show 3 ≠ 10 by decide)) (kb_lt z (show 3 < 11 by decide))).trans zqo9
  replace zqo11 : G35 (z + 4) = .inl (cy 0, 24, .inl (fun _ => 0)) := (zqw35 _ (kb_ne z (show 4 ≠ 10 by decide)) (kb_lt z (show 4 < 11 by decide))).trans zqo11
  replace zqoh : G35 h0 = .inr (2, [.int 0, .int 22, .int 1, .ref z, .int 0, .ref (z + 1), .int 0, .ref (z + 2), .ref (z + 3), .int 0, .ref (z + 4), .int 0]) := (zqw35 _ (kb_h1 hz0 10) (kb_h3 hz0 11)).trans zqoh
  replace zqu15_0 : G35 (z + 5) = .inr (0, [.int 0, .int 0, .int 0, .int 0, .int 0, .int 0]) := (zqw35 _ (kb_ne z (show 5 ≠ 10 by decide)) (kb_lt z (show 5 < 11 by decide))).trans zqu15_0
  replace zqu19_0 : G35 (z + 6) = .inr (0, [.int 0, .int 0, .int 0, .int 0, .int 0, .int 0]) := (zqw35 _ (kb_ne z (show 6 ≠ 10 by decide)) (kb_lt z (show 6 < 11 by decide))).trans zqu19_0
  replace zqu23_0 : G35 (z + 7) = .inr (0, [.int 0, .int 0, .int 0, .int 0, .int 0, .int 0]) := (zqw35 _ (kb_ne z (show 7 ≠ 10 by decide)) (kb_lt z (show 7 < 11 by decide))).trans zqu23_0
  replace zqu27_0 : G35 (z + 8) = .inr (0, [.int 0, .int 0, .int 0, .int 0, .int 0, .int 0]) := (zqw35 _ (kb_ne z (show 8 ≠ 10 by decide)) (kb_lt z (show 8 < 11 by decide))).trans zqu27_0
  replace zqu31_0 : G35 (z + 9) = .inr (0, [.int 0, .int 0, .int 0, .int 0, .int 0, .int 0]) := (zqw35 _ (kb_ne z (show 9 ≠ 10 by decide)) (kb_lt z (show 9 < 11 by decide))).trans zqu31_0
  replace zqo3 : G35 z = .inl (cy 2, 9, .inr (.inr (.inr (.inr (va_up (va_up (va_up (va_up (va_up (fun _ => none) 0 (some (z + 5))) 1 (some (z + 6))) 2 (some (z + 7))) 3 (some (z + 8))) 4 (some (z + 9))))))) := (zqw35 _ (kb_ne z (show 0 ≠ 10 by decide)) (kb_lt z (show 0 < 11 by decide))).trans zqo3
  replace zqhF : ∀ q : Nat, q ≠ h0 → q < z → G35 q = G q := fun q h1 h2 => (zqw35 _ (by omega) (by omega)).trans (zqhF q h1 h2)
  have zqu35_0 := zqw35a
  replace zqhP : kb_P D b G35 (z + 11) zqH1 := zqhP
  have zqk5 : (5 : Int32).toInt = 5 := by decide +kernel
  refine kb_aast hx hb hK zqhP zqhS (by omega) (by omega) 2 0 zqo3 rfl (by omega) (by omega) zqu35_0 rfl (by omega) (by omega) dX2_init_77 (fun j zqH1 zqlocs1 zqej zqhj zqhP1 zqhS1 => ?_)
  replace zqhP := zqhP1
  replace zqhS := zqhS1
  clear zqhP1 zqhS1
  have zqej : j = 5 := by omega
  subst zqej
  obtain ⟨G36, zqeG⟩ : ∃ q, q = kb_u G35 z (.inl (cy 2, 9, .inr (.inr (.inr (.inr (va_up (va_up (va_up (va_up (va_up (va_up (fun _ => none) 0 (some (z + 5))) 1 (some (z + 6))) 2 (some (z + 7))) 3 (some (z + 8))) 4 (some (z + 9))) 5 (some (z + 10)))))))) := ⟨_, rfl⟩
  rw [← zqeG] at zqhP
  have zqhk : ∀ q : Nat, q ≠ z → G36 q = G35 q := fun q hq => by rw [zqeG]; exact kb_un hq
  replace zqhF : ∀ q : Nat, q ≠ h0 → q < z → G36 q = G q := fun q h1 h2 => (zqhk q (by omega)).trans (zqhF q h1 h2)
  replace zqo5 : G36 (z + 1) = .inl (cy 3, 6, .inr (.inr (.inr (.inr (fun _ => none))))) := (zqhk _ (kb_ne z (show 1 ≠ 0 by decide))).trans zqo5
  replace zqo7 : G36 (z + 2) = .inl (cy 4, 2, .inr (.inr (.inr (.inr (fun _ => none))))) := (zqhk _ (kb_ne z (show 2 ≠ 0 by decide))).trans zqo7
  replace zqo9 : G36 (z + 3) = .inl (cy 1, 60, .inl (fun _ => 0)) := (zqhk _ (kb_ne z (show 3 ≠ 0 by decide))).trans zqo9
  replace zqo11 : G36 (z + 4) = .inl (cy 0, 24, .inl (fun _ => 0)) := (zqhk _ (kb_ne z (show 4 ≠ 0 by decide))).trans zqo11
  replace zqoh : G36 h0 = .inr (2, [.int 0, .int 22, .int 1, .ref z, .int 0, .ref (z + 1), .int 0, .ref (z + 2), .ref (z + 3), .int 0, .ref (z + 4), .int 0]) := (zqhk _ (kb_h1 hz0 0)).trans zqoh
  replace zqu15_0 : G36 (z + 5) = .inr (0, [.int 0, .int 0, .int 0, .int 0, .int 0, .int 0]) := (zqhk _ (kb_ne z (show 5 ≠ 0 by decide))).trans zqu15_0
  replace zqu19_0 : G36 (z + 6) = .inr (0, [.int 0, .int 0, .int 0, .int 0, .int 0, .int 0]) := (zqhk _ (kb_ne z (show 6 ≠ 0 by decide))).trans zqu19_0
  replace zqu23_0 : G36 (z + 7) = .inr (0, [.int 0, .int 0, .int 0, .int 0, .int 0, .int 0]) := (zqhk _ (kb_ne z (show 7 ≠ 0 by decide))).trans zqu23_0
  replace zqu27_0 : G36 (z + 8) = .inr (0, [.int 0, .int 0, .int 0, .int 0, .int 0, .int 0]) := (zqhk _ (kb_ne z (show 8 ≠ 0 by decide))).trans zqu27_0
  replace zqu31_0 : G36 (z + 9) = .inr (0, [.int 0, .int 0, .int 0, .int 0, .int 0, .int 0]) := (zqhk _ (kb_ne z (show 9 ≠ 0 by decide))).trans zqu31_0
  replace zqu35_0 : G36 (z + 10) = .inr (0, [.int 0, .int 0, .int 0, .int 0, .int 0, .int 0]) := (zqhk _ (kb_ne z (show 10 ≠ 0 by decide))).trans zqu35_0
  replace zqo3 : G36 z = .inl (cy 2, 9, .inr (.inr (.inr (.inr (va_up (va_up (va_up (va_up (va_up (va_up (fun _ => none) 0 (some (z + 5))) 1 (some (z + 6))) 2 (some (z + 7))) 3 (some (z + 8))) 4 (some (z + 9))) 5 (some (z + 10))))))) := by rw [zqeG]; exact kb_us
  clear zqeG zqhk
  refine lv_iinc (v := 6) (lv' := [(1, .int 6), (0, .ref h0)]) hx hb dX2_init_78 hl (k := 0) rfl (by decide) (by decide) rfl (fun ls hl => ?_)
  refine lv_goto (tgt := 59) hx hb dX2_init_81 (by decide) ?_
  refine lv_iload_n hx hb dX2_init_59 rfl (lv_at hl 0 rfl) ?_
  refine lv_bipush (v := 9) hx hb dX2_init_60 (by decide) ?_
  refine lv_icmp_ge (tgt := 84) hx hb dX2_init_62 (by decide) (fun zqc37 => absurd zqc37 (by decide)) (fun zqc37 => ?_)
  refine lv_aload_n hx hb dX2_init_65 rfl (lv_at hl 1 rfl) ?_
  refine kb_get hx hb hts hi2 hown hK zqhP (by omega) (by omega) zqoh rfl 3 (by decide) (hts (.fieldLink RX2 20 "NoonLaw$Realm" "dreams" "[LNoonLaw$Dream;") (List.mem_cons_of_mem _ bm_45)) rfl rfl dX2_init_66 ?_
  refine lv_iload_n hx hb dX2_init_69 rfl (lv_at hl 0 rfl) ?_
  refine kb_new (C := RX0) (T := TX0) (N := 6) hx hb hts hi0 tyX0 tyX0_ok hown (hts (.classLink RX2 18 RX0) (List.mem_cons_of_mem _ bm_44)) (hts (.instantiable RX0 6) (List.mem_cons_of_mem _ bm_53)) (hts (.initialized RX0) (List.mem_cons_of_mem _ bm_54)) hK zqhP zqhS (ci := 0) rfl [.int 0, .int 0, .int 0, .int 0, .int 0, .int 0] (fun j zqhj => by rcases (show j = 0 ∨ j = 1 ∨ j = 2 ∨ j = 3 ∨ j = 4 ∨ j = 5 by omega) with rfl | rfl | rfl | rfl | rfl | rfl <;> rfl) (Nat.le_of_ble_eq_true rfl) (Nat.le_of_ble_eq_true rfl) dX2_init_70 (fun zqH1 zqhP1 zqhS1 => ?_)
  replace zqhP := zqhP1
  replace zqhS := zqhS1
  clear zqhP1 zqhS1
  obtain ⟨G38, zqeG⟩ : ∃ q, q = kb_u G36 (z + 11) (.inr (0, [.int 0, .int 0, .int 0, .int 0, .int 0, .int 0])) := ⟨_, rfl⟩
  rw [← zqeG] at zqhP
  have zqhk : ∀ q : Nat, q ≠ z + 11 → G38 q = G36 q := fun q hq => by rw [zqeG]; exact kb_un hq
  replace zqhF : ∀ q : Nat, q ≠ h0 → q < z → G38 q = G q := fun q h1 h2 => (zqhk q (by omega)).trans (zqhF q h1 h2)
  replace zqo5 : G38 (z + 1) = .inl (cy 3, 6, .inr (.inr (.inr (.inr (fun _ => none))))) := (zqhk _ (kb_ne z (show 1 ≠ 11 by decide))).trans zqo5
  replace zqo7 : G38 (z + 2) = .inl (cy 4, 2, .inr (.inr (.inr (.inr (fun _ => none))))) := (zqhk _ (kb_ne z (show 2 ≠ 11 by decide))).trans zqo7
  replace zqo9 : G38 (z + 3) = .inl (cy 1, 60, .inl (fun _ => 0)) := (zqhk _ (kb_ne z (show 3 ≠ 11 by decide))).trans zqo9
  replace zqo11 : G38 (z + 4) = .inl (cy 0, 24, .inl (fun _ => 0)) := (zqhk _ (kb_ne z (show 4 ≠ 11 by decide))).trans zqo11
  replace zqoh : G38 h0 = .inr (2, [.int 0, .int 22, .int 1, .ref z, .int 0, .ref (z + 1), .int 0, .ref (z + 2), .ref (z + 3), .int 0, .ref (z + 4), .int 0]) := (zqhk _ (kb_h1 hz0 11)).trans zqoh
  replace zqu15_0 : G38 (z + 5) = .inr (0, [.int 0, .int 0, .int 0, .int 0, .int 0, .int 0]) := (zqhk _ (kb_ne z (show 5 ≠ 11 by decide))).trans zqu15_0
  replace zqu19_0 : G38 (z + 6) = .inr (0, [.int 0, .int 0, .int 0, .int 0, .int 0, .int 0]) := (zqhk _ (kb_ne z (show 6 ≠ 11 by decide))).trans zqu19_0
  replace zqu23_0 : G38 (z + 7) = .inr (0, [.int 0, .int 0, .int 0, .int 0, .int 0, .int 0]) := (zqhk _ (kb_ne z (show 7 ≠ 11 by decide))).trans zqu23_0
  replace zqu27_0 : G38 (z + 8) = .inr (0, [.int 0, .int 0, .int 0, .int 0, .int 0, .int 0]) := (zqhk _ (kb_ne z (show 8 ≠ 11 by decide))).trans zqu27_0
  replace zqu31_0 : G38 (z + 9) = .inr (0, [.int 0, .int 0, .int 0, .int 0, .int 0, .int 0]) := (zqhk _ (kb_ne z (show 9 ≠ 11 by decide))).trans zqu31_0
  replace zqu35_0 : G38 (z + 10) = .inr (0, [.int 0, .int 0, .int 0, .int 0, .int 0, .int 0]) := (zqhk _ (kb_ne z (show 10 ≠ 11 by decide))).trans zqu35_0
  replace zqo3 : G38 z = .inl (cy 2, 9, .inr (.inr (.inr (.inr (va_up (va_up (va_up (va_up (va_up (va_up (fun _ => none) 0 (some (z + 5))) 1 (some (z + 6))) 2 (some (z + 7))) 3 (some (z + 8))) 4 (some (z + 9))) 5 (some (z + 10))))))) := (zqhk _ (kb_ne z (show 0 ≠ 11 by decide))).trans zqo3
  have zqo38 : G38 (z + 11) = .inr (0, [.int 0, .int 0, .int 0, .int 0, .int 0, .int 0]) := by rw [zqeG]; exact kb_us
  clear zqeG zqhk
  replace zqhP : kb_P D b G38 (z + 12) zqH1 := zqhP
  refine lv_dup hx hb dX2_init_73 rfl ?_
  refine kb_callN (rest := [.ref (z + 11), .int 6, .ref z]) ⟨hx, hb, hml, hown, hts⟩ hK zqhP zqhS (c_X0_init l D cy b G38 (z + 12) (z + 11) (by omega) (by omega) zqo38) ⟨va_cnB 0 hts gX2_init_X0_init_n44 rfl rfl rfl (hK.2.2.2.2.2.1) (hts (.initialized RX0) (List.mem_cons_of_mem _ bm_54)) (by decide +kernel) ⟨Nat.le_of_ble_eq_true rfl, Nat.le_of_ble_eq_true rfl⟩, rfl, hts (.instanceMethod yX0_init) (by decide +kernel)⟩ hl.1 (Nat.le_of_ble_eq_true rfl) dX2_init_74 ⟨Nat.le_of_ble_eq_true rfl, Nat.le_of_ble_eq_true rfl⟩ (fun G39 zqH1 zqlocs1 zqw39 zqhP1 zqhS1 => ?_)
  replace zqhP := zqhP1
  replace zqhS := zqhS1
  clear zqhP1 zqhS1
  obtain ⟨zqw39a, zqw39⟩ := zqw39
  replace zqo5 : G39 (z + 1) = .inl (cy 3, 6, .inr (.inr (.inr (.inr (fun _ => none))))) := (zqw39 _ (kb_ne z (show 1 ≠ 11 by decide)) (kb_lt z (show 1 < 12 by decide))).trans zqo5
  replace zqo7 : G39 (z + 2) = .inl (cy 4, 2, .inr (.inr (.inr (.inr (fun _ => none))))) := (zqw39 _ (kb_ne z (show 2 ≠ 11 by decide)) (kb_lt z (show 2 < 12 by decide))).trans zqo7
  replace zqo9 : G39 (z + 3) = .inl (cy 1, 60, .inl (fun _ => 0)) := (zqw39 _ (kb_ne z (show 3 ≠ 11 by decide)) (kb_lt z (show 3 < 12 by decide))).trans zqo9
  replace zqo11 : G39 (z + 4) = .inl (cy 0, 24, .inl (fun _ => 0)) := (zqw39 _ (kb_ne z (show 4 ≠ 11 by decide)) (kb_lt z (show 4 < 12 by decide))).trans zqo11
  replace zqoh : G39 h0 = .inr (2, [.int 0, .int 22, .int 1, .ref z, .int 0, .ref (z + 1), .int 0, .ref (z + 2), .ref (z + 3), .int 0, .ref (z + 4), .int 0]) := (zqw39 _ (kb_h1 hz0 11) (kb_h3 hz0 12)).trans zqoh
  replace zqu15_0 : G39 (z + 5) = .inr (0, [.int 0, .int 0, .int 0, .int 0, .int 0, .int 0]) := (zqw39 _ (kb_ne z (show 5 ≠ 11 by decide)) (kb_lt z (show 5 < 12 by decide))).trans zqu15_0
  replace zqu19_0 : G39 (z + 6) = .inr (0, [.int 0, .int 0, .int 0, .int 0, .int 0, .int 0]) := (zqw39 _ (kb_ne z (show 6 ≠ 11 by decide)) (kb_lt z (show 6 < 12 by decide))).trans zqu19_0
  replace zqu23_0 : G39 (z + 7) = .inr (0, [.int 0, .int 0, .int 0, .int 0, .int 0, .int 0]) := (zqw39 _ (kb_ne z (show 7 ≠ 11 by decide)) (kb_lt z (show 7 < 12 by decide))).trans zqu23_0
  replace zqu27_0 : G39 (z + 8) = .inr (0, [.int 0, .int 0, .int 0, .int 0, .int 0, .int 0]) := (zqw39 _ (kb_ne z (show 8 ≠ 11 by decide)) (kb_lt z (show 8 < 12 by decide))).trans zqu27_0
  replace zqu31_0 : G39 (z + 9) = .inr (0, [.int 0, .int 0, .int 0, .int 0, .int 0, .int 0]) := (zqw39 _ (kb_ne z (show 9 ≠ 11 by decide)) (kb_lt z (show 9 < 12 by decide))).trans zqu31_0
  replace zqu35_0 : G39 (z + 10) = .inr (0, [.int 0, .int 0, .int 0, .int 0, .int 0, .int 0]) := (zqw39 _ (kb_ne z (show 10 ≠ 11 by decide)) (kb_lt z (show 10 < 12 by decide))).trans zqu35_0
  replace zqo3 : G39 z = .inl (cy 2, 9, .inr (.inr (.inr (.inr (va_up (va_up (va_up (va_up (va_up (va_up (fun _ => none) 0 (some (z + 5))) 1 (some (z + 6))) 2 (some (z + 7))) 3 (some (z + 8))) 4 (some (z + 9))) 5 (some (z + 10))))))) := (zqw39 _ (kb_ne z (show 0 ≠ 11 by decide)) (kb_lt z (show 0 < 12 by decide))).trans zqo3
  replace zqhF : ∀ q : Nat, q ≠ h0 → q < z → G39 q = G q := fun q h1 h2 => (zqw39 _ (by omega) (by omega)).trans (zqhF q h1 h2)
  have zqu39_0 := zqw39a
  replace zqhP : kb_P D b G39 (z + 12) zqH1 := zqhP
  have zqk6 : (6 : Int32).toInt = 6 := by decide +kernel
  refine kb_aast hx hb hK zqhP zqhS (by omega) (by omega) 2 0 zqo3 rfl (by omega) (by omega) zqu39_0 rfl (by omega) (by omega) dX2_init_77 (fun j zqH1 zqlocs1 zqej zqhj zqhP1 zqhS1 => ?_)
  replace zqhP := zqhP1
  replace zqhS := zqhS1
  clear zqhP1 zqhS1
  have zqej : j = 6 := by omega
  subst zqej
  obtain ⟨G40, zqeG⟩ : ∃ q, q = kb_u G39 z (.inl (cy 2, 9, .inr (.inr (.inr (.inr (va_up (va_up (va_up (va_up (va_up (va_up (va_up (fun _ => none) 0 (some (z + 5))) 1 (some (z + 6))) 2 (some (z + 7))) 3 (some (z + 8))) 4 (some (z + 9))) 5 (some (z + 10))) 6 (some (z + 11)))))))) := ⟨_, rfl⟩
  rw [← zqeG] at zqhP
  have zqhk : ∀ q : Nat, q ≠ z → G40 q = G39 q := fun q hq => by rw [zqeG]; exact kb_un hq
  replace zqhF : ∀ q : Nat, q ≠ h0 → q < z → G40 q = G q := fun q h1 h2 => (zqhk q (by omega)).trans (zqhF q h1 h2)
  replace zqo5 : G40 (z + 1) = .inl (cy 3, 6, .inr (.inr (.inr (.inr (fun _ => none))))) := (zqhk _ (kb_ne z (show 1 ≠ 0 by decide))).trans zqo5
  replace zqo7 : G40 (z + 2) = .inl (cy 4, 2, .inr (.inr (.inr (.inr (fun _ => none))))) := (zqhk _ (kb_ne z (show 2 ≠ 0 by decide))).trans zqo7
  replace zqo9 : G40 (z + 3) = .inl (cy 1, 60, .inl (fun _ => 0)) := (zqhk _ (kb_ne z (show 3 ≠ 0 by decide))).trans zqo9
  replace zqo11 : G40 (z + 4) = .inl (cy 0, 24, .inl (fun _ => 0)) := (zqhk _ (kb_ne z (show 4 ≠ 0 by decide))).trans zqo11
  replace zqoh : G40 h0 = .inr (2, [.int 0, .int 22, .int 1, .ref z, .int 0, .ref (z + 1), .int 0, .ref (z + 2), .ref (z + 3), .int 0, .ref (z + 4), .int 0]) := (zqhk _ (kb_h1 hz0 0)).trans zqoh
  replace zqu15_0 : G40 (z + 5) = .inr (0, [.int 0, .int 0, .int 0, .int 0, .int 0, .int 0]) := (zqhk _ (kb_ne z (show 5 ≠ 0 by decide))).trans zqu15_0
  replace zqu19_0 : G40 (z + 6) = .inr (0, [.int 0, .int 0, .int 0, .int 0, .int 0, .int 0]) := (zqhk _ (kb_ne z (show 6 ≠ 0 by decide))).trans zqu19_0
  replace zqu23_0 : G40 (z + 7) = .inr (0, [.int 0, .int 0, .int 0, .int 0, .int 0, .int 0]) := (zqhk _ (kb_ne z (show 7 ≠ 0 by decide))).trans zqu23_0
  replace zqu27_0 : G40 (z + 8) = .inr (0, [.int 0, .int 0, .int 0, .int 0, .int 0, .int 0]) := (zqhk _ (kb_ne z (show 8 ≠ 0 by decide))).trans zqu27_0
  replace zqu31_0 : G40 (z + 9) = .inr (0, [.int 0, .int 0, .int 0, .int 0, .int 0, .int 0]) := (zqhk _ (kb_ne z (show 9 ≠ 0 by decide))).trans zqu31_0
  replace zqu35_0 : G40 (z + 10) = .inr (0, [.int 0, .int 0, .int 0, .int 0, .int 0, .int 0]) := (zqhk _ (kb_ne z (show 10 ≠ 0 by decide))).trans zqu35_0
  replace zqu39_0 : G40 (z + 11) = .inr (0, [.int 0, .int 0, .int 0, .int 0, .int 0, .int 0]) := (zqhk _ (kb_ne z (show 11 ≠ 0 by decide))).trans zqu39_0
  replace zqo3 : G40 z = .inl (cy 2, 9, .inr (.inr (.inr (.inr (va_up (va_up (va_up (va_up (va_up (va_up (va_up (fun _ => none) 0 (some (z + 5))) 1 (some (z + 6))) 2 (some (z + 7))) 3 (some (z + 8))) 4 (some (z + 9))) 5 (some (z + 10))) 6 (some (z + 11))))))) := by rw [zqeG]; exact kb_us
  clear zqeG zqhk
  refine lv_iinc (v := 7) (lv' := [(1, .int 7), (0, .ref h0)]) hx hb dX2_init_78 hl (k := 0) rfl (by decide) (by decide) rfl (fun ls hl => ?_)
  refine lv_goto (tgt := 59) hx hb dX2_init_81 (by decide) ?_
  refine lv_iload_n hx hb dX2_init_59 rfl (lv_at hl 0 rfl) ?_
  refine lv_bipush (v := 9) hx hb dX2_init_60 (by decide) ?_
  refine lv_icmp_ge (tgt := 84) hx hb dX2_init_62 (by decide) (fun zqc41 => absurd zqc41 (by decide)) (fun zqc41 => ?_)
  refine lv_aload_n hx hb dX2_init_65 rfl (lv_at hl 1 rfl) ?_
  refine kb_get hx hb hts hi2 hown hK zqhP (by omega) (by omega) zqoh rfl 3 (by decide) (hts (.fieldLink RX2 20 "NoonLaw$Realm" "dreams" "[LNoonLaw$Dream;") (List.mem_cons_of_mem _ bm_45)) rfl rfl dX2_init_66 ?_
  refine lv_iload_n hx hb dX2_init_69 rfl (lv_at hl 0 rfl) ?_
  refine kb_new (C := RX0) (T := TX0) (N := 6) hx hb hts hi0 tyX0 tyX0_ok hown (hts (.classLink RX2 18 RX0) (List.mem_cons_of_mem _ bm_44)) (hts (.instantiable RX0 6) (List.mem_cons_of_mem _ bm_53)) (hts (.initialized RX0) (List.mem_cons_of_mem _ bm_54)) hK zqhP zqhS (ci := 0) rfl [.int 0, .int 0, .int 0, .int 0, .int 0, .int 0] (fun j zqhj => by rcases (show j = 0 ∨ j = 1 ∨ j = 2 ∨ j = 3 ∨ j = 4 ∨ j = 5 by omega) with rfl | rfl | rfl | rfl | rfl | rfl <;> rfl) (Nat.le_of_ble_eq_true rfl) (Nat.le_of_ble_eq_true rfl) dX2_init_70 (fun zqH1 zqhP1 zqhS1 => ?_)
  replace zqhP := zqhP1
  replace zqhS := zqhS1
  clear zqhP1 zqhS1
  obtain ⟨G42, zqeG⟩ : ∃ q, q = kb_u G40 (z + 12) (.inr (0, [.int 0, .int 0, .int 0, .int 0, .int 0, .int 0])) := ⟨_, rfl⟩
  rw [← zqeG] at zqhP
  have zqhk : ∀ q : Nat, q ≠ z + 12 → G42 q = G40 q := fun q hq => by rw [zqeG]; exact kb_un hq
  replace zqhF : ∀ q : Nat, q ≠ h0 → q < z → G42 q = G q := fun q h1 h2 => (zqhk q (by omega)).trans (zqhF q h1 h2)
  replace zqo5 : G42 (z + 1) = .inl (cy 3, 6, .inr (.inr (.inr (.inr (fun _ => none))))) := (zqhk _ (kb_ne z (show 1 ≠ 12 by decide))).trans zqo5
  replace zqo7 : G42 (z + 2) = .inl (cy 4, 2, .inr (.inr (.inr (.inr (fun _ => none))))) := (zqhk _ (kb_ne z (show 2 ≠ 12 by decide))).trans zqo7
  replace zqo9 : G42 (z + 3) = .inl (cy 1, 60, .inl (fun _ => 0)) := (zqhk _ (kb_ne z (show 3 ≠ 12 by decide))).trans zqo9
  replace zqo11 : G42 (z + 4) = .inl (cy 0, 24, .inl (fun _ => 0)) := (zqhk _ (kb_ne z (show 4 ≠ 12 by decide))).trans zqo11
  replace zqoh : G42 h0 = .inr (2, [.int 0, .int 22, .int 1, .ref z, .int 0, .ref (z + 1), .int 0, .ref (z + 2), .ref (z + 3), .int 0, .ref (z + 4), .int 0]) := (zqhk _ (kb_h1 hz0 12)).trans zqoh
  replace zqu15_0 : G42 (z + 5) = .inr (0, [.int 0, .int 0, .int 0, .int 0, .int 0, .int 0]) := (zqhk _ (kb_ne z (show 5 ≠ 12 by decide))).trans zqu15_0
  replace zqu19_0 : G42 (z + 6) = .inr (0, [.int 0, .int 0, .int 0, .int 0, .int 0, .int 0]) := (zqhk _ (kb_ne z (show 6 ≠ 12 by decide))).trans zqu19_0
  replace zqu23_0 : G42 (z + 7) = .inr (0, [.int 0, .int 0, .int 0, .int 0, .int 0, .int 0]) := (zqhk _ (kb_ne z (show 7 ≠ 12 by decide))).trans zqu23_0
  replace zqu27_0 : G42 (z + 8) = .inr (0, [.int 0, .int 0, .int 0, .int 0, .int 0, .int 0]) := (zqhk _ (kb_ne z (show 8 ≠ 12 by decide))).trans zqu27_0
  replace zqu31_0 : G42 (z + 9) = .inr (0, [.int 0, .int 0, .int 0, .int 0, .int 0, .int 0]) := (zqhk _ (kb_ne z (show 9 ≠ 12 by decide))).trans zqu31_0
  replace zqu35_0 : G42 (z + 10) = .inr (0, [.int 0, .int 0, .int 0, .int 0, .int 0, .int 0]) := (zqhk _ (kb_ne z (show 10 ≠ 12 by decide))).trans zqu35_0
  replace zqu39_0 : G42 (z + 11) = .inr (0, [.int 0, .int 0, .int 0, .int 0, .int 0, .int 0]) := (zqhk _ (kb_ne z (show 11 ≠ 12 by decide))).trans zqu39_0
  replace zqo3 : G42 z = .inl (cy 2, 9, .inr (.inr (.inr (.inr (va_up (va_up (va_up (va_up (va_up (va_up (va_up (fun _ => none) 0 (some (z + 5))) 1 (some (z + 6))) 2 (some (z + 7))) 3 (some (z + 8))) 4 (some (z + 9))) 5 (some (z + 10))) 6 (some (z + 11))))))) := (zqhk _ (kb_ne z (show 0 ≠ 12 by decide))).trans zqo3
  have zqo42 : G42 (z + 12) = .inr (0, [.int 0, .int 0, .int 0, .int 0, .int 0, .int 0]) := by rw [zqeG]; exact kb_us
  clear zqeG zqhk
  replace zqhP : kb_P D b G42 (z + 13) zqH1 := zqhP
  refine lv_dup hx hb dX2_init_73 rfl ?_
  refine kb_callN (rest := [.ref (z + 12), .int 7, .ref z]) ⟨hx, hb, hml, hown, hts⟩ hK zqhP zqhS (c_X0_init l D cy b G42 (z + 13) (z + 12) (by omega) (by omega) zqo42) ⟨va_cnB 0 hts gX2_init_X0_init_n44 rfl rfl rfl (hK.2.2.2.2.2.1) (hts (.initialized RX0) (List.mem_cons_of_mem _ bm_54)) (by decide +kernel) ⟨Nat.le_of_ble_eq_true rfl, Nat.le_of_ble_eq_true rfl⟩, rfl, hts (.instanceMethod yX0_init) (by decide +kernel)⟩ hl.1 (Nat.le_of_ble_eq_true rfl) dX2_init_74 ⟨Nat.le_of_ble_eq_true rfl, Nat.le_of_ble_eq_true rfl⟩ (fun G43 zqH1 zqlocs1 zqw43 zqhP1 zqhS1 => ?_)
  replace zqhP := zqhP1
  replace zqhS := zqhS1
  clear zqhP1 zqhS1
  obtain ⟨zqw43a, zqw43⟩ := zqw43
  replace zqo5 : G43 (z + 1) = .inl (cy 3, 6, .inr (.inr (.inr (.inr (fun _ => none))))) := (zqw43 _ (kb_ne z (show 1 ≠ 12 by decide)) (kb_lt z (show 1 < 13 by decide))).trans zqo5
  replace zqo7 : G43 (z + 2) = .inl (cy 4, 2, .inr (.inr (.inr (.inr (fun _ => none))))) := (zqw43 _ (kb_ne z (show 2 ≠ 12 by decide)) (kb_lt z (show 2 < 13 by decide))).trans zqo7
  replace zqo9 : G43 (z + 3) = .inl (cy 1, 60, .inl (fun _ => 0)) := (zqw43 _ (kb_ne z (show 3 ≠ 12 by decide)) (kb_lt z (show 3 < 13 by decide))).trans zqo9
  replace zqo11 : G43 (z + 4) = .inl (cy 0, 24, .inl (fun _ => 0)) := (zqw43 _ (kb_ne z (show 4 ≠ 12 by decide)) (kb_lt z (show 4 < 13 by decide))).trans zqo11
  replace zqoh : G43 h0 = .inr (2, [.int 0, .int 22, .int 1, .ref z, .int 0, .ref (z + 1), .int 0, .ref (z + 2), .ref (z + 3), .int 0, .ref (z + 4), .int 0]) := (zqw43 _ (kb_h1 hz0 12) (kb_h3 hz0 13)).trans zqoh
  replace zqu15_0 : G43 (z + 5) = .inr (0, [.int 0, .int 0, .int 0, .int 0, .int 0, .int 0]) := (zqw43 _ (kb_ne z (show 5 ≠ 12 by decide)) (kb_lt z (show 5 < 13 by decide))).trans zqu15_0
  replace zqu19_0 : G43 (z + 6) = .inr (0, [.int 0, .int 0, .int 0, .int 0, .int 0, .int 0]) := (zqw43 _ (kb_ne z (show 6 ≠ 12 by decide)) (kb_lt z (show 6 < 13 by decide))).trans zqu19_0
  replace zqu23_0 : G43 (z + 7) = .inr (0, [.int 0, .int 0, .int 0, .int 0, .int 0, .int 0]) := (zqw43 _ (kb_ne z (show 7 ≠ 12 by decide)) (kb_lt z (show 7 < 13 by decide))).trans zqu23_0
  replace zqu27_0 : G43 (z + 8) = .inr (0, [.int 0, .int 0, .int 0, .int 0, .int 0, .int 0]) := (zqw43 _ (kb_ne z (show 8 ≠ 12 by decide)) (kb_lt z (show 8 < 13 by decide))).trans zqu27_0
  replace zqu31_0 : G43 (z + 9) = .inr (0, [.int 0, .int 0, .int 0, .int 0, .int 0, .int 0]) := (zqw43 _ (kb_ne z (show 9 ≠ 12 by decide)) (kb_lt z (show 9 < 13 by decide))).trans zqu31_0
  replace zqu35_0 : G43 (z + 10) = .inr (0, [.int 0, .int 0, .int 0, .int 0, .int 0, .int 0]) := (zqw43 _ (kb_ne z (show 10 ≠ 12 by decide)) (kb_lt z (show 10 < 13 by decide))).trans zqu35_0
  replace zqu39_0 : G43 (z + 11) = .inr (0, [.int 0, .int 0, .int 0, .int 0, .int 0, .int 0]) := (zqw43 _ (kb_ne z (show 11 ≠ 12 by decide)) (kb_lt z (show 11 < 13 by decide))).trans zqu39_0
  replace zqo3 : G43 z = .inl (cy 2, 9, .inr (.inr (.inr (.inr (va_up (va_up (va_up (va_up (va_up (va_up (va_up (fun _ => none) 0 (some (z + 5))) 1 (some (z + 6))) 2 (some (z + 7))) 3 (some (z + 8))) 4 (some (z + 9))) 5 (some (z + 10))) 6 (some (z + 11))))))) := (zqw43 _ (kb_ne z (show 0 ≠ 12 by decide)) (kb_lt z (show 0 < 13 by decide))).trans zqo3
  replace zqhF : ∀ q : Nat, q ≠ h0 → q < z → G43 q = G q := fun q h1 h2 => (zqw43 _ (by omega) (by omega)).trans (zqhF q h1 h2)
  have zqu43_0 := zqw43a
  replace zqhP : kb_P D b G43 (z + 13) zqH1 := zqhP
  have zqk7 : (7 : Int32).toInt = 7 := by decide +kernel
  refine kb_aast hx hb hK zqhP zqhS (by omega) (by omega) 2 0 zqo3 rfl (by omega) (by omega) zqu43_0 rfl (by omega) (by omega) dX2_init_77 (fun j zqH1 zqlocs1 zqej zqhj zqhP1 zqhS1 => ?_)
  replace zqhP := zqhP1
  replace zqhS := zqhS1
  clear zqhP1 zqhS1
  have zqej : j = 7 := by omega
  subst zqej
  obtain ⟨G44, zqeG⟩ : ∃ q, q = kb_u G43 z (.inl (cy 2, 9, .inr (.inr (.inr (.inr (va_up (va_up (va_up (va_up (va_up (va_up (va_up (va_up (fun _ => none) 0 (some (z + 5))) 1 (some (z + 6))) 2 (some (z + 7))) 3 (some (z + 8))) 4 (some (z + 9))) 5 (some (z + 10))) 6 (some (z + 11))) 7 (some (z + 12)))))))) := ⟨_, rfl⟩
  rw [← zqeG] at zqhP
  have zqhk : ∀ q : Nat, q ≠ z → G44 q = G43 q := fun q hq => by rw [zqeG]; exact kb_un hq
  replace zqhF : ∀ q : Nat, q ≠ h0 → q < z → G44 q = G q := fun q h1 h2 => (zqhk q (by omega)).trans (zqhF q h1 h2)
  replace zqo5 : G44 (z + 1) = .inl (cy 3, 6, .inr (.inr (.inr (.inr (fun _ => none))))) := (zqhk _ (kb_ne z (show 1 ≠ 0 by decide))).trans zqo5
  replace zqo7 : G44 (z + 2) = .inl (cy 4, 2, .inr (.inr (.inr (.inr (fun _ => none))))) := (zqhk _ (kb_ne z (show 2 ≠ 0 by decide))).trans zqo7
  replace zqo9 : G44 (z + 3) = .inl (cy 1, 60, .inl (fun _ => 0)) := (zqhk _ (kb_ne z (show 3 ≠ 0 by decide))).trans zqo9
  replace zqo11 : G44 (z + 4) = .inl (cy 0, 24, .inl (fun _ => 0)) := (zqhk _ (kb_ne z (show 4 ≠ 0 by decide))).trans zqo11
  replace zqoh : G44 h0 = .inr (2, [.int 0, .int 22, .int 1, .ref z, .int 0, .ref (z + 1), .int 0, .ref (z + 2), .ref (z + 3), .int 0, .ref (z + 4), .int 0]) := (zqhk _ (kb_h1 hz0 0)).trans zqoh
  replace zqu15_0 : G44 (z + 5) = .inr (0, [.int 0, .int 0, .int 0, .int 0, .int 0, .int 0]) := (zqhk _ (kb_ne z (show 5 ≠ 0 by decide))).trans zqu15_0
  replace zqu19_0 : G44 (z + 6) = .inr (0, [.int 0, .int 0, .int 0, .int 0, .int 0, .int 0]) := (zqhk _ (kb_ne z (show 6 ≠ 0 by decide))).trans zqu19_0
  replace zqu23_0 : G44 (z + 7) = .inr (0, [.int 0, .int 0, .int 0, .int 0, .int 0, .int 0]) := (zqhk _ (kb_ne z (show 7 ≠ 0 by decide))).trans zqu23_0
  replace zqu27_0 : G44 (z + 8) = .inr (0, [.int 0, .int 0, .int 0, .int 0, .int 0, .int 0]) := (zqhk _ (kb_ne z (show 8 ≠ 0 by decide))).trans zqu27_0
  replace zqu31_0 : G44 (z + 9) = .inr (0, [.int 0, .int 0, .int 0, .int 0, .int 0, .int 0]) := (zqhk _ (kb_ne z (show 9 ≠ 0 by decide))).trans zqu31_0
  replace zqu35_0 : G44 (z + 10) = .inr (0, [.int 0, .int 0, .int 0, .int 0, .int 0, .int 0]) := (zqhk _ (kb_ne z (show 10 ≠ 0 by decide))).trans zqu35_0
  replace zqu39_0 : G44 (z + 11) = .inr (0, [.int 0, .int 0, .int 0, .int 0, .int 0, .int 0]) := (zqhk _ (kb_ne z (show 11 ≠ 0 by decide))).trans zqu39_0
  replace zqu43_0 : G44 (z + 12) = .inr (0, [.int 0, .int 0, .int 0, .int 0, .int 0, .int 0]) := (zqhk _ (kb_ne z (show 12 ≠ 0 by decide))).trans zqu43_0
  replace zqo3 : G44 z = .inl (cy 2, 9, .inr (.inr (.inr (.inr (va_up (va_up (va_up (va_up (va_up (va_up (va_up (va_up (fun _ => none) 0 (some (z + 5))) 1 (some (z + 6))) 2 (some (z + 7))) 3 (some (z + 8))) 4 (some (z + 9))) 5 (some (z + 10))) 6 (some (z + 11))) 7 (some (z + 12))))))) := by rw [zqeG]; exact kb_us
  clear zqeG zqhk
  refine lv_iinc (v := 8) (lv' := [(1, .int 8), (0, .ref h0)]) hx hb dX2_init_78 hl (k := 0) rfl (by decide) (by decide) rfl (fun ls hl => ?_)
  refine lv_goto (tgt := 59) hx hb dX2_init_81 (by decide) ?_
  refine lv_iload_n hx hb dX2_init_59 rfl (lv_at hl 0 rfl) ?_
  refine lv_bipush (v := 9) hx hb dX2_init_60 (by decide) ?_
  refine lv_icmp_ge (tgt := 84) hx hb dX2_init_62 (by decide) (fun zqc45 => absurd zqc45 (by decide)) (fun zqc45 => ?_)
  refine lv_aload_n hx hb dX2_init_65 rfl (lv_at hl 1 rfl) ?_
  refine kb_get hx hb hts hi2 hown hK zqhP (by omega) (by omega) zqoh rfl 3 (by decide) (hts (.fieldLink RX2 20 "NoonLaw$Realm" "dreams" "[LNoonLaw$Dream;") (List.mem_cons_of_mem _ bm_45)) rfl rfl dX2_init_66 ?_
  refine lv_iload_n hx hb dX2_init_69 rfl (lv_at hl 0 rfl) ?_
  refine kb_new (C := RX0) (T := TX0) (N := 6) hx hb hts hi0 tyX0 tyX0_ok hown (hts (.classLink RX2 18 RX0) (List.mem_cons_of_mem _ bm_44)) (hts (.instantiable RX0 6) (List.mem_cons_of_mem _ bm_53)) (hts (.initialized RX0) (List.mem_cons_of_mem _ bm_54)) hK zqhP zqhS (ci := 0) rfl [.int 0, .int 0, .int 0, .int 0, .int 0, .int 0] (fun j zqhj => by rcases (show j = 0 ∨ j = 1 ∨ j = 2 ∨ j = 3 ∨ j = 4 ∨ j = 5 by omega) with rfl | rfl | rfl | rfl | rfl | rfl <;> rfl) (Nat.le_of_ble_eq_true rfl) (Nat.le_of_ble_eq_true rfl) dX2_init_70 (fun zqH1 zqhP1 zqhS1 => ?_)
  replace zqhP := zqhP1
  replace zqhS := zqhS1
  clear zqhP1 zqhS1
  obtain ⟨G46, zqeG⟩ : ∃ q, q = kb_u G44 (z + 13) (.inr (0, [.int 0, .int 0, .int 0, .int 0, .int 0, .int 0])) := ⟨_, rfl⟩
  rw [← zqeG] at zqhP
  have zqhk : ∀ q : Nat, q ≠ z + 13 → G46 q = G44 q := fun q hq => by rw [zqeG]; exact kb_un hq
  replace zqhF : ∀ q : Nat, q ≠ h0 → q < z → G46 q = G q := fun q h1 h2 => (zqhk q (by omega)).trans (zqhF q h1 h2)
  replace zqo5 : G46 (z + 1) = .inl (cy 3, 6, .inr (.inr (.inr (.inr (fun _ => none))))) := (zqhk _ (kb_ne z (show 1 ≠ 13 by decide))).trans zqo5
  replace zqo7 : G46 (z + 2) = .inl (cy 4, 2, .inr (.inr (.inr (.inr (fun _ => none))))) := (zqhk _ (kb_ne z (show 2 ≠ 13 by decide))).trans zqo7
  replace zqo9 : G46 (z + 3) = .inl (cy 1, 60, .inl (fun _ => 0)) := (zqhk _ (kb_ne z (show 3 ≠ 13 by decide))).trans zqo9
  replace zqo11 : G46 (z + 4) = .inl (cy 0, 24, .inl (fun _ => 0)) := (zqhk _ (kb_ne z (show 4 ≠ 13 by decide))).trans zqo11
  replace zqoh : G46 h0 = .inr (2, [.int 0, .int 22, .int 1, .ref z, .int 0, .ref (z + 1), .int 0, .ref (z + 2), .ref (z + 3), .int 0, .ref (z + 4), .int 0]) := (zqhk _ (kb_h1 hz0 13)).trans zqoh
  replace zqu15_0 : G46 (z + 5) = .inr (0, [.int 0, .int 0, .int 0, .int 0, .int 0, .int 0]) := (zqhk _ (kb_ne z (show 5 ≠ 13 by decide))).trans zqu15_0
  replace zqu19_0 : G46 (z + 6) = .inr (0, [.int 0, .int 0, .int 0, .int 0, .int 0, .int 0]) := (zqhk _ (kb_ne z (show 6 ≠ 13 by decide))).trans zqu19_0
  replace zqu23_0 : G46 (z + 7) = .inr (0, [.int 0, .int 0, .int 0, .int 0, .int 0, .int 0]) := (zqhk _ (kb_ne z (show 7 ≠ 13 by decide))).trans zqu23_0
  replace zqu27_0 : G46 (z + 8) = .inr (0, [.int 0, .int 0, .int 0, .int 0, .int 0, .int 0]) := (zqhk _ (kb_ne z (show 8 ≠ 13 by decide))).trans zqu27_0
  replace zqu31_0 : G46 (z + 9) = .inr (0, [.int 0, .int 0, .int 0, .int 0, .int 0, .int 0]) := (zqhk _ (kb_ne z (show 9 ≠ 13 by decide))).trans zqu31_0
  replace zqu35_0 : G46 (z + 10) = .inr (0, [.int 0, .int 0, .int 0, .int 0, .int 0, .int 0]) := (zqhk _ (kb_ne z (show 10 ≠ 13 by decide))).trans zqu35_0
  replace zqu39_0 : G46 (z + 11) = .inr (0, [.int 0, .int 0, .int 0, .int 0, .int 0, .int 0]) := (zqhk _ (kb_ne z (show 11 ≠ 13 by decide))).trans zqu39_0
  replace zqu43_0 : G46 (z + 12) = .inr (0, [.int 0, .int 0, .int 0, .int 0, .int 0, .int 0]) := (zqhk _ (kb_ne z (show 12 ≠ 13 by decide))).trans zqu43_0
  replace zqo3 : G46 z = .inl (cy 2, 9, .inr (.inr (.inr (.inr (va_up (va_up (va_up (va_up (va_up (va_up (va_up (va_up (fun _ => none) 0 (some (z + 5))) 1 (some (z + 6))) 2 (some (z + 7))) 3 (some (z + 8))) 4 (some (z + 9))) 5 (some (z + 10))) 6 (some (z + 11))) 7 (some (z + 12))))))) := (zqhk _ (kb_ne z (show 0 ≠ 13 by decide))).trans zqo3
  have zqo46 : G46 (z + 13) = .inr (0, [.int 0, .int 0, .int 0, .int 0, .int 0, .int 0]) := by rw [zqeG]; exact kb_us
  clear zqeG zqhk
  replace zqhP : kb_P D b G46 (z + 14) zqH1 := zqhP
  refine lv_dup hx hb dX2_init_73 rfl ?_
  refine kb_callN (rest := [.ref (z + 13), .int 8, .ref z]) ⟨hx, hb, hml, hown, hts⟩ hK zqhP zqhS (c_X0_init l D cy b G46 (z + 14) (z + 13) (by omega) (by omega) zqo46) ⟨va_cnB 0 hts gX2_init_X0_init_n44 rfl rfl rfl (hK.2.2.2.2.2.1) (hts (.initialized RX0) (List.mem_cons_of_mem _ bm_54)) (by decide +kernel) ⟨Nat.le_of_ble_eq_true rfl, Nat.le_of_ble_eq_true rfl⟩, rfl, hts (.instanceMethod yX0_init) (by decide +kernel)⟩ hl.1 (Nat.le_of_ble_eq_true rfl) dX2_init_74 ⟨Nat.le_of_ble_eq_true rfl, Nat.le_of_ble_eq_true rfl⟩ (fun G47 zqH1 zqlocs1 zqw47 zqhP1 zqhS1 => ?_)
  replace zqhP := zqhP1
  replace zqhS := zqhS1
  clear zqhP1 zqhS1
  obtain ⟨zqw47a, zqw47⟩ := zqw47
  replace zqo5 : G47 (z + 1) = .inl (cy 3, 6, .inr (.inr (.inr (.inr (fun _ => none))))) := (zqw47 _ (kb_ne z (show 1 ≠ 13 by decide)) (kb_lt z (show 1 < 14 by decide))).trans zqo5
  replace zqo7 : G47 (z + 2) = .inl (cy 4, 2, .inr (.inr (.inr (.inr (fun _ => none))))) := (zqw47 _ (kb_ne z (show 2 ≠ 13 by decide)) (kb_lt z (show 2 < 14 by decide))).trans zqo7
  replace zqo9 : G47 (z + 3) = .inl (cy 1, 60, .inl (fun _ => 0)) := (zqw47 _ (kb_ne z (show 3 ≠ 13 by decide)) (kb_lt z (show 3 < 14 by decide))).trans zqo9
  replace zqo11 : G47 (z + 4) = .inl (cy 0, 24, .inl (fun _ => 0)) := (zqw47 _ (kb_ne z (show 4 ≠ 13 by decide)) (kb_lt z (show 4 < 14 by decide))).trans zqo11
  replace zqoh : G47 h0 = .inr (2, [.int 0, .int 22, .int 1, .ref z, .int 0, .ref (z + 1), .int 0, .ref (z + 2), .ref (z + 3), .int 0, .ref (z + 4), .int 0]) := (zqw47 _ (kb_h1 hz0 13) (kb_h3 hz0 14)).trans zqoh
  replace zqu15_0 : G47 (z + 5) = .inr (0, [.int 0, .int 0, .int 0, .int 0, .int 0, .int 0]) := (zqw47 _ (kb_ne z (show 5 ≠ 13 by decide)) (kb_lt z (show 5 < 14 by decide))).trans zqu15_0
  replace zqu19_0 : G47 (z + 6) = .inr (0, [.int 0, .int 0, .int 0, .int 0, .int 0, .int 0]) := (zqw47 _ (kb_ne z (show 6 ≠ 13 by decide)) (kb_lt z (show 6 < 14 by decide))).trans zqu19_0
  replace zqu23_0 : G47 (z + 7) = .inr (0, [.int 0, .int 0, .int 0, .int 0, .int 0, .int 0]) := (zqw47 _ (kb_ne z (show 7 ≠ 13 by decide)) (kb_lt z (show 7 < 14 by decide))).trans zqu23_0
  replace zqu27_0 : G47 (z + 8) = .inr (0, [.int 0, .int 0, .int 0, .int 0, .int 0, .int 0]) := (zqw47 _ (kb_ne z (show 8 ≠ 13 by decide)) (kb_lt z (show 8 < 14 by decide))).trans zqu27_0
  replace zqu31_0 : G47 (z + 9) = .inr (0, [.int 0, .int 0, .int 0, .int 0, .int 0, .int 0]) := (zqw47 _ (kb_ne z (show 9 ≠ 13 by decide)) (kb_lt z (show 9 < 14 by decide))).trans zqu31_0
  replace zqu35_0 : G47 (z + 10) = .inr (0, [.int 0, .int 0, .int 0, .int 0, .int 0, .int 0]) := (zqw47 _ (kb_ne z (show 10 ≠ 13 by decide)) (kb_lt z (show 10 < 14 by decide))).trans zqu35_0
  replace zqu39_0 : G47 (z + 11) = .inr (0, [.int 0, .int 0, .int 0, .int 0, .int 0, .int 0]) := (zqw47 _ (kb_ne z (show 11 ≠ 13 by decide)) (kb_lt z (show 11 < 14 by decide))).trans zqu39_0
  replace zqu43_0 : G47 (z + 12) = .inr (0, [.int 0, .int 0, .int 0, .int 0, .int 0, .int 0]) := (zqw47 _ (kb_ne z (show 12 ≠ 13 by decide)) (kb_lt z (show 12 < 14 by decide))).trans zqu43_0
  replace zqo3 : G47 z = .inl (cy 2, 9, .inr (.inr (.inr (.inr (va_up (va_up (va_up (va_up (va_up (va_up (va_up (va_up (fun _ => none) 0 (some (z + 5))) 1 (some (z + 6))) 2 (some (z + 7))) 3 (some (z + 8))) 4 (some (z + 9))) 5 (some (z + 10))) 6 (some (z + 11))) 7 (some (z + 12))))))) := (zqw47 _ (kb_ne z (show 0 ≠ 13 by decide)) (kb_lt z (show 0 < 14 by decide))).trans zqo3
  replace zqhF : ∀ q : Nat, q ≠ h0 → q < z → G47 q = G q := fun q h1 h2 => (zqw47 _ (by omega) (by omega)).trans (zqhF q h1 h2)
  have zqu47_0 := zqw47a
  replace zqhP : kb_P D b G47 (z + 14) zqH1 := zqhP
  have zqk8 : (8 : Int32).toInt = 8 := by decide +kernel
  refine kb_aast hx hb hK zqhP zqhS (by omega) (by omega) 2 0 zqo3 rfl (by omega) (by omega) zqu47_0 rfl (by omega) (by omega) dX2_init_77 (fun j zqH1 zqlocs1 zqej zqhj zqhP1 zqhS1 => ?_)
  replace zqhP := zqhP1
  replace zqhS := zqhS1
  clear zqhP1 zqhS1
  have zqej : j = 8 := by omega
  subst zqej
  obtain ⟨G48, zqeG⟩ : ∃ q, q = kb_u G47 z (.inl (cy 2, 9, .inr (.inr (.inr (.inr (va_up (va_up (va_up (va_up (va_up (va_up (va_up (va_up (va_up (fun _ => none) 0 (some (z + 5))) 1 (some (z + 6))) 2 (some (z + 7))) 3 (some (z + 8))) 4 (some (z + 9))) 5 (some (z + 10))) 6 (some (z + 11))) 7 (some (z + 12))) 8 (some (z + 13)))))))) := ⟨_, rfl⟩
  rw [← zqeG] at zqhP
  have zqhk : ∀ q : Nat, q ≠ z → G48 q = G47 q := fun q hq => by rw [zqeG]; exact kb_un hq
  replace zqhF : ∀ q : Nat, q ≠ h0 → q < z → G48 q = G q := fun q h1 h2 => (zqhk q (by omega)).trans (zqhF q h1 h2)
  replace zqo5 : G48 (z + 1) = .inl (cy 3, 6, .inr (.inr (.inr (.inr (fun _ => none))))) := (zqhk _ (kb_ne z (show 1 ≠ 0 by decide))).trans zqo5
  replace zqo7 : G48 (z + 2) = .inl (cy 4, 2, .inr (.inr (.inr (.inr (fun _ => none))))) := (zqhk _ (kb_ne z (show 2 ≠ 0 by decide))).trans zqo7
  replace zqo9 : G48 (z + 3) = .inl (cy 1, 60, .inl (fun _ => 0)) := (zqhk _ (kb_ne z (show 3 ≠ 0 by decide))).trans zqo9
  replace zqo11 : G48 (z + 4) = .inl (cy 0, 24, .inl (fun _ => 0)) := (zqhk _ (kb_ne z (show 4 ≠ 0 by decide))).trans zqo11
  replace zqoh : G48 h0 = .inr (2, [.int 0, .int 22, .int 1, .ref z, .int 0, .ref (z + 1), .int 0, .ref (z + 2), .ref (z + 3), .int 0, .ref (z + 4), .int 0]) := (zqhk _ (kb_h1 hz0 0)).trans zqoh
  replace zqu15_0 : G48 (z + 5) = .inr (0, [.int 0, .int 0, .int 0, .int 0, .int 0, .int 0]) := (zqhk _ (kb_ne z (show 5 ≠ 0 by decide))).trans zqu15_0
  replace zqu19_0 : G48 (z + 6) = .inr (0, [.int 0, .int 0, .int 0, .int 0, .int 0, .int 0]) := (zqhk _ (kb_ne z (show 6 ≠ 0 by decide))).trans zqu19_0
  replace zqu23_0 : G48 (z + 7) = .inr (0, [.int 0, .int 0, .int 0, .int 0, .int 0, .int 0]) := (zqhk _ (kb_ne z (show 7 ≠ 0 by decide))).trans zqu23_0
  replace zqu27_0 : G48 (z + 8) = .inr (0, [.int 0, .int 0, .int 0, .int 0, .int 0, .int 0]) := (zqhk _ (kb_ne z (show 8 ≠ 0 by decide))).trans zqu27_0
  replace zqu31_0 : G48 (z + 9) = .inr (0, [.int 0, .int 0, .int 0, .int 0, .int 0, .int 0]) := (zqhk _ (kb_ne z (show 9 ≠ 0 by decide))).trans zqu31_0
  replace zqu35_0 : G48 (z + 10) = .inr (0, [.int 0, .int 0, .int 0, .int 0, .int 0, .int 0]) := (zqhk _ (kb_ne z (show 10 ≠ 0 by decide))).trans zqu35_0
  replace zqu39_0 : G48 (z + 11) = .inr (0, [.int 0, .int 0, .int 0, .int 0, .int 0, .int 0]) := (zqhk _ (kb_ne z (show 11 ≠ 0 by decide))).trans zqu39_0
  replace zqu43_0 : G48 (z + 12) = .inr (0, [.int 0, .int 0, .int 0, .int 0, .int 0, .int 0]) := (zqhk _ (kb_ne z (show 12 ≠ 0 by decide))).trans zqu43_0
  replace zqu47_0 : G48 (z + 13) = .inr (0, [.int 0, .int 0, .int 0, .int 0, .int 0, .int 0]) := (zqhk _ (kb_ne z (show 13 ≠ 0 by decide))).trans zqu47_0
  replace zqo3 : G48 z = .inl (cy 2, 9, .inr (.inr (.inr (.inr (va_up (va_up (va_up (va_up (va_up (va_up (va_up (va_up (va_up (fun _ => none) 0 (some (z + 5))) 1 (some (z + 6))) 2 (some (z + 7))) 3 (some (z + 8))) 4 (some (z + 9))) 5 (some (z + 10))) 6 (some (z + 11))) 7 (some (z + 12))) 8 (some (z + 13))))))) := by rw [zqeG]; exact kb_us
  clear zqeG zqhk
  refine lv_iinc (v := 9) (lv' := [(1, .int 9), (0, .ref h0)]) hx hb dX2_init_78 hl (k := 0) rfl (by decide) (by decide) rfl (fun ls hl => ?_)
  refine lv_goto (tgt := 59) hx hb dX2_init_81 (by decide) ?_
  refine lv_iload_n hx hb dX2_init_59 rfl (lv_at hl 0 rfl) ?_
  refine lv_bipush (v := 9) hx hb dX2_init_60 (by decide) ?_
  refine lv_icmp_ge (tgt := 84) hx hb dX2_init_62 (by decide) (fun zqc49 => ?_) (fun zqc49 => absurd (by decide) zqc49)
  refine lv_iconst (v := 0) hx hb dX2_init_84 (by decide) ?_
  refine lv_istore_n (lv' := [(1, .int 0), (0, .ref h0)]) hx hb dX2_init_85 rfl hl (by decide) rfl (fun ls hl => ?_)
  refine lv_iload_n hx hb dX2_init_86 rfl (lv_at hl 0 rfl) ?_
  refine lv_bipush (v := 6) hx hb dX2_init_87 (by decide) ?_
  refine lv_icmp_ge (tgt := 111) hx hb dX2_init_89 (by decide) (fun zqc50 => absurd zqc50 (by decide)) (fun zqc50 => ?_)
  refine lv_aload_n hx hb dX2_init_92 rfl (lv_at hl 1 rfl) ?_
  refine kb_get hx hb hts hi2 hown hK zqhP (by omega) (by omega) zqoh rfl 5 (by decide) (hts (.fieldLink RX2 26 "NoonLaw$Realm" "people" "[LNoonLaw$Person;") (List.mem_cons_of_mem _ bm_47)) rfl rfl dX2_init_93 ?_
  refine lv_iload_n hx hb dX2_init_96 rfl (lv_at hl 0 rfl) ?_
  refine kb_new (C := RX1) (T := TX1) (N := 2) hx hb hts hi1 tyX1 tyX1_ok hown (hts (.classLink RX2 24 RX1) (List.mem_cons_of_mem _ bm_46)) (hts (.instantiable RX1 2) (List.mem_cons_of_mem _ bm_55)) (hts (.initialized RX1) (List.mem_cons_of_mem _ bm_56)) hK zqhP zqhS (ci := 1) rfl [.int 0, .int 0] (fun j zqhj => by rcases (show j = 0 ∨ j = 1 by omega) with rfl | rfl <;> rfl) (Nat.le_of_ble_eq_true rfl) (Nat.le_of_ble_eq_true rfl) dX2_init_97 (fun zqH1 zqhP1 zqhS1 => ?_)
  replace zqhP := zqhP1
  replace zqhS := zqhS1
  clear zqhP1 zqhS1
  obtain ⟨G51, zqeG⟩ : ∃ q, q = kb_u G48 (z + 14) (.inr (1, [.int 0, .int 0])) := ⟨_, rfl⟩
  rw [← zqeG] at zqhP
  have zqhk : ∀ q : Nat, q ≠ z + 14 → G51 q = G48 q := fun q hq => by rw [zqeG]; exact kb_un hq
  replace zqhF : ∀ q : Nat, q ≠ h0 → q < z → G51 q = G q := fun q h1 h2 => (zqhk q (by omega)).trans (zqhF q h1 h2)
  replace zqo5 : G51 (z + 1) = .inl (cy 3, 6, .inr (.inr (.inr (.inr (fun _ => none))))) := (zqhk _ (kb_ne z (show 1 ≠ 14 by decide))).trans zqo5
  replace zqo7 : G51 (z + 2) = .inl (cy 4, 2, .inr (.inr (.inr (.inr (fun _ => none))))) := (zqhk _ (kb_ne z (show 2 ≠ 14 by decide))).trans zqo7
  replace zqo9 : G51 (z + 3) = .inl (cy 1, 60, .inl (fun _ => 0)) := (zqhk _ (kb_ne z (show 3 ≠ 14 by decide))).trans zqo9
  replace zqo11 : G51 (z + 4) = .inl (cy 0, 24, .inl (fun _ => 0)) := (zqhk _ (kb_ne z (show 4 ≠ 14 by decide))).trans zqo11
  replace zqoh : G51 h0 = .inr (2, [.int 0, .int 22, .int 1, .ref z, .int 0, .ref (z + 1), .int 0, .ref (z + 2), .ref (z + 3), .int 0, .ref (z + 4), .int 0]) := (zqhk _ (kb_h1 hz0 14)).trans zqoh
  replace zqu15_0 : G51 (z + 5) = .inr (0, [.int 0, .int 0, .int 0, .int 0, .int 0, .int 0]) := (zqhk _ (kb_ne z (show 5 ≠ 14 by decide))).trans zqu15_0
  replace zqu19_0 : G51 (z + 6) = .inr (0, [.int 0, .int 0, .int 0, .int 0, .int 0, .int 0]) := (zqhk _ (kb_ne z (show 6 ≠ 14 by decide))).trans zqu19_0
  replace zqu23_0 : G51 (z + 7) = .inr (0, [.int 0, .int 0, .int 0, .int 0, .int 0, .int 0]) := (zqhk _ (kb_ne z (show 7 ≠ 14 by decide))).trans zqu23_0
  replace zqu27_0 : G51 (z + 8) = .inr (0, [.int 0, .int 0, .int 0, .int 0, .int 0, .int 0]) := (zqhk _ (kb_ne z (show 8 ≠ 14 by decide))).trans zqu27_0
  replace zqu31_0 : G51 (z + 9) = .inr (0, [.int 0, .int 0, .int 0, .int 0, .int 0, .int 0]) := (zqhk _ (kb_ne z (show 9 ≠ 14 by decide))).trans zqu31_0
  replace zqu35_0 : G51 (z + 10) = .inr (0, [.int 0, .int 0, .int 0, .int 0, .int 0, .int 0]) := (zqhk _ (kb_ne z (show 10 ≠ 14 by decide))).trans zqu35_0
  replace zqu39_0 : G51 (z + 11) = .inr (0, [.int 0, .int 0, .int 0, .int 0, .int 0, .int 0]) := (zqhk _ (kb_ne z (show 11 ≠ 14 by decide))).trans zqu39_0
  replace zqu43_0 : G51 (z + 12) = .inr (0, [.int 0, .int 0, .int 0, .int 0, .int 0, .int 0]) := (zqhk _ (kb_ne z (show 12 ≠ 14 by decide))).trans zqu43_0
  replace zqu47_0 : G51 (z + 13) = .inr (0, [.int 0, .int 0, .int 0, .int 0, .int 0, .int 0]) := (zqhk _ (kb_ne z (show 13 ≠ 14 by decide))).trans zqu47_0
  replace zqo3 : G51 z = .inl (cy 2, 9, .inr (.inr (.inr (.inr (va_up (va_up (va_up (va_up (va_up (va_up (va_up (va_up (va_up (fun _ => none) 0 (some (z + 5))) 1 (some (z + 6))) 2 (some (z + 7))) 3 (some (z + 8))) 4 (some (z + 9))) 5 (some (z + 10))) 6 (some (z + 11))) 7 (some (z + 12))) 8 (some (z + 13))))))) := (zqhk _ (kb_ne z (show 0 ≠ 14 by decide))).trans zqo3
  have zqo51 : G51 (z + 14) = .inr (1, [.int 0, .int 0]) := by rw [zqeG]; exact kb_us
  clear zqeG zqhk
  replace zqhP : kb_P D b G51 (z + 15) zqH1 := zqhP
  refine lv_dup hx hb dX2_init_100 rfl ?_
  refine kb_callN (rest := [.ref (z + 14), .int 0, .ref (z + 1)]) ⟨hx, hb, hml, hown, hts⟩ hK zqhP zqhS (c_X1_init l D cy b G51 (z + 15) (z + 14) (by omega) (by omega) zqo51) ⟨va_cnB 0 hts gX2_init_X1_init_n45 rfl rfl rfl (hK.2.2.2.2.2.2.1) (hts (.initialized RX1) (List.mem_cons_of_mem _ bm_56)) (by decide +kernel) ⟨Nat.le_of_ble_eq_true rfl, Nat.le_of_ble_eq_true rfl⟩, rfl, hts (.instanceMethod yX1_init) (by decide +kernel)⟩ hl.1 (Nat.le_of_ble_eq_true rfl) dX2_init_101 ⟨Nat.le_of_ble_eq_true rfl, Nat.le_of_ble_eq_true rfl⟩ (fun G52 zqH1 zqlocs1 zqw52 zqhP1 zqhS1 => ?_)
  replace zqhP := zqhP1
  replace zqhS := zqhS1
  clear zqhP1 zqhS1
  obtain ⟨zqw52a, zqw52⟩ := zqw52
  replace zqo5 : G52 (z + 1) = .inl (cy 3, 6, .inr (.inr (.inr (.inr (fun _ => none))))) := (zqw52 _ (kb_ne z (show 1 ≠ 14 by decide)) (kb_lt z (show 1 < 15 by decide))).trans zqo5
  replace zqo7 : G52 (z + 2) = .inl (cy 4, 2, .inr (.inr (.inr (.inr (fun _ => none))))) := (zqw52 _ (kb_ne z (show 2 ≠ 14 by decide)) (kb_lt z (show 2 < 15 by decide))).trans zqo7
  replace zqo9 : G52 (z + 3) = .inl (cy 1, 60, .inl (fun _ => 0)) := (zqw52 _ (kb_ne z (show 3 ≠ 14 by decide)) (kb_lt z (show 3 < 15 by decide))).trans zqo9
  replace zqo11 : G52 (z + 4) = .inl (cy 0, 24, .inl (fun _ => 0)) := (zqw52 _ (kb_ne z (show 4 ≠ 14 by decide)) (kb_lt z (show 4 < 15 by decide))).trans zqo11
  replace zqoh : G52 h0 = .inr (2, [.int 0, .int 22, .int 1, .ref z, .int 0, .ref (z + 1), .int 0, .ref (z + 2), .ref (z + 3), .int 0, .ref (z + 4), .int 0]) := (zqw52 _ (kb_h1 hz0 14) (kb_h3 hz0 15)).trans zqoh
  replace zqu15_0 : G52 (z + 5) = .inr (0, [.int 0, .int 0, .int 0, .int 0, .int 0, .int 0]) := (zqw52 _ (kb_ne z (show 5 ≠ 14 by decide)) (kb_lt z (show 5 < 15 by decide))).trans zqu15_0
  replace zqu19_0 : G52 (z + 6) = .inr (0, [.int 0, .int 0, .int 0, .int 0, .int 0, .int 0]) := (zqw52 _ (kb_ne z (show 6 ≠ 14 by decide)) (kb_lt z (show 6 < 15 by decide))).trans zqu19_0
  replace zqu23_0 : G52 (z + 7) = .inr (0, [.int 0, .int 0, .int 0, .int 0, .int 0, .int 0]) := (zqw52 _ (kb_ne z (show 7 ≠ 14 by decide)) (kb_lt z (show 7 < 15 by decide))).trans zqu23_0
  replace zqu27_0 : G52 (z + 8) = .inr (0, [.int 0, .int 0, .int 0, .int 0, .int 0, .int 0]) := (zqw52 _ (kb_ne z (show 8 ≠ 14 by decide)) (kb_lt z (show 8 < 15 by decide))).trans zqu27_0
  replace zqu31_0 : G52 (z + 9) = .inr (0, [.int 0, .int 0, .int 0, .int 0, .int 0, .int 0]) := (zqw52 _ (kb_ne z (show 9 ≠ 14 by decide)) (kb_lt z (show 9 < 15 by decide))).trans zqu31_0
  replace zqu35_0 : G52 (z + 10) = .inr (0, [.int 0, .int 0, .int 0, .int 0, .int 0, .int 0]) := (zqw52 _ (kb_ne z (show 10 ≠ 14 by decide)) (kb_lt z (show 10 < 15 by decide))).trans zqu35_0
  replace zqu39_0 : G52 (z + 11) = .inr (0, [.int 0, .int 0, .int 0, .int 0, .int 0, .int 0]) := (zqw52 _ (kb_ne z (show 11 ≠ 14 by decide)) (kb_lt z (show 11 < 15 by decide))).trans zqu39_0
  replace zqu43_0 : G52 (z + 12) = .inr (0, [.int 0, .int 0, .int 0, .int 0, .int 0, .int 0]) := (zqw52 _ (kb_ne z (show 12 ≠ 14 by decide)) (kb_lt z (show 12 < 15 by decide))).trans zqu43_0
  replace zqu47_0 : G52 (z + 13) = .inr (0, [.int 0, .int 0, .int 0, .int 0, .int 0, .int 0]) := (zqw52 _ (kb_ne z (show 13 ≠ 14 by decide)) (kb_lt z (show 13 < 15 by decide))).trans zqu47_0
  replace zqo3 : G52 z = .inl (cy 2, 9, .inr (.inr (.inr (.inr (va_up (va_up (va_up (va_up (va_up (va_up (va_up (va_up (va_up (fun _ => none) 0 (some (z + 5))) 1 (some (z + 6))) 2 (some (z + 7))) 3 (some (z + 8))) 4 (some (z + 9))) 5 (some (z + 10))) 6 (some (z + 11))) 7 (some (z + 12))) 8 (some (z + 13))))))) := (zqw52 _ (kb_ne z (show 0 ≠ 14 by decide)) (kb_lt z (show 0 < 15 by decide))).trans zqo3
  replace zqhF : ∀ q : Nat, q ≠ h0 → q < z → G52 q = G q := fun q h1 h2 => (zqw52 _ (by omega) (by omega)).trans (zqhF q h1 h2)
  have zqu52_0 := zqw52a
  replace zqhP : kb_P D b G52 (z + 15) zqH1 := zqhP
  have zqk0 : (0 : Int32).toInt = 0 := by decide +kernel
  refine kb_aast hx hb hK zqhP zqhS (by omega) (by omega) 3 1 zqo5 rfl (by omega) (by omega) zqu52_0 rfl (by omega) (by omega) dX2_init_104 (fun j zqH1 zqlocs1 zqej zqhj zqhP1 zqhS1 => ?_)
  replace zqhP := zqhP1
  replace zqhS := zqhS1
  clear zqhP1 zqhS1
  have zqej : j = 0 := by omega
  subst zqej
  obtain ⟨G53, zqeG⟩ : ∃ q, q = kb_u G52 (z + 1) (.inl (cy 3, 6, .inr (.inr (.inr (.inr (va_up (fun _ => none) 0 (some (z + 14)))))))) := ⟨_, rfl⟩
  rw [← zqeG] at zqhP
  have zqhk : ∀ q : Nat, q ≠ z + 1 → G53 q = G52 q := fun q hq => by rw [zqeG]; exact kb_un hq
  replace zqhF : ∀ q : Nat, q ≠ h0 → q < z → G53 q = G q := fun q h1 h2 => (zqhk q (by omega)).trans (zqhF q h1 h2)
  replace zqo7 : G53 (z + 2) = .inl (cy 4, 2, .inr (.inr (.inr (.inr (fun _ => none))))) := (zqhk _ (kb_ne z (show 2 ≠ 1 by decide))).trans zqo7
  replace zqo9 : G53 (z + 3) = .inl (cy 1, 60, .inl (fun _ => 0)) := (zqhk _ (kb_ne z (show 3 ≠ 1 by decide))).trans zqo9
  replace zqo11 : G53 (z + 4) = .inl (cy 0, 24, .inl (fun _ => 0)) := (zqhk _ (kb_ne z (show 4 ≠ 1 by decide))).trans zqo11
  replace zqoh : G53 h0 = .inr (2, [.int 0, .int 22, .int 1, .ref z, .int 0, .ref (z + 1), .int 0, .ref (z + 2), .ref (z + 3), .int 0, .ref (z + 4), .int 0]) := (zqhk _ (kb_h1 hz0 1)).trans zqoh
  replace zqu15_0 : G53 (z + 5) = .inr (0, [.int 0, .int 0, .int 0, .int 0, .int 0, .int 0]) := (zqhk _ (kb_ne z (show 5 ≠ 1 by decide))).trans zqu15_0
  replace zqu19_0 : G53 (z + 6) = .inr (0, [.int 0, .int 0, .int 0, .int 0, .int 0, .int 0]) := (zqhk _ (kb_ne z (show 6 ≠ 1 by decide))).trans zqu19_0
  replace zqu23_0 : G53 (z + 7) = .inr (0, [.int 0, .int 0, .int 0, .int 0, .int 0, .int 0]) := (zqhk _ (kb_ne z (show 7 ≠ 1 by decide))).trans zqu23_0
  replace zqu27_0 : G53 (z + 8) = .inr (0, [.int 0, .int 0, .int 0, .int 0, .int 0, .int 0]) := (zqhk _ (kb_ne z (show 8 ≠ 1 by decide))).trans zqu27_0
  replace zqu31_0 : G53 (z + 9) = .inr (0, [.int 0, .int 0, .int 0, .int 0, .int 0, .int 0]) := (zqhk _ (kb_ne z (show 9 ≠ 1 by decide))).trans zqu31_0
  replace zqu35_0 : G53 (z + 10) = .inr (0, [.int 0, .int 0, .int 0, .int 0, .int 0, .int 0]) := (zqhk _ (kb_ne z (show 10 ≠ 1 by decide))).trans zqu35_0
  replace zqu39_0 : G53 (z + 11) = .inr (0, [.int 0, .int 0, .int 0, .int 0, .int 0, .int 0]) := (zqhk _ (kb_ne z (show 11 ≠ 1 by decide))).trans zqu39_0
  replace zqu43_0 : G53 (z + 12) = .inr (0, [.int 0, .int 0, .int 0, .int 0, .int 0, .int 0]) := (zqhk _ (kb_ne z (show 12 ≠ 1 by decide))).trans zqu43_0
  replace zqu47_0 : G53 (z + 13) = .inr (0, [.int 0, .int 0, .int 0, .int 0, .int 0, .int 0]) := (zqhk _ (kb_ne z (show 13 ≠ 1 by decide))).trans zqu47_0
  replace zqo3 : G53 z = .inl (cy 2, 9, .inr (.inr (.inr (.inr (va_up (va_up (va_up (va_up (va_up (va_up (va_up (va_up (va_up (fun _ => none) 0 (some (z + 5))) 1 (some (z + 6))) 2 (some (z + 7))) 3 (some (z + 8))) 4 (some (z + 9))) 5 (some (z + 10))) 6 (some (z + 11))) 7 (some (z + 12))) 8 (some (z + 13))))))) := (zqhk _ (kb_ne z (show 0 ≠ 1 by decide))).trans zqo3
  replace zqu52_0 : G53 (z + 14) = .inr (1, [.int 0, .int 0]) := (zqhk _ (kb_ne z (show 14 ≠ 1 by decide))).trans zqu52_0
  replace zqo5 : G53 (z + 1) = .inl (cy 3, 6, .inr (.inr (.inr (.inr (va_up (fun _ => none) 0 (some (z + 14))))))) := by rw [zqeG]; exact kb_us
  clear zqeG zqhk
  refine lv_iinc (v := 1) (lv' := [(1, .int 1), (0, .ref h0)]) hx hb dX2_init_105 hl (k := 0) rfl (by decide) (by decide) rfl (fun ls hl => ?_)
  refine lv_goto (tgt := 86) hx hb dX2_init_108 (by decide) ?_
  refine lv_iload_n hx hb dX2_init_86 rfl (lv_at hl 0 rfl) ?_
  refine lv_bipush (v := 6) hx hb dX2_init_87 (by decide) ?_
  refine lv_icmp_ge (tgt := 111) hx hb dX2_init_89 (by decide) (fun zqc54 => absurd zqc54 (by decide)) (fun zqc54 => ?_)
  refine lv_aload_n hx hb dX2_init_92 rfl (lv_at hl 1 rfl) ?_
  refine kb_get hx hb hts hi2 hown hK zqhP (by omega) (by omega) zqoh rfl 5 (by decide) (hts (.fieldLink RX2 26 "NoonLaw$Realm" "people" "[LNoonLaw$Person;") (List.mem_cons_of_mem _ bm_47)) rfl rfl dX2_init_93 ?_
  refine lv_iload_n hx hb dX2_init_96 rfl (lv_at hl 0 rfl) ?_
  refine kb_new (C := RX1) (T := TX1) (N := 2) hx hb hts hi1 tyX1 tyX1_ok hown (hts (.classLink RX2 24 RX1) (List.mem_cons_of_mem _ bm_46)) (hts (.instantiable RX1 2) (List.mem_cons_of_mem _ bm_55)) (hts (.initialized RX1) (List.mem_cons_of_mem _ bm_56)) hK zqhP zqhS (ci := 1) rfl [.int 0, .int 0] (fun j zqhj => by rcases (show j = 0 ∨ j = 1 by omega) with rfl | rfl <;> rfl) (Nat.le_of_ble_eq_true rfl) (Nat.le_of_ble_eq_true rfl) dX2_init_97 (fun zqH1 zqhP1 zqhS1 => ?_)
  replace zqhP := zqhP1
  replace zqhS := zqhS1
  clear zqhP1 zqhS1
  obtain ⟨G55, zqeG⟩ : ∃ q, q = kb_u G53 (z + 15) (.inr (1, [.int 0, .int 0])) := ⟨_, rfl⟩
  rw [← zqeG] at zqhP
  have zqhk : ∀ q : Nat, q ≠ z + 15 → G55 q = G53 q := fun q hq => by rw [zqeG]; exact kb_un hq
  replace zqhF : ∀ q : Nat, q ≠ h0 → q < z → G55 q = G q := fun q h1 h2 => (zqhk q (by omega)).trans (zqhF q h1 h2)
  replace zqo7 : G55 (z + 2) = .inl (cy 4, 2, .inr (.inr (.inr (.inr (fun _ => none))))) := (zqhk _ (kb_ne z (show 2 ≠ 15 by decide))).trans zqo7
  replace zqo9 : G55 (z + 3) = .inl (cy 1, 60, .inl (fun _ => 0)) := (zqhk _ (kb_ne z (show 3 ≠ 15 by decide))).trans zqo9
  replace zqo11 : G55 (z + 4) = .inl (cy 0, 24, .inl (fun _ => 0)) := (zqhk _ (kb_ne z (show 4 ≠ 15 by decide))).trans zqo11
  replace zqoh : G55 h0 = .inr (2, [.int 0, .int 22, .int 1, .ref z, .int 0, .ref (z + 1), .int 0, .ref (z + 2), .ref (z + 3), .int 0, .ref (z + 4), .int 0]) := (zqhk _ (kb_h1 hz0 15)).trans zqoh
  replace zqu15_0 : G55 (z + 5) = .inr (0, [.int 0, .int 0, .int 0, .int 0, .int 0, .int 0]) := (zqhk _ (kb_ne z (show 5 ≠ 15 by decide))).trans zqu15_0
  replace zqu19_0 : G55 (z + 6) = .inr (0, [.int 0, .int 0, .int 0, .int 0, .int 0, .int 0]) := (zqhk _ (kb_ne z (show 6 ≠ 15 by decide))).trans zqu19_0
  replace zqu23_0 : G55 (z + 7) = .inr (0, [.int 0, .int 0, .int 0, .int 0, .int 0, .int 0]) := (zqhk _ (kb_ne z (show 7 ≠ 15 by decide))).trans zqu23_0
  replace zqu27_0 : G55 (z + 8) = .inr (0, [.int 0, .int 0, .int 0, .int 0, .int 0, .int 0]) := (zqhk _ (kb_ne z (show 8 ≠ 15 by decide))).trans zqu27_0
  replace zqu31_0 : G55 (z + 9) = .inr (0, [.int 0, .int 0, .int 0, .int 0, .int 0, .int 0]) := (zqhk _ (kb_ne z (show 9 ≠ 15 by decide))).trans zqu31_0
  replace zqu35_0 : G55 (z + 10) = .inr (0, [.int 0, .int 0, .int 0, .int 0, .int 0, .int 0]) := (zqhk _ (kb_ne z (show 10 ≠ 15 by decide))).trans zqu35_0
  replace zqu39_0 : G55 (z + 11) = .inr (0, [.int 0, .int 0, .int 0, .int 0, .int 0, .int 0]) := (zqhk _ (kb_ne z (show 11 ≠ 15 by decide))).trans zqu39_0
  replace zqu43_0 : G55 (z + 12) = .inr (0, [.int 0, .int 0, .int 0, .int 0, .int 0, .int 0]) := (zqhk _ (kb_ne z (show 12 ≠ 15 by decide))).trans zqu43_0
  replace zqu47_0 : G55 (z + 13) = .inr (0, [.int 0, .int 0, .int 0, .int 0, .int 0, .int 0]) := (zqhk _ (kb_ne z (show 13 ≠ 15 by decide))).trans zqu47_0
  replace zqo3 : G55 z = .inl (cy 2, 9, .inr (.inr (.inr (.inr (va_up (va_up (va_up (va_up (va_up (va_up (va_up (va_up (va_up (fun _ => none) 0 (some (z + 5))) 1 (some (z + 6))) 2 (some (z + 7))) 3 (some (z + 8))) 4 (some (z + 9))) 5 (some (z + 10))) 6 (some (z + 11))) 7 (some (z + 12))) 8 (some (z + 13))))))) := (zqhk _ (kb_ne z (show 0 ≠ 15 by decide))).trans zqo3
  replace zqu52_0 : G55 (z + 14) = .inr (1, [.int 0, .int 0]) := (zqhk _ (kb_ne z (show 14 ≠ 15 by decide))).trans zqu52_0
  replace zqo5 : G55 (z + 1) = .inl (cy 3, 6, .inr (.inr (.inr (.inr (va_up (fun _ => none) 0 (some (z + 14))))))) := (zqhk _ (kb_ne z (show 1 ≠ 15 by decide))).trans zqo5
  have zqo55 : G55 (z + 15) = .inr (1, [.int 0, .int 0]) := by rw [zqeG]; exact kb_us
  clear zqeG zqhk
  replace zqhP : kb_P D b G55 (z + 16) zqH1 := zqhP
  refine lv_dup hx hb dX2_init_100 rfl ?_
  refine kb_callN (rest := [.ref (z + 15), .int 1, .ref (z + 1)]) ⟨hx, hb, hml, hown, hts⟩ hK zqhP zqhS (c_X1_init l D cy b G55 (z + 16) (z + 15) (by omega) (by omega) zqo55) ⟨va_cnB 0 hts gX2_init_X1_init_n45 rfl rfl rfl (hK.2.2.2.2.2.2.1) (hts (.initialized RX1) (List.mem_cons_of_mem _ bm_56)) (by decide +kernel) ⟨Nat.le_of_ble_eq_true rfl, Nat.le_of_ble_eq_true rfl⟩, rfl, hts (.instanceMethod yX1_init) (by decide +kernel)⟩ hl.1 (Nat.le_of_ble_eq_true rfl) dX2_init_101 ⟨Nat.le_of_ble_eq_true rfl, Nat.le_of_ble_eq_true rfl⟩ (fun G56 zqH1 zqlocs1 zqw56 zqhP1 zqhS1 => ?_)
  replace zqhP := zqhP1
  replace zqhS := zqhS1
  clear zqhP1 zqhS1
  obtain ⟨zqw56a, zqw56⟩ := zqw56
  replace zqo7 : G56 (z + 2) = .inl (cy 4, 2, .inr (.inr (.inr (.inr (fun _ => none))))) := (zqw56 _ (kb_ne z (show 2 ≠ 15 by decide)) (kb_lt z (show 2 < 16 by decide))).trans zqo7
  replace zqo9 : G56 (z + 3) = .inl (cy 1, 60, .inl (fun _ => 0)) := (zqw56 _ (kb_ne z (show 3 ≠ 15 by decide)) (kb_lt z (show 3 < 16 by decide))).trans zqo9
  replace zqo11 : G56 (z + 4) = .inl (cy 0, 24, .inl (fun _ => 0)) := (zqw56 _ (kb_ne z (show 4 ≠ 15 by decide)) (kb_lt z (show 4 < 16 by decide))).trans zqo11
  replace zqoh : G56 h0 = .inr (2, [.int 0, .int 22, .int 1, .ref z, .int 0, .ref (z + 1), .int 0, .ref (z + 2), .ref (z + 3), .int 0, .ref (z + 4), .int 0]) := (zqw56 _ (kb_h1 hz0 15) (kb_h3 hz0 16)).trans zqoh
  replace zqu15_0 : G56 (z + 5) = .inr (0, [.int 0, .int 0, .int 0, .int 0, .int 0, .int 0]) := (zqw56 _ (kb_ne z (show 5 ≠ 15 by decide)) (kb_lt z (show 5 < 16 by decide))).trans zqu15_0
  replace zqu19_0 : G56 (z + 6) = .inr (0, [.int 0, .int 0, .int 0, .int 0, .int 0, .int 0]) := (zqw56 _ (kb_ne z (show 6 ≠ 15 by decide)) (kb_lt z (show 6 < 16 by decide))).trans zqu19_0
  replace zqu23_0 : G56 (z + 7) = .inr (0, [.int 0, .int 0, .int 0, .int 0, .int 0, .int 0]) := (zqw56 _ (kb_ne z (show 7 ≠ 15 by decide)) (kb_lt z (show 7 < 16 by decide))).trans zqu23_0
  replace zqu27_0 : G56 (z + 8) = .inr (0, [.int 0, .int 0, .int 0, .int 0, .int 0, .int 0]) := (zqw56 _ (kb_ne z (show 8 ≠ 15 by decide)) (kb_lt z (show 8 < 16 by decide))).trans zqu27_0
  replace zqu31_0 : G56 (z + 9) = .inr (0, [.int 0, .int 0, .int 0, .int 0, .int 0, .int 0]) := (zqw56 _ (kb_ne z (show 9 ≠ 15 by decide)) (kb_lt z (show 9 < 16 by decide))).trans zqu31_0
  replace zqu35_0 : G56 (z + 10) = .inr (0, [.int 0, .int 0, .int 0, .int 0, .int 0, .int 0]) := (zqw56 _ (kb_ne z (show 10 ≠ 15 by decide)) (kb_lt z (show 10 < 16 by decide))).trans zqu35_0
  replace zqu39_0 : G56 (z + 11) = .inr (0, [.int 0, .int 0, .int 0, .int 0, .int 0, .int 0]) := (zqw56 _ (kb_ne z (show 11 ≠ 15 by decide)) (kb_lt z (show 11 < 16 by decide))).trans zqu39_0
  replace zqu43_0 : G56 (z + 12) = .inr (0, [.int 0, .int 0, .int 0, .int 0, .int 0, .int 0]) := (zqw56 _ (kb_ne z (show 12 ≠ 15 by decide)) (kb_lt z (show 12 < 16 by decide))).trans zqu43_0
  replace zqu47_0 : G56 (z + 13) = .inr (0, [.int 0, .int 0, .int 0, .int 0, .int 0, .int 0]) := (zqw56 _ (kb_ne z (show 13 ≠ 15 by decide)) (kb_lt z (show 13 < 16 by decide))).trans zqu47_0
  replace zqo3 : G56 z = .inl (cy 2, 9, .inr (.inr (.inr (.inr (va_up (va_up (va_up (va_up (va_up (va_up (va_up (va_up (va_up (fun _ => none) 0 (some (z + 5))) 1 (some (z + 6))) 2 (some (z + 7))) 3 (some (z + 8))) 4 (some (z + 9))) 5 (some (z + 10))) 6 (some (z + 11))) 7 (some (z + 12))) 8 (some (z + 13))))))) := (zqw56 _ (kb_ne z (show 0 ≠ 15 by decide)) (kb_lt z (show 0 < 16 by decide))).trans zqo3
  replace zqu52_0 : G56 (z + 14) = .inr (1, [.int 0, .int 0]) := (zqw56 _ (kb_ne z (show 14 ≠ 15 by decide)) (kb_lt z (show 14 < 16 by decide))).trans zqu52_0
  replace zqo5 : G56 (z + 1) = .inl (cy 3, 6, .inr (.inr (.inr (.inr (va_up (fun _ => none) 0 (some (z + 14))))))) := (zqw56 _ (kb_ne z (show 1 ≠ 15 by decide)) (kb_lt z (show 1 < 16 by decide))).trans zqo5
  replace zqhF : ∀ q : Nat, q ≠ h0 → q < z → G56 q = G q := fun q h1 h2 => (zqw56 _ (by omega) (by omega)).trans (zqhF q h1 h2)
  have zqu56_0 := zqw56a
  replace zqhP : kb_P D b G56 (z + 16) zqH1 := zqhP
  have zqk1 : (1 : Int32).toInt = 1 := by decide +kernel
  refine kb_aast hx hb hK zqhP zqhS (by omega) (by omega) 3 1 zqo5 rfl (by omega) (by omega) zqu56_0 rfl (by omega) (by omega) dX2_init_104 (fun j zqH1 zqlocs1 zqej zqhj zqhP1 zqhS1 => ?_)
  replace zqhP := zqhP1
  replace zqhS := zqhS1
  clear zqhP1 zqhS1
  have zqej : j = 1 := by omega
  subst zqej
  obtain ⟨G57, zqeG⟩ : ∃ q, q = kb_u G56 (z + 1) (.inl (cy 3, 6, .inr (.inr (.inr (.inr (va_up (va_up (fun _ => none) 0 (some (z + 14))) 1 (some (z + 15)))))))) := ⟨_, rfl⟩
  rw [← zqeG] at zqhP
  have zqhk : ∀ q : Nat, q ≠ z + 1 → G57 q = G56 q := fun q hq => by rw [zqeG]; exact kb_un hq
  replace zqhF : ∀ q : Nat, q ≠ h0 → q < z → G57 q = G q := fun q h1 h2 => (zqhk q (by omega)).trans (zqhF q h1 h2)
  replace zqo7 : G57 (z + 2) = .inl (cy 4, 2, .inr (.inr (.inr (.inr (fun _ => none))))) := (zqhk _ (kb_ne z (show 2 ≠ 1 by decide))).trans zqo7
  replace zqo9 : G57 (z + 3) = .inl (cy 1, 60, .inl (fun _ => 0)) := (zqhk _ (kb_ne z (show 3 ≠ 1 by decide))).trans zqo9
  replace zqo11 : G57 (z + 4) = .inl (cy 0, 24, .inl (fun _ => 0)) := (zqhk _ (kb_ne z (show 4 ≠ 1 by decide))).trans zqo11
  replace zqoh : G57 h0 = .inr (2, [.int 0, .int 22, .int 1, .ref z, .int 0, .ref (z + 1), .int 0, .ref (z + 2), .ref (z + 3), .int 0, .ref (z + 4), .int 0]) := (zqhk _ (kb_h1 hz0 1)).trans zqoh
  replace zqu15_0 : G57 (z + 5) = .inr (0, [.int 0, .int 0, .int 0, .int 0, .int 0, .int 0]) := (zqhk _ (kb_ne z (show 5 ≠ 1 by decide))).trans zqu15_0
  replace zqu19_0 : G57 (z + 6) = .inr (0, [.int 0, .int 0, .int 0, .int 0, .int 0, .int 0]) := (zqhk _ (kb_ne z (show 6 ≠ 1 by decide))).trans zqu19_0
  replace zqu23_0 : G57 (z + 7) = .inr (0, [.int 0, .int 0, .int 0, .int 0, .int 0, .int 0]) := (zqhk _ (kb_ne z (show 7 ≠ 1 by decide))).trans zqu23_0
  replace zqu27_0 : G57 (z + 8) = .inr (0, [.int 0, .int 0, .int 0, .int 0, .int 0, .int 0]) := (zqhk _ (kb_ne z (show 8 ≠ 1 by decide))).trans zqu27_0
  replace zqu31_0 : G57 (z + 9) = .inr (0, [.int 0, .int 0, .int 0, .int 0, .int 0, .int 0]) := (zqhk _ (kb_ne z (show 9 ≠ 1 by decide))).trans zqu31_0
  replace zqu35_0 : G57 (z + 10) = .inr (0, [.int 0, .int 0, .int 0, .int 0, .int 0, .int 0]) := (zqhk _ (kb_ne z (show 10 ≠ 1 by decide))).trans zqu35_0
  replace zqu39_0 : G57 (z + 11) = .inr (0, [.int 0, .int 0, .int 0, .int 0, .int 0, .int 0]) := (zqhk _ (kb_ne z (show 11 ≠ 1 by decide))).trans zqu39_0
  replace zqu43_0 : G57 (z + 12) = .inr (0, [.int 0, .int 0, .int 0, .int 0, .int 0, .int 0]) := (zqhk _ (kb_ne z (show 12 ≠ 1 by decide))).trans zqu43_0
  replace zqu47_0 : G57 (z + 13) = .inr (0, [.int 0, .int 0, .int 0, .int 0, .int 0, .int 0]) := (zqhk _ (kb_ne z (show 13 ≠ 1 by decide))).trans zqu47_0
  replace zqo3 : G57 z = .inl (cy 2, 9, .inr (.inr (.inr (.inr (va_up (va_up (va_up (va_up (va_up (va_up (va_up (va_up (va_up (fun _ => none) 0 (some (z + 5))) 1 (some (z + 6))) 2 (some (z + 7))) 3 (some (z + 8))) 4 (some (z + 9))) 5 (some (z + 10))) 6 (some (z + 11))) 7 (some (z + 12))) 8 (some (z + 13))))))) := (zqhk _ (kb_ne z (show 0 ≠ 1 by decide))).trans zqo3
  replace zqu52_0 : G57 (z + 14) = .inr (1, [.int 0, .int 0]) := (zqhk _ (kb_ne z (show 14 ≠ 1 by decide))).trans zqu52_0
  replace zqu56_0 : G57 (z + 15) = .inr (1, [.int 0, .int 0]) := (zqhk _ (kb_ne z (show 15 ≠ 1 by decide))).trans zqu56_0
  replace zqo5 : G57 (z + 1) = .inl (cy 3, 6, .inr (.inr (.inr (.inr (va_up (va_up (fun _ => none) 0 (some (z + 14))) 1 (some (z + 15))))))) := by rw [zqeG]; exact kb_us
  clear zqeG zqhk
  refine lv_iinc (v := 2) (lv' := [(1, .int 2), (0, .ref h0)]) hx hb dX2_init_105 hl (k := 0) rfl (by decide) (by decide) rfl (fun ls hl => ?_)
  refine lv_goto (tgt := 86) hx hb dX2_init_108 (by decide) ?_
  refine lv_iload_n hx hb dX2_init_86 rfl (lv_at hl 0 rfl) ?_
  refine lv_bipush (v := 6) hx hb dX2_init_87 (by decide) ?_
  refine lv_icmp_ge (tgt := 111) hx hb dX2_init_89 (by decide) (fun zqc58 => absurd zqc58 (by decide)) (fun zqc58 => ?_)
  refine lv_aload_n hx hb dX2_init_92 rfl (lv_at hl 1 rfl) ?_
  refine kb_get hx hb hts hi2 hown hK zqhP (by omega) (by omega) zqoh rfl 5 (by decide) (hts (.fieldLink RX2 26 "NoonLaw$Realm" "people" "[LNoonLaw$Person;") (List.mem_cons_of_mem _ bm_47)) rfl rfl dX2_init_93 ?_
  refine lv_iload_n hx hb dX2_init_96 rfl (lv_at hl 0 rfl) ?_
  refine kb_new (C := RX1) (T := TX1) (N := 2) hx hb hts hi1 tyX1 tyX1_ok hown (hts (.classLink RX2 24 RX1) (List.mem_cons_of_mem _ bm_46)) (hts (.instantiable RX1 2) (List.mem_cons_of_mem _ bm_55)) (hts (.initialized RX1) (List.mem_cons_of_mem _ bm_56)) hK zqhP zqhS (ci := 1) rfl [.int 0, .int 0] (fun j zqhj => by rcases (show j = 0 ∨ j = 1 by omega) with rfl | rfl <;> rfl) (Nat.le_of_ble_eq_true rfl) (Nat.le_of_ble_eq_true rfl) dX2_init_97 (fun zqH1 zqhP1 zqhS1 => ?_)
  replace zqhP := zqhP1
  replace zqhS := zqhS1
  clear zqhP1 zqhS1
  obtain ⟨G59, zqeG⟩ : ∃ q, q = kb_u G57 (z + 16) (.inr (1, [.int 0, .int 0])) := ⟨_, rfl⟩
  rw [← zqeG] at zqhP
  have zqhk : ∀ q : Nat, q ≠ z + 16 → G59 q = G57 q := fun q hq => by rw [zqeG]; exact kb_un hq
  replace zqhF : ∀ q : Nat, q ≠ h0 → q < z → G59 q = G q := fun q h1 h2 => (zqhk q (by omega)).trans (zqhF q h1 h2)
  replace zqo7 : G59 (z + 2) = .inl (cy 4, 2, .inr (.inr (.inr (.inr (fun _ => none))))) := (zqhk _ (kb_ne z (show 2 ≠ 16 by decide))).trans zqo7
  replace zqo9 : G59 (z + 3) = .inl (cy 1, 60, .inl (fun _ => 0)) := (zqhk _ (kb_ne z (show 3 ≠ 16 by decide))).trans zqo9
  replace zqo11 : G59 (z + 4) = .inl (cy 0, 24, .inl (fun _ => 0)) := (zqhk _ (kb_ne z (show 4 ≠ 16 by decide))).trans zqo11
  replace zqoh : G59 h0 = .inr (2, [.int 0, .int 22, .int 1, .ref z, .int 0, .ref (z + 1), .int 0, .ref (z + 2), .ref (z + 3), .int 0, .ref (z + 4), .int 0]) := (zqhk _ (kb_h1 hz0 16)).trans zqoh
  replace zqu15_0 : G59 (z + 5) = .inr (0, [.int 0, .int 0, .int 0, .int 0, .int 0, .int 0]) := (zqhk _ (kb_ne z (show 5 ≠ 16 by decide))).trans zqu15_0
  replace zqu19_0 : G59 (z + 6) = .inr (0, [.int 0, .int 0, .int 0, .int 0, .int 0, .int 0]) := (zqhk _ (kb_ne z (show 6 ≠ 16 by decide))).trans zqu19_0
  replace zqu23_0 : G59 (z + 7) = .inr (0, [.int 0, .int 0, .int 0, .int 0, .int 0, .int 0]) := (zqhk _ (kb_ne z (show 7 ≠ 16 by decide))).trans zqu23_0
  replace zqu27_0 : G59 (z + 8) = .inr (0, [.int 0, .int 0, .int 0, .int 0, .int 0, .int 0]) := (zqhk _ (kb_ne z (show 8 ≠ 16 by decide))).trans zqu27_0
  replace zqu31_0 : G59 (z + 9) = .inr (0, [.int 0, .int 0, .int 0, .int 0, .int 0, .int 0]) := (zqhk _ (kb_ne z (show 9 ≠ 16 by decide))).trans zqu31_0
  replace zqu35_0 : G59 (z + 10) = .inr (0, [.int 0, .int 0, .int 0, .int 0, .int 0, .int 0]) := (zqhk _ (kb_ne z (show 10 ≠ 16 by decide))).trans zqu35_0
  replace zqu39_0 : G59 (z + 11) = .inr (0, [.int 0, .int 0, .int 0, .int 0, .int 0, .int 0]) := (zqhk _ (kb_ne z (show 11 ≠ 16 by decide))).trans zqu39_0
  replace zqu43_0 : G59 (z + 12) = .inr (0, [.int 0, .int 0, .int 0, .int 0, .int 0, .int 0]) := (zqhk _ (kb_ne z (show 12 ≠ 16 by decide))).trans zqu43_0
  replace zqu47_0 : G59 (z + 13) = .inr (0, [.int 0, .int 0, .int 0, .int 0, .int 0, .int 0]) := (zqhk _ (kb_ne z (show 13 ≠ 16 by decide))).trans zqu47_0
  replace zqo3 : G59 z = .inl (cy 2, 9, .inr (.inr (.inr (.inr (va_up (va_up (va_up (va_up (va_up (va_up (va_up (va_up (va_up (fun _ => none) 0 (some (z + 5))) 1 (some (z + 6))) 2 (some (z + 7))) 3 (some (z + 8))) 4 (some (z + 9))) 5 (some (z + 10))) 6 (some (z + 11))) 7 (some (z + 12))) 8 (some (z + 13))))))) := (zqhk _ (kb_ne z (show 0 ≠ 16 by decide))).trans zqo3
  replace zqu52_0 : G59 (z + 14) = .inr (1, [.int 0, .int 0]) := (zqhk _ (kb_ne z (show 14 ≠ 16 by decide))).trans zqu52_0
  replace zqu56_0 : G59 (z + 15) = .inr (1, [.int 0, .int 0]) := (zqhk _ (kb_ne z (show 15 ≠ 16 by decide))).trans zqu56_0
  replace zqo5 : G59 (z + 1) = .inl (cy 3, 6, .inr (.inr (.inr (.inr (va_up (va_up (fun _ => none) 0 (some (z + 14))) 1 (some (z + 15))))))) := (zqhk _ (kb_ne z (show 1 ≠ 16 by decide))).trans zqo5
  have zqo59 : G59 (z + 16) = .inr (1, [.int 0, .int 0]) := by rw [zqeG]; exact kb_us
  clear zqeG zqhk
  replace zqhP : kb_P D b G59 (z + 17) zqH1 := zqhP
  refine lv_dup hx hb dX2_init_100 rfl ?_
  refine kb_callN (rest := [.ref (z + 16), .int 2, .ref (z + 1)]) ⟨hx, hb, hml, hown, hts⟩ hK zqhP zqhS (c_X1_init l D cy b G59 (z + 17) (z + 16) (by omega) (by omega) zqo59) ⟨va_cnB 0 hts gX2_init_X1_init_n45 rfl rfl rfl (hK.2.2.2.2.2.2.1) (hts (.initialized RX1) (List.mem_cons_of_mem _ bm_56)) (by decide +kernel) ⟨Nat.le_of_ble_eq_true rfl, Nat.le_of_ble_eq_true rfl⟩, rfl, hts (.instanceMethod yX1_init) (by decide +kernel)⟩ hl.1 (Nat.le_of_ble_eq_true rfl) dX2_init_101 ⟨Nat.le_of_ble_eq_true rfl, Nat.le_of_ble_eq_true rfl⟩ (fun G60 zqH1 zqlocs1 zqw60 zqhP1 zqhS1 => ?_)
  replace zqhP := zqhP1
  replace zqhS := zqhS1
  clear zqhP1 zqhS1
  obtain ⟨zqw60a, zqw60⟩ := zqw60
  replace zqo7 : G60 (z + 2) = .inl (cy 4, 2, .inr (.inr (.inr (.inr (fun _ => none))))) := (zqw60 _ (kb_ne z (show 2 ≠ 16 by decide)) (kb_lt z (show 2 < 17 by decide))).trans zqo7
  replace zqo9 : G60 (z + 3) = .inl (cy 1, 60, .inl (fun _ => 0)) := (zqw60 _ (kb_ne z (show 3 ≠ 16 by decide)) (kb_lt z (show 3 < 17 by decide))).trans zqo9
  replace zqo11 : G60 (z + 4) = .inl (cy 0, 24, .inl (fun _ => 0)) := (zqw60 _ (kb_ne z (show 4 ≠ 16 by decide)) (kb_lt z (show 4 < 17 by decide))).trans zqo11
  replace zqoh : G60 h0 = .inr (2, [.int 0, .int 22, .int 1, .ref z, .int 0, .ref (z + 1), .int 0, .ref (z + 2), .ref (z + 3), .int 0, .ref (z + 4), .int 0]) := (zqw60 _ (kb_h1 hz0 16) (kb_h3 hz0 17)).trans zqoh
  replace zqu15_0 : G60 (z + 5) = .inr (0, [.int 0, .int 0, .int 0, .int 0, .int 0, .int 0]) := (zqw60 _ (kb_ne z (show 5 ≠ 16 by decide)) (kb_lt z (show 5 < 17 by decide))).trans zqu15_0
  replace zqu19_0 : G60 (z + 6) = .inr (0, [.int 0, .int 0, .int 0, .int 0, .int 0, .int 0]) := (zqw60 _ (kb_ne z (show 6 ≠ 16 by decide)) (kb_lt z (show 6 < 17 by decide))).trans zqu19_0
  replace zqu23_0 : G60 (z + 7) = .inr (0, [.int 0, .int 0, .int 0, .int 0, .int 0, .int 0]) := (zqw60 _ (kb_ne z (show 7 ≠ 16 by decide)) (kb_lt z (show 7 < 17 by decide))).trans zqu23_0
  replace zqu27_0 : G60 (z + 8) = .inr (0, [.int 0, .int 0, .int 0, .int 0, .int 0, .int 0]) := (zqw60 _ (kb_ne z (show 8 ≠ 16 by decide)) (kb_lt z (show 8 < 17 by decide))).trans zqu27_0
  replace zqu31_0 : G60 (z + 9) = .inr (0, [.int 0, .int 0, .int 0, .int 0, .int 0, .int 0]) := (zqw60 _ (kb_ne z (show 9 ≠ 16 by decide)) (kb_lt z (show 9 < 17 by decide))).trans zqu31_0
  replace zqu35_0 : G60 (z + 10) = .inr (0, [.int 0, .int 0, .int 0, .int 0, .int 0, .int 0]) := (zqw60 _ (kb_ne z (show 10 ≠ 16 by decide)) (kb_lt z (show 10 < 17 by decide))).trans zqu35_0
  replace zqu39_0 : G60 (z + 11) = .inr (0, [.int 0, .int 0, .int 0, .int 0, .int 0, .int 0]) := (zqw60 _ (kb_ne z (show 11 ≠ 16 by decide)) (kb_lt z (show 11 < 17 by decide))).trans zqu39_0
  replace zqu43_0 : G60 (z + 12) = .inr (0, [.int 0, .int 0, .int 0, .int 0, .int 0, .int 0]) := (zqw60 _ (kb_ne z (show 12 ≠ 16 by decide)) (kb_lt z (show 12 < 17 by decide))).trans zqu43_0
  replace zqu47_0 : G60 (z + 13) = .inr (0, [.int 0, .int 0, .int 0, .int 0, .int 0, .int 0]) := (zqw60 _ (kb_ne z (show 13 ≠ 16 by decide)) (kb_lt z (show 13 < 17 by decide))).trans zqu47_0
  replace zqo3 : G60 z = .inl (cy 2, 9, .inr (.inr (.inr (.inr (va_up (va_up (va_up (va_up (va_up (va_up (va_up (va_up (va_up (fun _ => none) 0 (some (z + 5))) 1 (some (z + 6))) 2 (some (z + 7))) 3 (some (z + 8))) 4 (some (z + 9))) 5 (some (z + 10))) 6 (some (z + 11))) 7 (some (z + 12))) 8 (some (z + 13))))))) := (zqw60 _ (kb_ne z (show 0 ≠ 16 by decide)) (kb_lt z (show 0 < 17 by decide))).trans zqo3
  replace zqu52_0 : G60 (z + 14) = .inr (1, [.int 0, .int 0]) := (zqw60 _ (kb_ne z (show 14 ≠ 16 by decide)) (kb_lt z (show 14 < 17 by decide))).trans zqu52_0
  replace zqu56_0 : G60 (z + 15) = .inr (1, [.int 0, .int 0]) := (zqw60 _ (kb_ne z (show 15 ≠ 16 by decide)) (kb_lt z (show 15 < 17 by decide))).trans zqu56_0
  replace zqo5 : G60 (z + 1) = .inl (cy 3, 6, .inr (.inr (.inr (.inr (va_up (va_up (fun _ => none) 0 (some (z + 14))) 1 (some (z + 15))))))) := (zqw60 _ (kb_ne z (show 1 ≠ 16 by decide)) (kb_lt z (show 1 < 17 by decide))).trans zqo5
  replace zqhF : ∀ q : Nat, q ≠ h0 → q < z → G60 q = G q := fun q h1 h2 => (zqw60 _ (by omega) (by omega)).trans (zqhF q h1 h2)
  have zqu60_0 := zqw60a
  replace zqhP : kb_P D b G60 (z + 17) zqH1 := zqhP
  have zqk2 : (2 : Int32).toInt = 2 := by decide +kernel
  refine kb_aast hx hb hK zqhP zqhS (by omega) (by omega) 3 1 zqo5 rfl (by omega) (by omega) zqu60_0 rfl (by omega) (by omega) dX2_init_104 (fun j zqH1 zqlocs1 zqej zqhj zqhP1 zqhS1 => ?_)
  replace zqhP := zqhP1
  replace zqhS := zqhS1
  clear zqhP1 zqhS1
  have zqej : j = 2 := by omega
  subst zqej
  obtain ⟨G61, zqeG⟩ : ∃ q, q = kb_u G60 (z + 1) (.inl (cy 3, 6, .inr (.inr (.inr (.inr (va_up (va_up (va_up (fun _ => none) 0 (some (z + 14))) 1 (some (z + 15))) 2 (some (z + 16)))))))) := ⟨_, rfl⟩
  rw [← zqeG] at zqhP
  have zqhk : ∀ q : Nat, q ≠ z + 1 → G61 q = G60 q := fun q hq => by rw [zqeG]; exact kb_un hq
  replace zqhF : ∀ q : Nat, q ≠ h0 → q < z → G61 q = G q := fun q h1 h2 => (zqhk q (by omega)).trans (zqhF q h1 h2)
  replace zqo7 : G61 (z + 2) = .inl (cy 4, 2, .inr (.inr (.inr (.inr (fun _ => none))))) := (zqhk _ (kb_ne z (show 2 ≠ 1 by decide))).trans zqo7
  replace zqo9 : G61 (z + 3) = .inl (cy 1, 60, .inl (fun _ => 0)) := (zqhk _ (kb_ne z (show 3 ≠ 1 by decide))).trans zqo9
  replace zqo11 : G61 (z + 4) = .inl (cy 0, 24, .inl (fun _ => 0)) := (zqhk _ (kb_ne z (show 4 ≠ 1 by decide))).trans zqo11
  replace zqoh : G61 h0 = .inr (2, [.int 0, .int 22, .int 1, .ref z, .int 0, .ref (z + 1), .int 0, .ref (z + 2), .ref (z + 3), .int 0, .ref (z + 4), .int 0]) := (zqhk _ (kb_h1 hz0 1)).trans zqoh
  replace zqu15_0 : G61 (z + 5) = .inr (0, [.int 0, .int 0, .int 0, .int 0, .int 0, .int 0]) := (zqhk _ (kb_ne z (show 5 ≠ 1 by decide))).trans zqu15_0
  replace zqu19_0 : G61 (z + 6) = .inr (0, [.int 0, .int 0, .int 0, .int 0, .int 0, .int 0]) := (zqhk _ (kb_ne z (show 6 ≠ 1 by decide))).trans zqu19_0
  replace zqu23_0 : G61 (z + 7) = .inr (0, [.int 0, .int 0, .int 0, .int 0, .int 0, .int 0]) := (zqhk _ (kb_ne z (show 7 ≠ 1 by decide))).trans zqu23_0
  replace zqu27_0 : G61 (z + 8) = .inr (0, [.int 0, .int 0, .int 0, .int 0, .int 0, .int 0]) := (zqhk _ (kb_ne z (show 8 ≠ 1 by decide))).trans zqu27_0
  replace zqu31_0 : G61 (z + 9) = .inr (0, [.int 0, .int 0, .int 0, .int 0, .int 0, .int 0]) := (zqhk _ (kb_ne z (show 9 ≠ 1 by decide))).trans zqu31_0
  replace zqu35_0 : G61 (z + 10) = .inr (0, [.int 0, .int 0, .int 0, .int 0, .int 0, .int 0]) := (zqhk _ (kb_ne z (show 10 ≠ 1 by decide))).trans zqu35_0
  replace zqu39_0 : G61 (z + 11) = .inr (0, [.int 0, .int 0, .int 0, .int 0, .int 0, .int 0]) := (zqhk _ (kb_ne z (show 11 ≠ 1 by decide))).trans zqu39_0
  replace zqu43_0 : G61 (z + 12) = .inr (0, [.int 0, .int 0, .int 0, .int 0, .int 0, .int 0]) := (zqhk _ (kb_ne z (show 12 ≠ 1 by decide))).trans zqu43_0
  replace zqu47_0 : G61 (z + 13) = .inr (0, [.int 0, .int 0, .int 0, .int 0, .int 0, .int 0]) := (zqhk _ (kb_ne z (show 13 ≠ 1 by decide))).trans zqu47_0
  replace zqo3 : G61 z = .inl (cy 2, 9, .inr (.inr (.inr (.inr (va_up (va_up (va_up (va_up (va_up (va_up (va_up (va_up (va_up (fun _ => none) 0 (some (z + 5))) 1 (some (z + 6))) 2 (some (z + 7))) 3 (some (z + 8))) 4 (some (z + 9))) 5 (some (z + 10))) 6 (some (z + 11))) 7 (some (z + 12))) 8 (some (z + 13))))))) := (zqhk _ (kb_ne z (show 0 ≠ 1 by decide))).trans zqo3
  replace zqu52_0 : G61 (z + 14) = .inr (1, [.int 0, .int 0]) := (zqhk _ (kb_ne z (show 14 ≠ 1 by decide))).trans zqu52_0
  replace zqu56_0 : G61 (z + 15) = .inr (1, [.int 0, .int 0]) := (zqhk _ (kb_ne z (show 15 ≠ 1 by decide))).trans zqu56_0
  replace zqu60_0 : G61 (z + 16) = .inr (1, [.int 0, .int 0]) := (zqhk _ (kb_ne z (show 16 ≠ 1 by decide))).trans zqu60_0
  replace zqo5 : G61 (z + 1) = .inl (cy 3, 6, .inr (.inr (.inr (.inr (va_up (va_up (va_up (fun _ => none) 0 (some (z + 14))) 1 (some (z + 15))) 2 (some (z + 16))))))) := by rw [zqeG]; exact kb_us
  clear zqeG zqhk
  refine lv_iinc (v := 3) (lv' := [(1, .int 3), (0, .ref h0)]) hx hb dX2_init_105 hl (k := 0) rfl (by decide) (by decide) rfl (fun ls hl => ?_)
  refine lv_goto (tgt := 86) hx hb dX2_init_108 (by decide) ?_
  refine lv_iload_n hx hb dX2_init_86 rfl (lv_at hl 0 rfl) ?_
  refine lv_bipush (v := 6) hx hb dX2_init_87 (by decide) ?_
  refine lv_icmp_ge (tgt := 111) hx hb dX2_init_89 (by decide) (fun zqc62 => absurd zqc62 (by decide)) (fun zqc62 => ?_)
  refine lv_aload_n hx hb dX2_init_92 rfl (lv_at hl 1 rfl) ?_
  refine kb_get hx hb hts hi2 hown hK zqhP (by omega) (by omega) zqoh rfl 5 (by decide) (hts (.fieldLink RX2 26 "NoonLaw$Realm" "people" "[LNoonLaw$Person;") (List.mem_cons_of_mem _ bm_47)) rfl rfl dX2_init_93 ?_
  refine lv_iload_n hx hb dX2_init_96 rfl (lv_at hl 0 rfl) ?_
  refine kb_new (C := RX1) (T := TX1) (N := 2) hx hb hts hi1 tyX1 tyX1_ok hown (hts (.classLink RX2 24 RX1) (List.mem_cons_of_mem _ bm_46)) (hts (.instantiable RX1 2) (List.mem_cons_of_mem _ bm_55)) (hts (.initialized RX1) (List.mem_cons_of_mem _ bm_56)) hK zqhP zqhS (ci := 1) rfl [.int 0, .int 0] (fun j zqhj => by rcases (show j = 0 ∨ j = 1 by omega) with rfl | rfl <;> rfl) (Nat.le_of_ble_eq_true rfl) (Nat.le_of_ble_eq_true rfl) dX2_init_97 (fun zqH1 zqhP1 zqhS1 => ?_)
  replace zqhP := zqhP1
  replace zqhS := zqhS1
  clear zqhP1 zqhS1
  obtain ⟨G63, zqeG⟩ : ∃ q, q = kb_u G61 (z + 17) (.inr (1, [.int 0, .int 0])) := ⟨_, rfl⟩
  rw [← zqeG] at zqhP
  have zqhk : ∀ q : Nat, q ≠ z + 17 → G63 q = G61 q := fun q hq => by rw [zqeG]; exact kb_un hq
  replace zqhF : ∀ q : Nat, q ≠ h0 → q < z → G63 q = G q := fun q h1 h2 => (zqhk q (by omega)).trans (zqhF q h1 h2)
  replace zqo7 : G63 (z + 2) = .inl (cy 4, 2, .inr (.inr (.inr (.inr (fun _ => none))))) := (zqhk _ (kb_ne z (show 2 ≠ 17 by decide))).trans zqo7
  replace zqo9 : G63 (z + 3) = .inl (cy 1, 60, .inl (fun _ => 0)) := (zqhk _ (kb_ne z (show 3 ≠ 17 by decide))).trans zqo9
  replace zqo11 : G63 (z + 4) = .inl (cy 0, 24, .inl (fun _ => 0)) := (zqhk _ (kb_ne z (show 4 ≠ 17 by decide))).trans zqo11
  replace zqoh : G63 h0 = .inr (2, [.int 0, .int 22, .int 1, .ref z, .int 0, .ref (z + 1), .int 0, .ref (z + 2), .ref (z + 3), .int 0, .ref (z + 4), .int 0]) := (zqhk _ (kb_h1 hz0 17)).trans zqoh
  replace zqu15_0 : G63 (z + 5) = .inr (0, [.int 0, .int 0, .int 0, .int 0, .int 0, .int 0]) := (zqhk _ (kb_ne z (show 5 ≠ 17 by decide))).trans zqu15_0
  replace zqu19_0 : G63 (z + 6) = .inr (0, [.int 0, .int 0, .int 0, .int 0, .int 0, .int 0]) := (zqhk _ (kb_ne z (show 6 ≠ 17 by decide))).trans zqu19_0
  replace zqu23_0 : G63 (z + 7) = .inr (0, [.int 0, .int 0, .int 0, .int 0, .int 0, .int 0]) := (zqhk _ (kb_ne z (show 7 ≠ 17 by decide))).trans zqu23_0
  replace zqu27_0 : G63 (z + 8) = .inr (0, [.int 0, .int 0, .int 0, .int 0, .int 0, .int 0]) := (zqhk _ (kb_ne z (show 8 ≠ 17 by decide))).trans zqu27_0
  replace zqu31_0 : G63 (z + 9) = .inr (0, [.int 0, .int 0, .int 0, .int 0, .int 0, .int 0]) := (zqhk _ (kb_ne z (show 9 ≠ 17 by decide))).trans zqu31_0
  replace zqu35_0 : G63 (z + 10) = .inr (0, [.int 0, .int 0, .int 0, .int 0, .int 0, .int 0]) := (zqhk _ (kb_ne z (show 10 ≠ 17 by decide))).trans zqu35_0
  replace zqu39_0 : G63 (z + 11) = .inr (0, [.int 0, .int 0, .int 0, .int 0, .int 0, .int 0]) := (zqhk _ (kb_ne z (show 11 ≠ 17 by decide))).trans zqu39_0
  replace zqu43_0 : G63 (z + 12) = .inr (0, [.int 0, .int 0, .int 0, .int 0, .int 0, .int 0]) := (zqhk _ (kb_ne z (show 12 ≠ 17 by decide))).trans zqu43_0
  replace zqu47_0 : G63 (z + 13) = .inr (0, [.int 0, .int 0, .int 0, .int 0, .int 0, .int 0]) := (zqhk _ (kb_ne z (show 13 ≠ 17 by decide))).trans zqu47_0
  replace zqo3 : G63 z = .inl (cy 2, 9, .inr (.inr (.inr (.inr (va_up (va_up (va_up (va_up (va_up (va_up (va_up (va_up (va_up (fun _ => none) 0 (some (z + 5))) 1 (some (z + 6))) 2 (some (z + 7))) 3 (some (z + 8))) 4 (some (z + 9))) 5 (some (z + 10))) 6 (some (z + 11))) 7 (some (z + 12))) 8 (some (z + 13))))))) := (zqhk _ (kb_ne z (show 0 ≠ 17 by decide))).trans zqo3
  replace zqu52_0 : G63 (z + 14) = .inr (1, [.int 0, .int 0]) := (zqhk _ (kb_ne z (show 14 ≠ 17 by decide))).trans zqu52_0
  replace zqu56_0 : G63 (z + 15) = .inr (1, [.int 0, .int 0]) := (zqhk _ (kb_ne z (show 15 ≠ 17 by decide))).trans zqu56_0
  replace zqu60_0 : G63 (z + 16) = .inr (1, [.int 0, .int 0]) := (zqhk _ (kb_ne z (show 16 ≠ 17 by decide))).trans zqu60_0
  replace zqo5 : G63 (z + 1) = .inl (cy 3, 6, .inr (.inr (.inr (.inr (va_up (va_up (va_up (fun _ => none) 0 (some (z + 14))) 1 (some (z + 15))) 2 (some (z + 16))))))) := (zqhk _ (kb_ne z (show 1 ≠ 17 by decide))).trans zqo5
  have zqo63 : G63 (z + 17) = .inr (1, [.int 0, .int 0]) := by rw [zqeG]; exact kb_us
  clear zqeG zqhk
  replace zqhP : kb_P D b G63 (z + 18) zqH1 := zqhP
  refine lv_dup hx hb dX2_init_100 rfl ?_
  refine kb_callN (rest := [.ref (z + 17), .int 3, .ref (z + 1)]) ⟨hx, hb, hml, hown, hts⟩ hK zqhP zqhS (c_X1_init l D cy b G63 (z + 18) (z + 17) (by omega) (by omega) zqo63) ⟨va_cnB 0 hts gX2_init_X1_init_n45 rfl rfl rfl (hK.2.2.2.2.2.2.1) (hts (.initialized RX1) (List.mem_cons_of_mem _ bm_56)) (by decide +kernel) ⟨Nat.le_of_ble_eq_true rfl, Nat.le_of_ble_eq_true rfl⟩, rfl, hts (.instanceMethod yX1_init) (by decide +kernel)⟩ hl.1 (Nat.le_of_ble_eq_true rfl) dX2_init_101 ⟨Nat.le_of_ble_eq_true rfl, Nat.le_of_ble_eq_true rfl⟩ (fun G64 zqH1 zqlocs1 zqw64 zqhP1 zqhS1 => ?_)
  replace zqhP := zqhP1
  replace zqhS := zqhS1
  clear zqhP1 zqhS1
  obtain ⟨zqw64a, zqw64⟩ := zqw64
  replace zqo7 : G64 (z + 2) = .inl (cy 4, 2, .inr (.inr (.inr (.inr (fun _ => none))))) := (zqw64 _ (kb_ne z (show 2 ≠ 17 by decide)) (kb_lt z (show 2 < 18 by decide))).trans zqo7
  replace zqo9 : G64 (z + 3) = .inl (cy 1, 60, .inl (fun _ => 0)) := (zqw64 _ (kb_ne z (show 3 ≠ 17 by decide)) (kb_lt z (show 3 < 18 by decide))).trans zqo9
  replace zqo11 : G64 (z + 4) = .inl (cy 0, 24, .inl (fun _ => 0)) := (zqw64 _ (kb_ne z (show 4 ≠ 17 by decide)) (kb_lt z (show 4 < 18 by decide))).trans zqo11
  replace zqoh : G64 h0 = .inr (2, [.int 0, .int 22, .int 1, .ref z, .int 0, .ref (z + 1), .int 0, .ref (z + 2), .ref (z + 3), .int 0, .ref (z + 4), .int 0]) := (zqw64 _ (kb_h1 hz0 17) (kb_h3 hz0 18)).trans zqoh
  replace zqu15_0 : G64 (z + 5) = .inr (0, [.int 0, .int 0, .int 0, .int 0, .int 0, .int 0]) := (zqw64 _ (kb_ne z (show 5 ≠ 17 by decide)) (kb_lt z (show 5 < 18 by decide))).trans zqu15_0
  replace zqu19_0 : G64 (z + 6) = .inr (0, [.int 0, .int 0, .int 0, .int 0, .int 0, .int 0]) := (zqw64 _ (kb_ne z (show 6 ≠ 17 by decide)) (kb_lt z (show 6 < 18 by decide))).trans zqu19_0
  replace zqu23_0 : G64 (z + 7) = .inr (0, [.int 0, .int 0, .int 0, .int 0, .int 0, .int 0]) := (zqw64 _ (kb_ne z (show 7 ≠ 17 by decide)) (kb_lt z (show 7 < 18 by decide))).trans zqu23_0
  replace zqu27_0 : G64 (z + 8) = .inr (0, [.int 0, .int 0, .int 0, .int 0, .int 0, .int 0]) := (zqw64 _ (kb_ne z (show 8 ≠ 17 by decide)) (kb_lt z (show 8 < 18 by decide))).trans zqu27_0
  replace zqu31_0 : G64 (z + 9) = .inr (0, [.int 0, .int 0, .int 0, .int 0, .int 0, .int 0]) := (zqw64 _ (kb_ne z (show 9 ≠ 17 by decide)) (kb_lt z (show 9 < 18 by decide))).trans zqu31_0
  replace zqu35_0 : G64 (z + 10) = .inr (0, [.int 0, .int 0, .int 0, .int 0, .int 0, .int 0]) := (zqw64 _ (kb_ne z (show 10 ≠ 17 by decide)) (kb_lt z (show 10 < 18 by decide))).trans zqu35_0
  replace zqu39_0 : G64 (z + 11) = .inr (0, [.int 0, .int 0, .int 0, .int 0, .int 0, .int 0]) := (zqw64 _ (kb_ne z (show 11 ≠ 17 by decide)) (kb_lt z (show 11 < 18 by decide))).trans zqu39_0
  replace zqu43_0 : G64 (z + 12) = .inr (0, [.int 0, .int 0, .int 0, .int 0, .int 0, .int 0]) := (zqw64 _ (kb_ne z (show 12 ≠ 17 by decide)) (kb_lt z (show 12 < 18 by decide))).trans zqu43_0
  replace zqu47_0 : G64 (z + 13) = .inr (0, [.int 0, .int 0, .int 0, .int 0, .int 0, .int 0]) := (zqw64 _ (kb_ne z (show 13 ≠ 17 by decide)) (kb_lt z (show 13 < 18 by decide))).trans zqu47_0
  replace zqo3 : G64 z = .inl (cy 2, 9, .inr (.inr (.inr (.inr (va_up (va_up (va_up (va_up (va_up (va_up (va_up (va_up (va_up (fun _ => none) 0 (some (z + 5))) 1 (some (z + 6))) 2 (some (z + 7))) 3 (some (z + 8))) 4 (some (z + 9))) 5 (some (z + 10))) 6 (some (z + 11))) 7 (some (z + 12))) 8 (some (z + 13))))))) := (zqw64 _ (kb_ne z (show 0 ≠ 17 by decide)) (kb_lt z (show 0 < 18 by decide))).trans zqo3
  replace zqu52_0 : G64 (z + 14) = .inr (1, [.int 0, .int 0]) := (zqw64 _ (kb_ne z (show 14 ≠ 17 by decide)) (kb_lt z (show 14 < 18 by decide))).trans zqu52_0
  replace zqu56_0 : G64 (z + 15) = .inr (1, [.int 0, .int 0]) := (zqw64 _ (kb_ne z (show 15 ≠ 17 by decide)) (kb_lt z (show 15 < 18 by decide))).trans zqu56_0
  replace zqu60_0 : G64 (z + 16) = .inr (1, [.int 0, .int 0]) := (zqw64 _ (kb_ne z (show 16 ≠ 17 by decide)) (kb_lt z (show 16 < 18 by decide))).trans zqu60_0
  replace zqo5 : G64 (z + 1) = .inl (cy 3, 6, .inr (.inr (.inr (.inr (va_up (va_up (va_up (fun _ => none) 0 (some (z + 14))) 1 (some (z + 15))) 2 (some (z + 16))))))) := (zqw64 _ (kb_ne z (show 1 ≠ 17 by decide)) (kb_lt z (show 1 < 18 by decide))).trans zqo5
  replace zqhF : ∀ q : Nat, q ≠ h0 → q < z → G64 q = G q := fun q h1 h2 => (zqw64 _ (by omega) (by omega)).trans (zqhF q h1 h2)
  have zqu64_0 := zqw64a
  replace zqhP : kb_P D b G64 (z + 18) zqH1 := zqhP
  have zqk3 : (3 : Int32).toInt = 3 := by decide +kernel
  refine kb_aast hx hb hK zqhP zqhS (by omega) (by omega) 3 1 zqo5 rfl (by omega) (by omega) zqu64_0 rfl (by omega) (by omega) dX2_init_104 (fun j zqH1 zqlocs1 zqej zqhj zqhP1 zqhS1 => ?_)
  replace zqhP := zqhP1
  replace zqhS := zqhS1
  clear zqhP1 zqhS1
  have zqej : j = 3 := by omega
  subst zqej
  obtain ⟨G65, zqeG⟩ : ∃ q, q = kb_u G64 (z + 1) (.inl (cy 3, 6, .inr (.inr (.inr (.inr (va_up (va_up (va_up (va_up (fun _ => none) 0 (some (z + 14))) 1 (some (z + 15))) 2 (some (z + 16))) 3 (some (z + 17)))))))) := ⟨_, rfl⟩
  rw [← zqeG] at zqhP
  have zqhk : ∀ q : Nat, q ≠ z + 1 → G65 q = G64 q := fun q hq => by rw [zqeG]; exact kb_un hq
  replace zqhF : ∀ q : Nat, q ≠ h0 → q < z → G65 q = G q := fun q h1 h2 => (zqhk q (by omega)).trans (zqhF q h1 h2)
  replace zqo7 : G65 (z + 2) = .inl (cy 4, 2, .inr (.inr (.inr (.inr (fun _ => none))))) := (zqhk _ (kb_ne z (show 2 ≠ 1 by decide))).trans zqo7
  replace zqo9 : G65 (z + 3) = .inl (cy 1, 60, .inl (fun _ => 0)) := (zqhk _ (kb_ne z (show 3 ≠ 1 by decide))).trans zqo9
  replace zqo11 : G65 (z + 4) = .inl (cy 0, 24, .inl (fun _ => 0)) := (zqhk _ (kb_ne z (show 4 ≠ 1 by decide))).trans zqo11
  replace zqoh : G65 h0 = .inr (2, [.int 0, .int 22, .int 1, .ref z, .int 0, .ref (z + 1), .int 0, .ref (z + 2), .ref (z + 3), .int 0, .ref (z + 4), .int 0]) := (zqhk _ (kb_h1 hz0 1)).trans zqoh
  replace zqu15_0 : G65 (z + 5) = .inr (0, [.int 0, .int 0, .int 0, .int 0, .int 0, .int 0]) := (zqhk _ (kb_ne z (show 5 ≠ 1 by decide))).trans zqu15_0
  replace zqu19_0 : G65 (z + 6) = .inr (0, [.int 0, .int 0, .int 0, .int 0, .int 0, .int 0]) := (zqhk _ (kb_ne z (show 6 ≠ 1 by decide))).trans zqu19_0
  replace zqu23_0 : G65 (z + 7) = .inr (0, [.int 0, .int 0, .int 0, .int 0, .int 0, .int 0]) := (zqhk _ (kb_ne z (show 7 ≠ 1 by decide))).trans zqu23_0
  replace zqu27_0 : G65 (z + 8) = .inr (0, [.int 0, .int 0, .int 0, .int 0, .int 0, .int 0]) := (zqhk _ (kb_ne z (show 8 ≠ 1 by decide))).trans zqu27_0
  replace zqu31_0 : G65 (z + 9) = .inr (0, [.int 0, .int 0, .int 0, .int 0, .int 0, .int 0]) := (zqhk _ (kb_ne z (show 9 ≠ 1 by decide))).trans zqu31_0
  replace zqu35_0 : G65 (z + 10) = .inr (0, [.int 0, .int 0, .int 0, .int 0, .int 0, .int 0]) := (zqhk _ (kb_ne z (show 10 ≠ 1 by decide))).trans zqu35_0
  replace zqu39_0 : G65 (z + 11) = .inr (0, [.int 0, .int 0, .int 0, .int 0, .int 0, .int 0]) := (zqhk _ (kb_ne z (show 11 ≠ 1 by decide))).trans zqu39_0
  replace zqu43_0 : G65 (z + 12) = .inr (0, [.int 0, .int 0, .int 0, .int 0, .int 0, .int 0]) := (zqhk _ (kb_ne z (show 12 ≠ 1 by decide))).trans zqu43_0
  replace zqu47_0 : G65 (z + 13) = .inr (0, [.int 0, .int 0, .int 0, .int 0, .int 0, .int 0]) := (zqhk _ (kb_ne z (show 13 ≠ 1 by decide))).trans zqu47_0
  replace zqo3 : G65 z = .inl (cy 2, 9, .inr (.inr (.inr (.inr (va_up (va_up (va_up (va_up (va_up (va_up (va_up (va_up (va_up (fun _ => none) 0 (some (z + 5))) 1 (some (z + 6))) 2 (some (z + 7))) 3 (some (z + 8))) 4 (some (z + 9))) 5 (some (z + 10))) 6 (some (z + 11))) 7 (some (z + 12))) 8 (some (z + 13))))))) := (zqhk _ (kb_ne z (show 0 ≠ 1 by decide))).trans zqo3
  replace zqu52_0 : G65 (z + 14) = .inr (1, [.int 0, .int 0]) := (zqhk _ (kb_ne z (show 14 ≠ 1 by decide))).trans zqu52_0
  replace zqu56_0 : G65 (z + 15) = .inr (1, [.int 0, .int 0]) := (zqhk _ (kb_ne z (show 15 ≠ 1 by decide))).trans zqu56_0
  replace zqu60_0 : G65 (z + 16) = .inr (1, [.int 0, .int 0]) := (zqhk _ (kb_ne z (show 16 ≠ 1 by decide))).trans zqu60_0
  replace zqu64_0 : G65 (z + 17) = .inr (1, [.int 0, .int 0]) := (zqhk _ (kb_ne z (show 17 ≠ 1 by decide))).trans zqu64_0
  replace zqo5 : G65 (z + 1) = .inl (cy 3, 6, .inr (.inr (.inr (.inr (va_up (va_up (va_up (va_up (fun _ => none) 0 (some (z + 14))) 1 (some (z + 15))) 2 (some (z + 16))) 3 (some (z + 17))))))) := by rw [zqeG]; exact kb_us
  clear zqeG zqhk
  refine lv_iinc (v := 4) (lv' := [(1, .int 4), (0, .ref h0)]) hx hb dX2_init_105 hl (k := 0) rfl (by decide) (by decide) rfl (fun ls hl => ?_)
  refine lv_goto (tgt := 86) hx hb dX2_init_108 (by decide) ?_
  refine lv_iload_n hx hb dX2_init_86 rfl (lv_at hl 0 rfl) ?_
  refine lv_bipush (v := 6) hx hb dX2_init_87 (by decide) ?_
  refine lv_icmp_ge (tgt := 111) hx hb dX2_init_89 (by decide) (fun zqc66 => absurd zqc66 (by decide)) (fun zqc66 => ?_)
  refine lv_aload_n hx hb dX2_init_92 rfl (lv_at hl 1 rfl) ?_
  refine kb_get hx hb hts hi2 hown hK zqhP (by omega) (by omega) zqoh rfl 5 (by decide) (hts (.fieldLink RX2 26 "NoonLaw$Realm" "people" "[LNoonLaw$Person;") (List.mem_cons_of_mem _ bm_47)) rfl rfl dX2_init_93 ?_
  refine lv_iload_n hx hb dX2_init_96 rfl (lv_at hl 0 rfl) ?_
  refine kb_new (C := RX1) (T := TX1) (N := 2) hx hb hts hi1 tyX1 tyX1_ok hown (hts (.classLink RX2 24 RX1) (List.mem_cons_of_mem _ bm_46)) (hts (.instantiable RX1 2) (List.mem_cons_of_mem _ bm_55)) (hts (.initialized RX1) (List.mem_cons_of_mem _ bm_56)) hK zqhP zqhS (ci := 1) rfl [.int 0, .int 0] (fun j zqhj => by rcases (show j = 0 ∨ j = 1 by omega) with rfl | rfl <;> rfl) (Nat.le_of_ble_eq_true rfl) (Nat.le_of_ble_eq_true rfl) dX2_init_97 (fun zqH1 zqhP1 zqhS1 => ?_)
  replace zqhP := zqhP1
  replace zqhS := zqhS1
  clear zqhP1 zqhS1
  obtain ⟨G67, zqeG⟩ : ∃ q, q = kb_u G65 (z + 18) (.inr (1, [.int 0, .int 0])) := ⟨_, rfl⟩
  rw [← zqeG] at zqhP
  have zqhk : ∀ q : Nat, q ≠ z + 18 → G67 q = G65 q := fun q hq => by rw [zqeG]; exact kb_un hq
  replace zqhF : ∀ q : Nat, q ≠ h0 → q < z → G67 q = G q := fun q h1 h2 => (zqhk q (by omega)).trans (zqhF q h1 h2)
  replace zqo7 : G67 (z + 2) = .inl (cy 4, 2, .inr (.inr (.inr (.inr (fun _ => none))))) := (zqhk _ (kb_ne z (show 2 ≠ 18 by decide))).trans zqo7
  replace zqo9 : G67 (z + 3) = .inl (cy 1, 60, .inl (fun _ => 0)) := (zqhk _ (kb_ne z (show 3 ≠ 18 by decide))).trans zqo9
  replace zqo11 : G67 (z + 4) = .inl (cy 0, 24, .inl (fun _ => 0)) := (zqhk _ (kb_ne z (show 4 ≠ 18 by decide))).trans zqo11
  replace zqoh : G67 h0 = .inr (2, [.int 0, .int 22, .int 1, .ref z, .int 0, .ref (z + 1), .int 0, .ref (z + 2), .ref (z + 3), .int 0, .ref (z + 4), .int 0]) := (zqhk _ (kb_h1 hz0 18)).trans zqoh
  replace zqu15_0 : G67 (z + 5) = .inr (0, [.int 0, .int 0, .int 0, .int 0, .int 0, .int 0]) := (zqhk _ (kb_ne z (show 5 ≠ 18 by decide))).trans zqu15_0
  replace zqu19_0 : G67 (z + 6) = .inr (0, [.int 0, .int 0, .int 0, .int 0, .int 0, .int 0]) := (zqhk _ (kb_ne z (show 6 ≠ 18 by decide))).trans zqu19_0
  replace zqu23_0 : G67 (z + 7) = .inr (0, [.int 0, .int 0, .int 0, .int 0, .int 0, .int 0]) := (zqhk _ (kb_ne z (show 7 ≠ 18 by decide))).trans zqu23_0
  replace zqu27_0 : G67 (z + 8) = .inr (0, [.int 0, .int 0, .int 0, .int 0, .int 0, .int 0]) := (zqhk _ (kb_ne z (show 8 ≠ 18 by decide))).trans zqu27_0
  replace zqu31_0 : G67 (z + 9) = .inr (0, [.int 0, .int 0, .int 0, .int 0, .int 0, .int 0]) := (zqhk _ (kb_ne z (show 9 ≠ 18 by decide))).trans zqu31_0
  replace zqu35_0 : G67 (z + 10) = .inr (0, [.int 0, .int 0, .int 0, .int 0, .int 0, .int 0]) := (zqhk _ (kb_ne z (show 10 ≠ 18 by decide))).trans zqu35_0
  replace zqu39_0 : G67 (z + 11) = .inr (0, [.int 0, .int 0, .int 0, .int 0, .int 0, .int 0]) := (zqhk _ (kb_ne z (show 11 ≠ 18 by decide))).trans zqu39_0
  replace zqu43_0 : G67 (z + 12) = .inr (0, [.int 0, .int 0, .int 0, .int 0, .int 0, .int 0]) := (zqhk _ (kb_ne z (show 12 ≠ 18 by decide))).trans zqu43_0
  replace zqu47_0 : G67 (z + 13) = .inr (0, [.int 0, .int 0, .int 0, .int 0, .int 0, .int 0]) := (zqhk _ (kb_ne z (show 13 ≠ 18 by decide))).trans zqu47_0
  replace zqo3 : G67 z = .inl (cy 2, 9, .inr (.inr (.inr (.inr (va_up (va_up (va_up (va_up (va_up (va_up (va_up (va_up (va_up (fun _ => none) 0 (some (z + 5))) 1 (some (z + 6))) 2 (some (z + 7))) 3 (some (z + 8))) 4 (some (z + 9))) 5 (some (z + 10))) 6 (some (z + 11))) 7 (some (z + 12))) 8 (some (z + 13))))))) := (zqhk _ (kb_ne z (show 0 ≠ 18 by decide))).trans zqo3
  replace zqu52_0 : G67 (z + 14) = .inr (1, [.int 0, .int 0]) := (zqhk _ (kb_ne z (show 14 ≠ 18 by decide))).trans zqu52_0
  replace zqu56_0 : G67 (z + 15) = .inr (1, [.int 0, .int 0]) := (zqhk _ (kb_ne z (show 15 ≠ 18 by decide))).trans zqu56_0
  replace zqu60_0 : G67 (z + 16) = .inr (1, [.int 0, .int 0]) := (zqhk _ (kb_ne z (show 16 ≠ 18 by decide))).trans zqu60_0
  replace zqu64_0 : G67 (z + 17) = .inr (1, [.int 0, .int 0]) := (zqhk _ (kb_ne z (show 17 ≠ 18 by decide))).trans zqu64_0
  replace zqo5 : G67 (z + 1) = .inl (cy 3, 6, .inr (.inr (.inr (.inr (va_up (va_up (va_up (va_up (fun _ => none) 0 (some (z + 14))) 1 (some (z + 15))) 2 (some (z + 16))) 3 (some (z + 17))))))) := (zqhk _ (kb_ne z (show 1 ≠ 18 by decide))).trans zqo5
  have zqo67 : G67 (z + 18) = .inr (1, [.int 0, .int 0]) := by rw [zqeG]; exact kb_us
  clear zqeG zqhk
  replace zqhP : kb_P D b G67 (z + 19) zqH1 := zqhP
  refine lv_dup hx hb dX2_init_100 rfl ?_
  refine kb_callN (rest := [.ref (z + 18), .int 4, .ref (z + 1)]) ⟨hx, hb, hml, hown, hts⟩ hK zqhP zqhS (c_X1_init l D cy b G67 (z + 19) (z + 18) (by omega) (by omega) zqo67) ⟨va_cnB 0 hts gX2_init_X1_init_n45 rfl rfl rfl (hK.2.2.2.2.2.2.1) (hts (.initialized RX1) (List.mem_cons_of_mem _ bm_56)) (by decide +kernel) ⟨Nat.le_of_ble_eq_true rfl, Nat.le_of_ble_eq_true rfl⟩, rfl, hts (.instanceMethod yX1_init) (by decide +kernel)⟩ hl.1 (Nat.le_of_ble_eq_true rfl) dX2_init_101 ⟨Nat.le_of_ble_eq_true rfl, Nat.le_of_ble_eq_true rfl⟩ (fun G68 zqH1 zqlocs1 zqw68 zqhP1 zqhS1 => ?_)
  replace zqhP := zqhP1
  replace zqhS := zqhS1
  clear zqhP1 zqhS1
  obtain ⟨zqw68a, zqw68⟩ := zqw68
  replace zqo7 : G68 (z + 2) = .inl (cy 4, 2, .inr (.inr (.inr (.inr (fun _ => none))))) := (zqw68 _ (kb_ne z (show 2 ≠ 18 by decide)) (kb_lt z (show 2 < 19 by decide))).trans zqo7
  replace zqo9 : G68 (z + 3) = .inl (cy 1, 60, .inl (fun _ => 0)) := (zqw68 _ (kb_ne z (show 3 ≠ 18 by decide)) (kb_lt z (show 3 < 19 by decide))).trans zqo9
  replace zqo11 : G68 (z + 4) = .inl (cy 0, 24, .inl (fun _ => 0)) := (zqw68 _ (kb_ne z (show 4 ≠ 18 by decide)) (kb_lt z (show 4 < 19 by decide))).trans zqo11
  replace zqoh : G68 h0 = .inr (2, [.int 0, .int 22, .int 1, .ref z, .int 0, .ref (z + 1), .int 0, .ref (z + 2), .ref (z + 3), .int 0, .ref (z + 4), .int 0]) := (zqw68 _ (kb_h1 hz0 18) (kb_h3 hz0 19)).trans zqoh
  replace zqu15_0 : G68 (z + 5) = .inr (0, [.int 0, .int 0, .int 0, .int 0, .int 0, .int 0]) := (zqw68 _ (kb_ne z (show 5 ≠ 18 by decide)) (kb_lt z (show 5 < 19 by decide))).trans zqu15_0
  replace zqu19_0 : G68 (z + 6) = .inr (0, [.int 0, .int 0, .int 0, .int 0, .int 0, .int 0]) := (zqw68 _ (kb_ne z (show 6 ≠ 18 by decide)) (kb_lt z (show 6 < 19 by decide))).trans zqu19_0
  replace zqu23_0 : G68 (z + 7) = .inr (0, [.int 0, .int 0, .int 0, .int 0, .int 0, .int 0]) := (zqw68 _ (kb_ne z (show 7 ≠ 18 by decide)) (kb_lt z (show 7 < 19 by decide))).trans zqu23_0
  replace zqu27_0 : G68 (z + 8) = .inr (0, [.int 0, .int 0, .int 0, .int 0, .int 0, .int 0]) := (zqw68 _ (kb_ne z (show 8 ≠ 18 by decide)) (kb_lt z (show 8 < 19 by decide))).trans zqu27_0
  replace zqu31_0 : G68 (z + 9) = .inr (0, [.int 0, .int 0, .int 0, .int 0, .int 0, .int 0]) := (zqw68 _ (kb_ne z (show 9 ≠ 18 by decide)) (kb_lt z (show 9 < 19 by decide))).trans zqu31_0
  replace zqu35_0 : G68 (z + 10) = .inr (0, [.int 0, .int 0, .int 0, .int 0, .int 0, .int 0]) := (zqw68 _ (kb_ne z (show 10 ≠ 18 by decide)) (kb_lt z (show 10 < 19 by decide))).trans zqu35_0
  replace zqu39_0 : G68 (z + 11) = .inr (0, [.int 0, .int 0, .int 0, .int 0, .int 0, .int 0]) := (zqw68 _ (kb_ne z (show 11 ≠ 18 by decide)) (kb_lt z (show 11 < 19 by decide))).trans zqu39_0
  replace zqu43_0 : G68 (z + 12) = .inr (0, [.int 0, .int 0, .int 0, .int 0, .int 0, .int 0]) := (zqw68 _ (kb_ne z (show 12 ≠ 18 by decide)) (kb_lt z (show 12 < 19 by decide))).trans zqu43_0
  replace zqu47_0 : G68 (z + 13) = .inr (0, [.int 0, .int 0, .int 0, .int 0, .int 0, .int 0]) := (zqw68 _ (kb_ne z (show 13 ≠ 18 by decide)) (kb_lt z (show 13 < 19 by decide))).trans zqu47_0
  replace zqo3 : G68 z = .inl (cy 2, 9, .inr (.inr (.inr (.inr (va_up (va_up (va_up (va_up (va_up (va_up (va_up (va_up (va_up (fun _ => none) 0 (some (z + 5))) 1 (some (z + 6))) 2 (some (z + 7))) 3 (some (z + 8))) 4 (some (z + 9))) 5 (some (z + 10))) 6 (some (z + 11))) 7 (some (z + 12))) 8 (some (z + 13))))))) := (zqw68 _ (kb_ne z (show 0 ≠ 18 by decide)) (kb_lt z (show 0 < 19 by decide))).trans zqo3
  replace zqu52_0 : G68 (z + 14) = .inr (1, [.int 0, .int 0]) := (zqw68 _ (kb_ne z (show 14 ≠ 18 by decide)) (kb_lt z (show 14 < 19 by decide))).trans zqu52_0
  replace zqu56_0 : G68 (z + 15) = .inr (1, [.int 0, .int 0]) := (zqw68 _ (kb_ne z (show 15 ≠ 18 by decide)) (kb_lt z (show 15 < 19 by decide))).trans zqu56_0
  replace zqu60_0 : G68 (z + 16) = .inr (1, [.int 0, .int 0]) := (zqw68 _ (kb_ne z (show 16 ≠ 18 by decide)) (kb_lt z (show 16 < 19 by decide))).trans zqu60_0
  replace zqu64_0 : G68 (z + 17) = .inr (1, [.int 0, .int 0]) := (zqw68 _ (kb_ne z (show 17 ≠ 18 by decide)) (kb_lt z (show 17 < 19 by decide))).trans zqu64_0
  replace zqo5 : G68 (z + 1) = .inl (cy 3, 6, .inr (.inr (.inr (.inr (va_up (va_up (va_up (va_up (fun _ => none) 0 (some (z + 14))) 1 (some (z + 15))) 2 (some (z + 16))) 3 (some (z + 17))))))) := (zqw68 _ (kb_ne z (show 1 ≠ 18 by decide)) (kb_lt z (show 1 < 19 by decide))).trans zqo5
  replace zqhF : ∀ q : Nat, q ≠ h0 → q < z → G68 q = G q := fun q h1 h2 => (zqw68 _ (by omega) (by omega)).trans (zqhF q h1 h2)
  have zqu68_0 := zqw68a
  replace zqhP : kb_P D b G68 (z + 19) zqH1 := zqhP
  have zqk4 : (4 : Int32).toInt = 4 := by decide +kernel
  refine kb_aast hx hb hK zqhP zqhS (by omega) (by omega) 3 1 zqo5 rfl (by omega) (by omega) zqu68_0 rfl (by omega) (by omega) dX2_init_104 (fun j zqH1 zqlocs1 zqej zqhj zqhP1 zqhS1 => ?_)
  replace zqhP := zqhP1
  replace zqhS := zqhS1
  clear zqhP1 zqhS1
  have zqej : j = 4 := by omega
  subst zqej
  obtain ⟨G69, zqeG⟩ : ∃ q, q = kb_u G68 (z + 1) (.inl (cy 3, 6, .inr (.inr (.inr (.inr (va_up (va_up (va_up (va_up (va_up (fun _ => none) 0 (some (z + 14))) 1 (some (z + 15))) 2 (some (z + 16))) 3 (some (z + 17))) 4 (some (z + 18)))))))) := ⟨_, rfl⟩
  rw [← zqeG] at zqhP
  have zqhk : ∀ q : Nat, q ≠ z + 1 → G69 q = G68 q := fun q hq => by rw [zqeG]; exact kb_un hq
  replace zqhF : ∀ q : Nat, q ≠ h0 → q < z → G69 q = G q := fun q h1 h2 => (zqhk q (by omega)).trans (zqhF q h1 h2)
  replace zqo7 : G69 (z + 2) = .inl (cy 4, 2, .inr (.inr (.inr (.inr (fun _ => none))))) := (zqhk _ (kb_ne z (show 2 ≠ 1 by decide))).trans zqo7
  replace zqo9 : G69 (z + 3) = .inl (cy 1, 60, .inl (fun _ => 0)) := (zqhk _ (kb_ne z (show 3 ≠ 1 by decide))).trans zqo9
  replace zqo11 : G69 (z + 4) = .inl (cy 0, 24, .inl (fun _ => 0)) := (zqhk _ (kb_ne z (show 4 ≠ 1 by decide))).trans zqo11
  replace zqoh : G69 h0 = .inr (2, [.int 0, .int 22, .int 1, .ref z, .int 0, .ref (z + 1), .int 0, .ref (z + 2), .ref (z + 3), .int 0, .ref (z + 4), .int 0]) := (zqhk _ (kb_h1 hz0 1)).trans zqoh
  replace zqu15_0 : G69 (z + 5) = .inr (0, [.int 0, .int 0, .int 0, .int 0, .int 0, .int 0]) := (zqhk _ (kb_ne z (show 5 ≠ 1 by decide))).trans zqu15_0
  replace zqu19_0 : G69 (z + 6) = .inr (0, [.int 0, .int 0, .int 0, .int 0, .int 0, .int 0]) := (zqhk _ (kb_ne z (show 6 ≠ 1 by decide))).trans zqu19_0
  replace zqu23_0 : G69 (z + 7) = .inr (0, [.int 0, .int 0, .int 0, .int 0, .int 0, .int 0]) := (zqhk _ (kb_ne z (show 7 ≠ 1 by decide))).trans zqu23_0
  replace zqu27_0 : G69 (z + 8) = .inr (0, [.int 0, .int 0, .int 0, .int 0, .int 0, .int 0]) := (zqhk _ (kb_ne z (show 8 ≠ 1 by decide))).trans zqu27_0
  replace zqu31_0 : G69 (z + 9) = .inr (0, [.int 0, .int 0, .int 0, .int 0, .int 0, .int 0]) := (zqhk _ (kb_ne z (show 9 ≠ 1 by decide))).trans zqu31_0
  replace zqu35_0 : G69 (z + 10) = .inr (0, [.int 0, .int 0, .int 0, .int 0, .int 0, .int 0]) := (zqhk _ (kb_ne z (show 10 ≠ 1 by decide))).trans zqu35_0
  replace zqu39_0 : G69 (z + 11) = .inr (0, [.int 0, .int 0, .int 0, .int 0, .int 0, .int 0]) := (zqhk _ (kb_ne z (show 11 ≠ 1 by decide))).trans zqu39_0
  replace zqu43_0 : G69 (z + 12) = .inr (0, [.int 0, .int 0, .int 0, .int 0, .int 0, .int 0]) := (zqhk _ (kb_ne z (show 12 ≠ 1 by decide))).trans zqu43_0
  replace zqu47_0 : G69 (z + 13) = .inr (0, [.int 0, .int 0, .int 0, .int 0, .int 0, .int 0]) := (zqhk _ (kb_ne z (show 13 ≠ 1 by decide))).trans zqu47_0
  replace zqo3 : G69 z = .inl (cy 2, 9, .inr (.inr (.inr (.inr (va_up (va_up (va_up (va_up (va_up (va_up (va_up (va_up (va_up (fun _ => none) 0 (some (z + 5))) 1 (some (z + 6))) 2 (some (z + 7))) 3 (some (z + 8))) 4 (some (z + 9))) 5 (some (z + 10))) 6 (some (z + 11))) 7 (some (z + 12))) 8 (some (z + 13))))))) := (zqhk _ (kb_ne z (show 0 ≠ 1 by decide))).trans zqo3
  replace zqu52_0 : G69 (z + 14) = .inr (1, [.int 0, .int 0]) := (zqhk _ (kb_ne z (show 14 ≠ 1 by decide))).trans zqu52_0
  replace zqu56_0 : G69 (z + 15) = .inr (1, [.int 0, .int 0]) := (zqhk _ (kb_ne z (show 15 ≠ 1 by decide))).trans zqu56_0
  replace zqu60_0 : G69 (z + 16) = .inr (1, [.int 0, .int 0]) := (zqhk _ (kb_ne z (show 16 ≠ 1 by decide))).trans zqu60_0
  replace zqu64_0 : G69 (z + 17) = .inr (1, [.int 0, .int 0]) := (zqhk _ (kb_ne z (show 17 ≠ 1 by decide))).trans zqu64_0
  replace zqu68_0 : G69 (z + 18) = .inr (1, [.int 0, .int 0]) := (zqhk _ (kb_ne z (show 18 ≠ 1 by decide))).trans zqu68_0
  replace zqo5 : G69 (z + 1) = .inl (cy 3, 6, .inr (.inr (.inr (.inr (va_up (va_up (va_up (va_up (va_up (fun _ => none) 0 (some (z + 14))) 1 (some (z + 15))) 2 (some (z + 16))) 3 (some (z + 17))) 4 (some (z + 18))))))) := by rw [zqeG]; exact kb_us
  clear zqeG zqhk
  refine lv_iinc (v := 5) (lv' := [(1, .int 5), (0, .ref h0)]) hx hb dX2_init_105 hl (k := 0) rfl (by decide) (by decide) rfl (fun ls hl => ?_)
  refine lv_goto (tgt := 86) hx hb dX2_init_108 (by decide) ?_
  refine lv_iload_n hx hb dX2_init_86 rfl (lv_at hl 0 rfl) ?_
  refine lv_bipush (v := 6) hx hb dX2_init_87 (by decide) ?_
  refine lv_icmp_ge (tgt := 111) hx hb dX2_init_89 (by decide) (fun zqc70 => absurd zqc70 (by decide)) (fun zqc70 => ?_)
  refine lv_aload_n hx hb dX2_init_92 rfl (lv_at hl 1 rfl) ?_
  refine kb_get hx hb hts hi2 hown hK zqhP (by omega) (by omega) zqoh rfl 5 (by decide) (hts (.fieldLink RX2 26 "NoonLaw$Realm" "people" "[LNoonLaw$Person;") (List.mem_cons_of_mem _ bm_47)) rfl rfl dX2_init_93 ?_
  refine lv_iload_n hx hb dX2_init_96 rfl (lv_at hl 0 rfl) ?_
  refine kb_new (C := RX1) (T := TX1) (N := 2) hx hb hts hi1 tyX1 tyX1_ok hown (hts (.classLink RX2 24 RX1) (List.mem_cons_of_mem _ bm_46)) (hts (.instantiable RX1 2) (List.mem_cons_of_mem _ bm_55)) (hts (.initialized RX1) (List.mem_cons_of_mem _ bm_56)) hK zqhP zqhS (ci := 1) rfl [.int 0, .int 0] (fun j zqhj => by rcases (show j = 0 ∨ j = 1 by omega) with rfl | rfl <;> rfl) (Nat.le_of_ble_eq_true rfl) (Nat.le_of_ble_eq_true rfl) dX2_init_97 (fun zqH1 zqhP1 zqhS1 => ?_)
  replace zqhP := zqhP1
  replace zqhS := zqhS1
  clear zqhP1 zqhS1
  obtain ⟨G71, zqeG⟩ : ∃ q, q = kb_u G69 (z + 19) (.inr (1, [.int 0, .int 0])) := ⟨_, rfl⟩
  rw [← zqeG] at zqhP
  have zqhk : ∀ q : Nat, q ≠ z + 19 → G71 q = G69 q := fun q hq => by rw [zqeG]; exact kb_un hq
  replace zqhF : ∀ q : Nat, q ≠ h0 → q < z → G71 q = G q := fun q h1 h2 => (zqhk q (by omega)).trans (zqhF q h1 h2)
  replace zqo7 : G71 (z + 2) = .inl (cy 4, 2, .inr (.inr (.inr (.inr (fun _ => none))))) := (zqhk _ (kb_ne z (show 2 ≠ 19 by decide))).trans zqo7
  replace zqo9 : G71 (z + 3) = .inl (cy 1, 60, .inl (fun _ => 0)) := (zqhk _ (kb_ne z (show 3 ≠ 19 by decide))).trans zqo9
  replace zqo11 : G71 (z + 4) = .inl (cy 0, 24, .inl (fun _ => 0)) := (zqhk _ (kb_ne z (show 4 ≠ 19 by decide))).trans zqo11
  replace zqoh : G71 h0 = .inr (2, [.int 0, .int 22, .int 1, .ref z, .int 0, .ref (z + 1), .int 0, .ref (z + 2), .ref (z + 3), .int 0, .ref (z + 4), .int 0]) := (zqhk _ (kb_h1 hz0 19)).trans zqoh
  replace zqu15_0 : G71 (z + 5) = .inr (0, [.int 0, .int 0, .int 0, .int 0, .int 0, .int 0]) := (zqhk _ (kb_ne z (show 5 ≠ 19 by decide))).trans zqu15_0
  replace zqu19_0 : G71 (z + 6) = .inr (0, [.int 0, .int 0, .int 0, .int 0, .int 0, .int 0]) := (zqhk _ (kb_ne z (show 6 ≠ 19 by decide))).trans zqu19_0
  replace zqu23_0 : G71 (z + 7) = .inr (0, [.int 0, .int 0, .int 0, .int 0, .int 0, .int 0]) := (zqhk _ (kb_ne z (show 7 ≠ 19 by decide))).trans zqu23_0
  replace zqu27_0 : G71 (z + 8) = .inr (0, [.int 0, .int 0, .int 0, .int 0, .int 0, .int 0]) := (zqhk _ (kb_ne z (show 8 ≠ 19 by decide))).trans zqu27_0
  replace zqu31_0 : G71 (z + 9) = .inr (0, [.int 0, .int 0, .int 0, .int 0, .int 0, .int 0]) := (zqhk _ (kb_ne z (show 9 ≠ 19 by decide))).trans zqu31_0
  replace zqu35_0 : G71 (z + 10) = .inr (0, [.int 0, .int 0, .int 0, .int 0, .int 0, .int 0]) := (zqhk _ (kb_ne z (show 10 ≠ 19 by decide))).trans zqu35_0
  replace zqu39_0 : G71 (z + 11) = .inr (0, [.int 0, .int 0, .int 0, .int 0, .int 0, .int 0]) := (zqhk _ (kb_ne z (show 11 ≠ 19 by decide))).trans zqu39_0
  replace zqu43_0 : G71 (z + 12) = .inr (0, [.int 0, .int 0, .int 0, .int 0, .int 0, .int 0]) := (zqhk _ (kb_ne z (show 12 ≠ 19 by decide))).trans zqu43_0
  replace zqu47_0 : G71 (z + 13) = .inr (0, [.int 0, .int 0, .int 0, .int 0, .int 0, .int 0]) := (zqhk _ (kb_ne z (show 13 ≠ 19 by decide))).trans zqu47_0
  replace zqo3 : G71 z = .inl (cy 2, 9, .inr (.inr (.inr (.inr (va_up (va_up (va_up (va_up (va_up (va_up (va_up (va_up (va_up (fun _ => none) 0 (some (z + 5))) 1 (some (z + 6))) 2 (some (z + 7))) 3 (some (z + 8))) 4 (some (z + 9))) 5 (some (z + 10))) 6 (some (z + 11))) 7 (some (z + 12))) 8 (some (z + 13))))))) := (zqhk _ (kb_ne z (show 0 ≠ 19 by decide))).trans zqo3
  replace zqu52_0 : G71 (z + 14) = .inr (1, [.int 0, .int 0]) := (zqhk _ (kb_ne z (show 14 ≠ 19 by decide))).trans zqu52_0
  replace zqu56_0 : G71 (z + 15) = .inr (1, [.int 0, .int 0]) := (zqhk _ (kb_ne z (show 15 ≠ 19 by decide))).trans zqu56_0
  replace zqu60_0 : G71 (z + 16) = .inr (1, [.int 0, .int 0]) := (zqhk _ (kb_ne z (show 16 ≠ 19 by decide))).trans zqu60_0
  replace zqu64_0 : G71 (z + 17) = .inr (1, [.int 0, .int 0]) := (zqhk _ (kb_ne z (show 17 ≠ 19 by decide))).trans zqu64_0
  replace zqu68_0 : G71 (z + 18) = .inr (1, [.int 0, .int 0]) := (zqhk _ (kb_ne z (show 18 ≠ 19 by decide))).trans zqu68_0
  replace zqo5 : G71 (z + 1) = .inl (cy 3, 6, .inr (.inr (.inr (.inr (va_up (va_up (va_up (va_up (va_up (fun _ => none) 0 (some (z + 14))) 1 (some (z + 15))) 2 (some (z + 16))) 3 (some (z + 17))) 4 (some (z + 18))))))) := (zqhk _ (kb_ne z (show 1 ≠ 19 by decide))).trans zqo5
  have zqo71 : G71 (z + 19) = .inr (1, [.int 0, .int 0]) := by rw [zqeG]; exact kb_us
  clear zqeG zqhk
  replace zqhP : kb_P D b G71 (z + 20) zqH1 := zqhP
  refine lv_dup hx hb dX2_init_100 rfl ?_
  refine kb_callN (rest := [.ref (z + 19), .int 5, .ref (z + 1)]) ⟨hx, hb, hml, hown, hts⟩ hK zqhP zqhS (c_X1_init l D cy b G71 (z + 20) (z + 19) (by omega) (by omega) zqo71) ⟨va_cnB 0 hts gX2_init_X1_init_n45 rfl rfl rfl (hK.2.2.2.2.2.2.1) (hts (.initialized RX1) (List.mem_cons_of_mem _ bm_56)) (by decide +kernel) ⟨Nat.le_of_ble_eq_true rfl, Nat.le_of_ble_eq_true rfl⟩, rfl, hts (.instanceMethod yX1_init) (by decide +kernel)⟩ hl.1 (Nat.le_of_ble_eq_true rfl) dX2_init_101 ⟨Nat.le_of_ble_eq_true rfl, Nat.le_of_ble_eq_true rfl⟩ (fun G72 zqH1 zqlocs1 zqw72 zqhP1 zqhS1 => ?_)
  replace zqhP := zqhP1
  replace zqhS := zqhS1
  clear zqhP1 zqhS1
  obtain ⟨zqw72a, zqw72⟩ := zqw72
  replace zqo7 : G72 (z + 2) = .inl (cy 4, 2, .inr (.inr (.inr (.inr (fun _ => none))))) := (zqw72 _ (kb_ne z (show 2 ≠ 19 by decide)) (kb_lt z (show 2 < 20 by decide))).trans zqo7
  replace zqo9 : G72 (z + 3) = .inl (cy 1, 60, .inl (fun _ => 0)) := (zqw72 _ (kb_ne z (show 3 ≠ 19 by decide)) (kb_lt z (show 3 < 20 by decide))).trans zqo9
  replace zqo11 : G72 (z + 4) = .inl (cy 0, 24, .inl (fun _ => 0)) := (zqw72 _ (kb_ne z (show 4 ≠ 19 by decide)) (kb_lt z (show 4 < 20 by decide))).trans zqo11
  replace zqoh : G72 h0 = .inr (2, [.int 0, .int 22, .int 1, .ref z, .int 0, .ref (z + 1), .int 0, .ref (z + 2), .ref (z + 3), .int 0, .ref (z + 4), .int 0]) := (zqw72 _ (kb_h1 hz0 19) (kb_h3 hz0 20)).trans zqoh
  replace zqu15_0 : G72 (z + 5) = .inr (0, [.int 0, .int 0, .int 0, .int 0, .int 0, .int 0]) := (zqw72 _ (kb_ne z (show 5 ≠ 19 by decide)) (kb_lt z (show 5 < 20 by decide))).trans zqu15_0
  replace zqu19_0 : G72 (z + 6) = .inr (0, [.int 0, .int 0, .int 0, .int 0, .int 0, .int 0]) := (zqw72 _ (kb_ne z (show 6 ≠ 19 by decide)) (kb_lt z (show 6 < 20 by decide))).trans zqu19_0
  replace zqu23_0 : G72 (z + 7) = .inr (0, [.int 0, .int 0, .int 0, .int 0, .int 0, .int 0]) := (zqw72 _ (kb_ne z (show 7 ≠ 19 by decide)) (kb_lt z (show 7 < 20 by decide))).trans zqu23_0
  replace zqu27_0 : G72 (z + 8) = .inr (0, [.int 0, .int 0, .int 0, .int 0, .int 0, .int 0]) := (zqw72 _ (kb_ne z (show 8 ≠ 19 by decide)) (kb_lt z (show 8 < 20 by decide))).trans zqu27_0
  replace zqu31_0 : G72 (z + 9) = .inr (0, [.int 0, .int 0, .int 0, .int 0, .int 0, .int 0]) := (zqw72 _ (kb_ne z (show 9 ≠ 19 by decide)) (kb_lt z (show 9 < 20 by decide))).trans zqu31_0
  replace zqu35_0 : G72 (z + 10) = .inr (0, [.int 0, .int 0, .int 0, .int 0, .int 0, .int 0]) := (zqw72 _ (kb_ne z (show 10 ≠ 19 by decide)) (kb_lt z (show 10 < 20 by decide))).trans zqu35_0
  replace zqu39_0 : G72 (z + 11) = .inr (0, [.int 0, .int 0, .int 0, .int 0, .int 0, .int 0]) := (zqw72 _ (kb_ne z (show 11 ≠ 19 by decide)) (kb_lt z (show 11 < 20 by decide))).trans zqu39_0
  replace zqu43_0 : G72 (z + 12) = .inr (0, [.int 0, .int 0, .int 0, .int 0, .int 0, .int 0]) := (zqw72 _ (kb_ne z (show 12 ≠ 19 by decide)) (kb_lt z (show 12 < 20 by decide))).trans zqu43_0
  replace zqu47_0 : G72 (z + 13) = .inr (0, [.int 0, .int 0, .int 0, .int 0, .int 0, .int 0]) := (zqw72 _ (kb_ne z (show 13 ≠ 19 by decide)) (kb_lt z (show 13 < 20 by decide))).trans zqu47_0
  replace zqo3 : G72 z = .inl (cy 2, 9, .inr (.inr (.inr (.inr (va_up (va_up (va_up (va_up (va_up (va_up (va_up (va_up (va_up (fun _ => none) 0 (some (z + 5))) 1 (some (z + 6))) 2 (some (z + 7))) 3 (some (z + 8))) 4 (some (z + 9))) 5 (some (z + 10))) 6 (some (z + 11))) 7 (some (z + 12))) 8 (some (z + 13))))))) := (zqw72 _ (kb_ne z (show 0 ≠ 19 by decide)) (kb_lt z (show 0 < 20 by decide))).trans zqo3
  replace zqu52_0 : G72 (z + 14) = .inr (1, [.int 0, .int 0]) := (zqw72 _ (kb_ne z (show 14 ≠ 19 by decide)) (kb_lt z (show 14 < 20 by decide))).trans zqu52_0
  replace zqu56_0 : G72 (z + 15) = .inr (1, [.int 0, .int 0]) := (zqw72 _ (kb_ne z (show 15 ≠ 19 by decide)) (kb_lt z (show 15 < 20 by decide))).trans zqu56_0
  replace zqu60_0 : G72 (z + 16) = .inr (1, [.int 0, .int 0]) := (zqw72 _ (kb_ne z (show 16 ≠ 19 by decide)) (kb_lt z (show 16 < 20 by decide))).trans zqu60_0
  replace zqu64_0 : G72 (z + 17) = .inr (1, [.int 0, .int 0]) := (zqw72 _ (kb_ne z (show 17 ≠ 19 by decide)) (kb_lt z (show 17 < 20 by decide))).trans zqu64_0
  replace zqu68_0 : G72 (z + 18) = .inr (1, [.int 0, .int 0]) := (zqw72 _ (kb_ne z (show 18 ≠ 19 by decide)) (kb_lt z (show 18 < 20 by decide))).trans zqu68_0
  replace zqo5 : G72 (z + 1) = .inl (cy 3, 6, .inr (.inr (.inr (.inr (va_up (va_up (va_up (va_up (va_up (fun _ => none) 0 (some (z + 14))) 1 (some (z + 15))) 2 (some (z + 16))) 3 (some (z + 17))) 4 (some (z + 18))))))) := (zqw72 _ (kb_ne z (show 1 ≠ 19 by decide)) (kb_lt z (show 1 < 20 by decide))).trans zqo5
  replace zqhF : ∀ q : Nat, q ≠ h0 → q < z → G72 q = G q := fun q h1 h2 => (zqw72 _ (by omega) (by omega)).trans (zqhF q h1 h2)
  have zqu72_0 := zqw72a
  replace zqhP : kb_P D b G72 (z + 20) zqH1 := zqhP
  have zqk5 : (5 : Int32).toInt = 5 := by decide +kernel
  refine kb_aast hx hb hK zqhP zqhS (by omega) (by omega) 3 1 zqo5 rfl (by omega) (by omega) zqu72_0 rfl (by omega) (by omega) dX2_init_104 (fun j zqH1 zqlocs1 zqej zqhj zqhP1 zqhS1 => ?_)
  replace zqhP := zqhP1
  replace zqhS := zqhS1
  clear zqhP1 zqhS1
  have zqej : j = 5 := by omega
  subst zqej
  obtain ⟨G73, zqeG⟩ : ∃ q, q = kb_u G72 (z + 1) (.inl (cy 3, 6, .inr (.inr (.inr (.inr (va_up (va_up (va_up (va_up (va_up (va_up (fun _ => none) 0 (some (z + 14))) 1 (some (z + 15))) 2 (some (z + 16))) 3 (some (z + 17))) 4 (some (z + 18))) 5 (some (z + 19)))))))) := ⟨_, rfl⟩
  rw [← zqeG] at zqhP
  have zqhk : ∀ q : Nat, q ≠ z + 1 → G73 q = G72 q := fun q hq => by rw [zqeG]; exact kb_un hq
  replace zqhF : ∀ q : Nat, q ≠ h0 → q < z → G73 q = G q := fun q h1 h2 => (zqhk q (by omega)).trans (zqhF q h1 h2)
  replace zqo7 : G73 (z + 2) = .inl (cy 4, 2, .inr (.inr (.inr (.inr (fun _ => none))))) := (zqhk _ (kb_ne z (show 2 ≠ 1 by decide))).trans zqo7
  replace zqo9 : G73 (z + 3) = .inl (cy 1, 60, .inl (fun _ => 0)) := (zqhk _ (kb_ne z (show 3 ≠ 1 by decide))).trans zqo9
  replace zqo11 : G73 (z + 4) = .inl (cy 0, 24, .inl (fun _ => 0)) := (zqhk _ (kb_ne z (show 4 ≠ 1 by decide))).trans zqo11
  replace zqoh : G73 h0 = .inr (2, [.int 0, .int 22, .int 1, .ref z, .int 0, .ref (z + 1), .int 0, .ref (z + 2), .ref (z + 3), .int 0, .ref (z + 4), .int 0]) := (zqhk _ (kb_h1 hz0 1)).trans zqoh
  replace zqu15_0 : G73 (z + 5) = .inr (0, [.int 0, .int 0, .int 0, .int 0, .int 0, .int 0]) := (zqhk _ (kb_ne z (show 5 ≠ 1 by decide))).trans zqu15_0
  replace zqu19_0 : G73 (z + 6) = .inr (0, [.int 0, .int 0, .int 0, .int 0, .int 0, .int 0]) := (zqhk _ (kb_ne z (show 6 ≠ 1 by decide))).trans zqu19_0
  replace zqu23_0 : G73 (z + 7) = .inr (0, [.int 0, .int 0, .int 0, .int 0, .int 0, .int 0]) := (zqhk _ (kb_ne z (show 7 ≠ 1 by decide))).trans zqu23_0
  replace zqu27_0 : G73 (z + 8) = .inr (0, [.int 0, .int 0, .int 0, .int 0, .int 0, .int 0]) := (zqhk _ (kb_ne z (show 8 ≠ 1 by decide))).trans zqu27_0
  replace zqu31_0 : G73 (z + 9) = .inr (0, [.int 0, .int 0, .int 0, .int 0, .int 0, .int 0]) := (zqhk _ (kb_ne z (show 9 ≠ 1 by decide))).trans zqu31_0
  replace zqu35_0 : G73 (z + 10) = .inr (0, [.int 0, .int 0, .int 0, .int 0, .int 0, .int 0]) := (zqhk _ (kb_ne z (show 10 ≠ 1 by decide))).trans zqu35_0
  replace zqu39_0 : G73 (z + 11) = .inr (0, [.int 0, .int 0, .int 0, .int 0, .int 0, .int 0]) := (zqhk _ (kb_ne z (show 11 ≠ 1 by decide))).trans zqu39_0
  replace zqu43_0 : G73 (z + 12) = .inr (0, [.int 0, .int 0, .int 0, .int 0, .int 0, .int 0]) := (zqhk _ (kb_ne z (show 12 ≠ 1 by decide))).trans zqu43_0
  replace zqu47_0 : G73 (z + 13) = .inr (0, [.int 0, .int 0, .int 0, .int 0, .int 0, .int 0]) := (zqhk _ (kb_ne z (show 13 ≠ 1 by decide))).trans zqu47_0
  replace zqo3 : G73 z = .inl (cy 2, 9, .inr (.inr (.inr (.inr (va_up (va_up (va_up (va_up (va_up (va_up (va_up (va_up (va_up (fun _ => none) 0 (some (z + 5))) 1 (some (z + 6))) 2 (some (z + 7))) 3 (some (z + 8))) 4 (some (z + 9))) 5 (some (z + 10))) 6 (some (z + 11))) 7 (some (z + 12))) 8 (some (z + 13))))))) := (zqhk _ (kb_ne z (show 0 ≠ 1 by decide))).trans zqo3
  replace zqu52_0 : G73 (z + 14) = .inr (1, [.int 0, .int 0]) := (zqhk _ (kb_ne z (show 14 ≠ 1 by decide))).trans zqu52_0
  replace zqu56_0 : G73 (z + 15) = .inr (1, [.int 0, .int 0]) := (zqhk _ (kb_ne z (show 15 ≠ 1 by decide))).trans zqu56_0
  replace zqu60_0 : G73 (z + 16) = .inr (1, [.int 0, .int 0]) := (zqhk _ (kb_ne z (show 16 ≠ 1 by decide))).trans zqu60_0
  replace zqu64_0 : G73 (z + 17) = .inr (1, [.int 0, .int 0]) := (zqhk _ (kb_ne z (show 17 ≠ 1 by decide))).trans zqu64_0
  replace zqu68_0 : G73 (z + 18) = .inr (1, [.int 0, .int 0]) := (zqhk _ (kb_ne z (show 18 ≠ 1 by decide))).trans zqu68_0
  replace zqu72_0 : G73 (z + 19) = .inr (1, [.int 0, .int 0]) := (zqhk _ (kb_ne z (show 19 ≠ 1 by decide))).trans zqu72_0
  replace zqo5 : G73 (z + 1) = .inl (cy 3, 6, .inr (.inr (.inr (.inr (va_up (va_up (va_up (va_up (va_up (va_up (fun _ => none) 0 (some (z + 14))) 1 (some (z + 15))) 2 (some (z + 16))) 3 (some (z + 17))) 4 (some (z + 18))) 5 (some (z + 19))))))) := by rw [zqeG]; exact kb_us
  clear zqeG zqhk
  refine lv_iinc (v := 6) (lv' := [(1, .int 6), (0, .ref h0)]) hx hb dX2_init_105 hl (k := 0) rfl (by decide) (by decide) rfl (fun ls hl => ?_)
  refine lv_goto (tgt := 86) hx hb dX2_init_108 (by decide) ?_
  refine lv_iload_n hx hb dX2_init_86 rfl (lv_at hl 0 rfl) ?_
  refine lv_bipush (v := 6) hx hb dX2_init_87 (by decide) ?_
  refine lv_icmp_ge (tgt := 111) hx hb dX2_init_89 (by decide) (fun zqc74 => ?_) (fun zqc74 => absurd (by decide) zqc74)
  refine lv_iconst (v := 0) hx hb dX2_init_111 (by decide) ?_
  refine lv_istore_n (lv' := [(1, .int 0), (0, .ref h0)]) hx hb dX2_init_112 rfl hl (by decide) rfl (fun ls hl => ?_)
  refine lv_iload_n hx hb dX2_init_113 rfl (lv_at hl 0 rfl) ?_
  refine lv_iconst (v := 2) hx hb dX2_init_114 (by decide) ?_
  refine lv_icmp_ge (tgt := 137) hx hb dX2_init_115 (by decide) (fun zqc75 => absurd zqc75 (by decide)) (fun zqc75 => ?_)
  refine lv_aload_n hx hb dX2_init_118 rfl (lv_at hl 1 rfl) ?_
  refine kb_get hx hb hts hi2 hown hK zqhP (by omega) (by omega) zqoh rfl 7 (by decide) (hts (.fieldLink RX2 32 "NoonLaw$Realm" "texts" "[LNoonLaw$Text;") (List.mem_cons_of_mem _ bm_49)) rfl rfl dX2_init_119 ?_
  refine lv_iload_n hx hb dX2_init_122 rfl (lv_at hl 0 rfl) ?_
  refine kb_new (C := RX6) (T := TX6) (N := 4) hx hb hts hi6 tyX6 tyX6_ok hown (hts (.classLink RX2 30 RX6) (List.mem_cons_of_mem _ bm_48)) (hts (.instantiable RX6 4) (List.mem_cons_of_mem _ bm_57)) (hts (.initialized RX6) (List.mem_cons_of_mem _ bm_58)) hK zqhP zqhS (ci := 6) rfl [.int 0, .int 0, .null, .null] (fun j zqhj => by rcases (show j = 0 ∨ j = 1 ∨ j = 2 ∨ j = 3 by omega) with rfl | rfl | rfl | rfl <;> rfl) (Nat.le_of_ble_eq_true rfl) (Nat.le_of_ble_eq_true rfl) dX2_init_123 (fun zqH1 zqhP1 zqhS1 => ?_)
  replace zqhP := zqhP1
  replace zqhS := zqhS1
  clear zqhP1 zqhS1
  obtain ⟨G76, zqeG⟩ : ∃ q, q = kb_u G73 (z + 20) (.inr (6, [.int 0, .int 0, .null, .null])) := ⟨_, rfl⟩
  rw [← zqeG] at zqhP
  have zqhk : ∀ q : Nat, q ≠ z + 20 → G76 q = G73 q := fun q hq => by rw [zqeG]; exact kb_un hq
  replace zqhF : ∀ q : Nat, q ≠ h0 → q < z → G76 q = G q := fun q h1 h2 => (zqhk q (by omega)).trans (zqhF q h1 h2)
  replace zqo7 : G76 (z + 2) = .inl (cy 4, 2, .inr (.inr (.inr (.inr (fun _ => none))))) := (zqhk _ (kb_ne z (show 2 ≠ 20 by decide))).trans zqo7
  replace zqo9 : G76 (z + 3) = .inl (cy 1, 60, .inl (fun _ => 0)) := (zqhk _ (kb_ne z (show 3 ≠ 20 by decide))).trans zqo9
  replace zqo11 : G76 (z + 4) = .inl (cy 0, 24, .inl (fun _ => 0)) := (zqhk _ (kb_ne z (show 4 ≠ 20 by decide))).trans zqo11
  replace zqoh : G76 h0 = .inr (2, [.int 0, .int 22, .int 1, .ref z, .int 0, .ref (z + 1), .int 0, .ref (z + 2), .ref (z + 3), .int 0, .ref (z + 4), .int 0]) := (zqhk _ (kb_h1 hz0 20)).trans zqoh
  replace zqu15_0 : G76 (z + 5) = .inr (0, [.int 0, .int 0, .int 0, .int 0, .int 0, .int 0]) := (zqhk _ (kb_ne z (show 5 ≠ 20 by decide))).trans zqu15_0
  replace zqu19_0 : G76 (z + 6) = .inr (0, [.int 0, .int 0, .int 0, .int 0, .int 0, .int 0]) := (zqhk _ (kb_ne z (show 6 ≠ 20 by decide))).trans zqu19_0
  replace zqu23_0 : G76 (z + 7) = .inr (0, [.int 0, .int 0, .int 0, .int 0, .int 0, .int 0]) := (zqhk _ (kb_ne z (show 7 ≠ 20 by decide))).trans zqu23_0
  replace zqu27_0 : G76 (z + 8) = .inr (0, [.int 0, .int 0, .int 0, .int 0, .int 0, .int 0]) := (zqhk _ (kb_ne z (show 8 ≠ 20 by decide))).trans zqu27_0
  replace zqu31_0 : G76 (z + 9) = .inr (0, [.int 0, .int 0, .int 0, .int 0, .int 0, .int 0]) := (zqhk _ (kb_ne z (show 9 ≠ 20 by decide))).trans zqu31_0
  replace zqu35_0 : G76 (z + 10) = .inr (0, [.int 0, .int 0, .int 0, .int 0, .int 0, .int 0]) := (zqhk _ (kb_ne z (show 10 ≠ 20 by decide))).trans zqu35_0
  replace zqu39_0 : G76 (z + 11) = .inr (0, [.int 0, .int 0, .int 0, .int 0, .int 0, .int 0]) := (zqhk _ (kb_ne z (show 11 ≠ 20 by decide))).trans zqu39_0
  replace zqu43_0 : G76 (z + 12) = .inr (0, [.int 0, .int 0, .int 0, .int 0, .int 0, .int 0]) := (zqhk _ (kb_ne z (show 12 ≠ 20 by decide))).trans zqu43_0
  replace zqu47_0 : G76 (z + 13) = .inr (0, [.int 0, .int 0, .int 0, .int 0, .int 0, .int 0]) := (zqhk _ (kb_ne z (show 13 ≠ 20 by decide))).trans zqu47_0
  replace zqo3 : G76 z = .inl (cy 2, 9, .inr (.inr (.inr (.inr (va_up (va_up (va_up (va_up (va_up (va_up (va_up (va_up (va_up (fun _ => none) 0 (some (z + 5))) 1 (some (z + 6))) 2 (some (z + 7))) 3 (some (z + 8))) 4 (some (z + 9))) 5 (some (z + 10))) 6 (some (z + 11))) 7 (some (z + 12))) 8 (some (z + 13))))))) := (zqhk _ (kb_ne z (show 0 ≠ 20 by decide))).trans zqo3
  replace zqu52_0 : G76 (z + 14) = .inr (1, [.int 0, .int 0]) := (zqhk _ (kb_ne z (show 14 ≠ 20 by decide))).trans zqu52_0
  replace zqu56_0 : G76 (z + 15) = .inr (1, [.int 0, .int 0]) := (zqhk _ (kb_ne z (show 15 ≠ 20 by decide))).trans zqu56_0
  replace zqu60_0 : G76 (z + 16) = .inr (1, [.int 0, .int 0]) := (zqhk _ (kb_ne z (show 16 ≠ 20 by decide))).trans zqu60_0
  replace zqu64_0 : G76 (z + 17) = .inr (1, [.int 0, .int 0]) := (zqhk _ (kb_ne z (show 17 ≠ 20 by decide))).trans zqu64_0
  replace zqu68_0 : G76 (z + 18) = .inr (1, [.int 0, .int 0]) := (zqhk _ (kb_ne z (show 18 ≠ 20 by decide))).trans zqu68_0
  replace zqu72_0 : G76 (z + 19) = .inr (1, [.int 0, .int 0]) := (zqhk _ (kb_ne z (show 19 ≠ 20 by decide))).trans zqu72_0
  replace zqo5 : G76 (z + 1) = .inl (cy 3, 6, .inr (.inr (.inr (.inr (va_up (va_up (va_up (va_up (va_up (va_up (fun _ => none) 0 (some (z + 14))) 1 (some (z + 15))) 2 (some (z + 16))) 3 (some (z + 17))) 4 (some (z + 18))) 5 (some (z + 19))))))) := (zqhk _ (kb_ne z (show 1 ≠ 20 by decide))).trans zqo5
  have zqo76 : G76 (z + 20) = .inr (6, [.int 0, .int 0, .null, .null]) := by rw [zqeG]; exact kb_us
  clear zqeG zqhk
  replace zqhP : kb_P D b G76 (z + 21) zqH1 := zqhP
  refine lv_dup hx hb dX2_init_126 rfl ?_
  refine kb_callN (rest := [.ref (z + 20), .int 0, .ref (z + 2)]) ⟨hx, hb, hml, hown, hts⟩ hK zqhP zqhS (c_X6_init l D cy b G76 (z + 21) (z + 20) (by omega) (by omega) zqo76) ⟨va_cnB 0 hts gX2_init_X6_init_n46 rfl rfl rfl (hK.2.2.2.2.2.2.2.1) (hts (.initialized RX6) (List.mem_cons_of_mem _ bm_58)) (by decide +kernel) ⟨Nat.le_of_ble_eq_true rfl, Nat.le_of_ble_eq_true rfl⟩, rfl, hts (.instanceMethod yX6_init) (by decide +kernel)⟩ hl.1 (Nat.le_of_ble_eq_true rfl) dX2_init_127 ⟨Nat.le_of_ble_eq_true rfl, Nat.le_of_ble_eq_true rfl⟩ (fun G77 zqH1 zqlocs1 zqw77 zqhP1 zqhS1 => ?_)
  replace zqhP := zqhP1
  replace zqhS := zqhS1
  clear zqhP1 zqhS1
  obtain ⟨zqw77a, zqw77⟩ := zqw77
  replace zqo7 : G77 (z + 2) = .inl (cy 4, 2, .inr (.inr (.inr (.inr (fun _ => none))))) := (zqw77 _ (kb_ne z (show 2 ≠ 20 by decide)) (kb_lt z (show 2 < 21 by decide))).trans zqo7
  replace zqo9 : G77 (z + 3) = .inl (cy 1, 60, .inl (fun _ => 0)) := (zqw77 _ (kb_ne z (show 3 ≠ 20 by decide)) (kb_lt z (show 3 < 21 by decide))).trans zqo9
  replace zqo11 : G77 (z + 4) = .inl (cy 0, 24, .inl (fun _ => 0)) := (zqw77 _ (kb_ne z (show 4 ≠ 20 by decide)) (kb_lt z (show 4 < 21 by decide))).trans zqo11
  replace zqoh : G77 h0 = .inr (2, [.int 0, .int 22, .int 1, .ref z, .int 0, .ref (z + 1), .int 0, .ref (z + 2), .ref (z + 3), .int 0, .ref (z + 4), .int 0]) := (zqw77 _ (kb_h1 hz0 20) (kb_h3 hz0 21)).trans zqoh
  replace zqu15_0 : G77 (z + 5) = .inr (0, [.int 0, .int 0, .int 0, .int 0, .int 0, .int 0]) := (zqw77 _ (kb_ne z (show 5 ≠ 20 by decide)) (kb_lt z (show 5 < 21 by decide))).trans zqu15_0
  replace zqu19_0 : G77 (z + 6) = .inr (0, [.int 0, .int 0, .int 0, .int 0, .int 0, .int 0]) := (zqw77 _ (kb_ne z (show 6 ≠ 20 by decide)) (kb_lt z (show 6 < 21 by decide))).trans zqu19_0
  replace zqu23_0 : G77 (z + 7) = .inr (0, [.int 0, .int 0, .int 0, .int 0, .int 0, .int 0]) := (zqw77 _ (kb_ne z (show 7 ≠ 20 by decide)) (kb_lt z (show 7 < 21 by decide))).trans zqu23_0
  replace zqu27_0 : G77 (z + 8) = .inr (0, [.int 0, .int 0, .int 0, .int 0, .int 0, .int 0]) := (zqw77 _ (kb_ne z (show 8 ≠ 20 by decide)) (kb_lt z (show 8 < 21 by decide))).trans zqu27_0
  replace zqu31_0 : G77 (z + 9) = .inr (0, [.int 0, .int 0, .int 0, .int 0, .int 0, .int 0]) := (zqw77 _ (kb_ne z (show 9 ≠ 20 by decide)) (kb_lt z (show 9 < 21 by decide))).trans zqu31_0
  replace zqu35_0 : G77 (z + 10) = .inr (0, [.int 0, .int 0, .int 0, .int 0, .int 0, .int 0]) := (zqw77 _ (kb_ne z (show 10 ≠ 20 by decide)) (kb_lt z (show 10 < 21 by decide))).trans zqu35_0
  replace zqu39_0 : G77 (z + 11) = .inr (0, [.int 0, .int 0, .int 0, .int 0, .int 0, .int 0]) := (zqw77 _ (kb_ne z (show 11 ≠ 20 by decide)) (kb_lt z (show 11 < 21 by decide))).trans zqu39_0
  replace zqu43_0 : G77 (z + 12) = .inr (0, [.int 0, .int 0, .int 0, .int 0, .int 0, .int 0]) := (zqw77 _ (kb_ne z (show 12 ≠ 20 by decide)) (kb_lt z (show 12 < 21 by decide))).trans zqu43_0
  replace zqu47_0 : G77 (z + 13) = .inr (0, [.int 0, .int 0, .int 0, .int 0, .int 0, .int 0]) := (zqw77 _ (kb_ne z (show 13 ≠ 20 by decide)) (kb_lt z (show 13 < 21 by decide))).trans zqu47_0
  replace zqo3 : G77 z = .inl (cy 2, 9, .inr (.inr (.inr (.inr (va_up (va_up (va_up (va_up (va_up (va_up (va_up (va_up (va_up (fun _ => none) 0 (some (z + 5))) 1 (some (z + 6))) 2 (some (z + 7))) 3 (some (z + 8))) 4 (some (z + 9))) 5 (some (z + 10))) 6 (some (z + 11))) 7 (some (z + 12))) 8 (some (z + 13))))))) := (zqw77 _ (kb_ne z (show 0 ≠ 20 by decide)) (kb_lt z (show 0 < 21 by decide))).trans zqo3
  replace zqu52_0 : G77 (z + 14) = .inr (1, [.int 0, .int 0]) := (zqw77 _ (kb_ne z (show 14 ≠ 20 by decide)) (kb_lt z (show 14 < 21 by decide))).trans zqu52_0
  replace zqu56_0 : G77 (z + 15) = .inr (1, [.int 0, .int 0]) := (zqw77 _ (kb_ne z (show 15 ≠ 20 by decide)) (kb_lt z (show 15 < 21 by decide))).trans zqu56_0
  replace zqu60_0 : G77 (z + 16) = .inr (1, [.int 0, .int 0]) := (zqw77 _ (kb_ne z (show 16 ≠ 20 by decide)) (kb_lt z (show 16 < 21 by decide))).trans zqu60_0
  replace zqu64_0 : G77 (z + 17) = .inr (1, [.int 0, .int 0]) := (zqw77 _ (kb_ne z (show 17 ≠ 20 by decide)) (kb_lt z (show 17 < 21 by decide))).trans zqu64_0
  replace zqu68_0 : G77 (z + 18) = .inr (1, [.int 0, .int 0]) := (zqw77 _ (kb_ne z (show 18 ≠ 20 by decide)) (kb_lt z (show 18 < 21 by decide))).trans zqu68_0
  replace zqu72_0 : G77 (z + 19) = .inr (1, [.int 0, .int 0]) := (zqw77 _ (kb_ne z (show 19 ≠ 20 by decide)) (kb_lt z (show 19 < 21 by decide))).trans zqu72_0
  replace zqo5 : G77 (z + 1) = .inl (cy 3, 6, .inr (.inr (.inr (.inr (va_up (va_up (va_up (va_up (va_up (va_up (fun _ => none) 0 (some (z + 14))) 1 (some (z + 15))) 2 (some (z + 16))) 3 (some (z + 17))) 4 (some (z + 18))) 5 (some (z + 19))))))) := (zqw77 _ (kb_ne z (show 1 ≠ 20 by decide)) (kb_lt z (show 1 < 21 by decide))).trans zqo5
  replace zqhF : ∀ q : Nat, q ≠ h0 → q < z → G77 q = G q := fun q h1 h2 => (zqw77 _ (by omega) (by omega)).trans (zqhF q h1 h2)
  obtain ⟨zqu77_0, zqu77_1, zqu77_2⟩ := zqw77a
  replace zqhP : kb_P D b G77 (z + 23) zqH1 := zqhP
  have zqk0 : (0 : Int32).toInt = 0 := by decide +kernel
  refine kb_aast hx hb hK zqhP zqhS (by omega) (by omega) 4 6 zqo7 rfl (by omega) (by omega) zqu77_0 rfl (by omega) (by omega) dX2_init_130 (fun j zqH1 zqlocs1 zqej zqhj zqhP1 zqhS1 => ?_)
  replace zqhP := zqhP1
  replace zqhS := zqhS1
  clear zqhP1 zqhS1
  have zqej : j = 0 := by omega
  subst zqej
  obtain ⟨G78, zqeG⟩ : ∃ q, q = kb_u G77 (z + 2) (.inl (cy 4, 2, .inr (.inr (.inr (.inr (va_up (fun _ => none) 0 (some (z + 20)))))))) := ⟨_, rfl⟩
  rw [← zqeG] at zqhP
  have zqhk : ∀ q : Nat, q ≠ z + 2 → G78 q = G77 q := fun q hq => by rw [zqeG]; exact kb_un hq
  replace zqhF : ∀ q : Nat, q ≠ h0 → q < z → G78 q = G q := fun q h1 h2 => (zqhk q (by omega)).trans (zqhF q h1 h2)
  replace zqo9 : G78 (z + 3) = .inl (cy 1, 60, .inl (fun _ => 0)) := (zqhk _ (kb_ne z (show 3 ≠ 2 by decide))).trans zqo9
  replace zqo11 : G78 (z + 4) = .inl (cy 0, 24, .inl (fun _ => 0)) := (zqhk _ (kb_ne z (show 4 ≠ 2 by decide))).trans zqo11
  replace zqoh : G78 h0 = .inr (2, [.int 0, .int 22, .int 1, .ref z, .int 0, .ref (z + 1), .int 0, .ref (z + 2), .ref (z + 3), .int 0, .ref (z + 4), .int 0]) := (zqhk _ (kb_h1 hz0 2)).trans zqoh
  replace zqu15_0 : G78 (z + 5) = .inr (0, [.int 0, .int 0, .int 0, .int 0, .int 0, .int 0]) := (zqhk _ (kb_ne z (show 5 ≠ 2 by decide))).trans zqu15_0
  replace zqu19_0 : G78 (z + 6) = .inr (0, [.int 0, .int 0, .int 0, .int 0, .int 0, .int 0]) := (zqhk _ (kb_ne z (show 6 ≠ 2 by decide))).trans zqu19_0
  replace zqu23_0 : G78 (z + 7) = .inr (0, [.int 0, .int 0, .int 0, .int 0, .int 0, .int 0]) := (zqhk _ (kb_ne z (show 7 ≠ 2 by decide))).trans zqu23_0
  replace zqu27_0 : G78 (z + 8) = .inr (0, [.int 0, .int 0, .int 0, .int 0, .int 0, .int 0]) := (zqhk _ (kb_ne z (show 8 ≠ 2 by decide))).trans zqu27_0
  replace zqu31_0 : G78 (z + 9) = .inr (0, [.int 0, .int 0, .int 0, .int 0, .int 0, .int 0]) := (zqhk _ (kb_ne z (show 9 ≠ 2 by decide))).trans zqu31_0
  replace zqu35_0 : G78 (z + 10) = .inr (0, [.int 0, .int 0, .int 0, .int 0, .int 0, .int 0]) := (zqhk _ (kb_ne z (show 10 ≠ 2 by decide))).trans zqu35_0
  replace zqu39_0 : G78 (z + 11) = .inr (0, [.int 0, .int 0, .int 0, .int 0, .int 0, .int 0]) := (zqhk _ (kb_ne z (show 11 ≠ 2 by decide))).trans zqu39_0
  replace zqu43_0 : G78 (z + 12) = .inr (0, [.int 0, .int 0, .int 0, .int 0, .int 0, .int 0]) := (zqhk _ (kb_ne z (show 12 ≠ 2 by decide))).trans zqu43_0
  replace zqu47_0 : G78 (z + 13) = .inr (0, [.int 0, .int 0, .int 0, .int 0, .int 0, .int 0]) := (zqhk _ (kb_ne z (show 13 ≠ 2 by decide))).trans zqu47_0
  replace zqo3 : G78 z = .inl (cy 2, 9, .inr (.inr (.inr (.inr (va_up (va_up (va_up (va_up (va_up (va_up (va_up (va_up (va_up (fun _ => none) 0 (some (z + 5))) 1 (some (z + 6))) 2 (some (z + 7))) 3 (some (z + 8))) 4 (some (z + 9))) 5 (some (z + 10))) 6 (some (z + 11))) 7 (some (z + 12))) 8 (some (z + 13))))))) := (zqhk _ (kb_ne z (show 0 ≠ 2 by decide))).trans zqo3
  replace zqu52_0 : G78 (z + 14) = .inr (1, [.int 0, .int 0]) := (zqhk _ (kb_ne z (show 14 ≠ 2 by decide))).trans zqu52_0
  replace zqu56_0 : G78 (z + 15) = .inr (1, [.int 0, .int 0]) := (zqhk _ (kb_ne z (show 15 ≠ 2 by decide))).trans zqu56_0
  replace zqu60_0 : G78 (z + 16) = .inr (1, [.int 0, .int 0]) := (zqhk _ (kb_ne z (show 16 ≠ 2 by decide))).trans zqu60_0
  replace zqu64_0 : G78 (z + 17) = .inr (1, [.int 0, .int 0]) := (zqhk _ (kb_ne z (show 17 ≠ 2 by decide))).trans zqu64_0
  replace zqu68_0 : G78 (z + 18) = .inr (1, [.int 0, .int 0]) := (zqhk _ (kb_ne z (show 18 ≠ 2 by decide))).trans zqu68_0
  replace zqu72_0 : G78 (z + 19) = .inr (1, [.int 0, .int 0]) := (zqhk _ (kb_ne z (show 19 ≠ 2 by decide))).trans zqu72_0
  replace zqo5 : G78 (z + 1) = .inl (cy 3, 6, .inr (.inr (.inr (.inr (va_up (va_up (va_up (va_up (va_up (va_up (fun _ => none) 0 (some (z + 14))) 1 (some (z + 15))) 2 (some (z + 16))) 3 (some (z + 17))) 4 (some (z + 18))) 5 (some (z + 19))))))) := (zqhk _ (kb_ne z (show 1 ≠ 2 by decide))).trans zqo5
  replace zqu77_0 : G78 (z + 20) = .inr (6, [.int 0, .int 0, .ref (z + 21), .ref (z + 22)]) := (zqhk _ (kb_ne z (show 20 ≠ 2 by decide))).trans zqu77_0
  replace zqu77_1 : G78 (z + 21) = .inl (cy 0, 60, .inl (fun _ => 0)) := (zqhk _ (kb_ne z (show 21 ≠ 2 by decide))).trans zqu77_1
  replace zqu77_2 : G78 (z + 22) = .inl (cy 0, 60, .inl (fun _ => 0)) := (zqhk _ (kb_ne z (show 22 ≠ 2 by decide))).trans zqu77_2
  replace zqo7 : G78 (z + 2) = .inl (cy 4, 2, .inr (.inr (.inr (.inr (va_up (fun _ => none) 0 (some (z + 20))))))) := by rw [zqeG]; exact kb_us
  clear zqeG zqhk
  refine lv_iinc (v := 1) (lv' := [(1, .int 1), (0, .ref h0)]) hx hb dX2_init_131 hl (k := 0) rfl (by decide) (by decide) rfl (fun ls hl => ?_)
  refine lv_goto (tgt := 113) hx hb dX2_init_134 (by decide) ?_
  refine lv_iload_n hx hb dX2_init_113 rfl (lv_at hl 0 rfl) ?_
  refine lv_iconst (v := 2) hx hb dX2_init_114 (by decide) ?_
  refine lv_icmp_ge (tgt := 137) hx hb dX2_init_115 (by decide) (fun zqc79 => absurd zqc79 (by decide)) (fun zqc79 => ?_)
  refine lv_aload_n hx hb dX2_init_118 rfl (lv_at hl 1 rfl) ?_
  refine kb_get hx hb hts hi2 hown hK zqhP (by omega) (by omega) zqoh rfl 7 (by decide) (hts (.fieldLink RX2 32 "NoonLaw$Realm" "texts" "[LNoonLaw$Text;") (List.mem_cons_of_mem _ bm_49)) rfl rfl dX2_init_119 ?_
  refine lv_iload_n hx hb dX2_init_122 rfl (lv_at hl 0 rfl) ?_
  refine kb_new (C := RX6) (T := TX6) (N := 4) hx hb hts hi6 tyX6 tyX6_ok hown (hts (.classLink RX2 30 RX6) (List.mem_cons_of_mem _ bm_48)) (hts (.instantiable RX6 4) (List.mem_cons_of_mem _ bm_57)) (hts (.initialized RX6) (List.mem_cons_of_mem _ bm_58)) hK zqhP zqhS (ci := 6) rfl [.int 0, .int 0, .null, .null] (fun j zqhj => by rcases (show j = 0 ∨ j = 1 ∨ j = 2 ∨ j = 3 by omega) with rfl | rfl | rfl | rfl <;> rfl) (Nat.le_of_ble_eq_true rfl) (Nat.le_of_ble_eq_true rfl) dX2_init_123 (fun zqH1 zqhP1 zqhS1 => ?_)
  replace zqhP := zqhP1
  replace zqhS := zqhS1
  clear zqhP1 zqhS1
  obtain ⟨G80, zqeG⟩ : ∃ q, q = kb_u G78 (z + 23) (.inr (6, [.int 0, .int 0, .null, .null])) := ⟨_, rfl⟩
  rw [← zqeG] at zqhP
  have zqhk : ∀ q : Nat, q ≠ z + 23 → G80 q = G78 q := fun q hq => by rw [zqeG]; exact kb_un hq
  replace zqhF : ∀ q : Nat, q ≠ h0 → q < z → G80 q = G q := fun q h1 h2 => (zqhk q (by omega)).trans (zqhF q h1 h2)
  replace zqo9 : G80 (z + 3) = .inl (cy 1, 60, .inl (fun _ => 0)) := (zqhk _ (kb_ne z (show 3 ≠ 23 by decide))).trans zqo9
  replace zqo11 : G80 (z + 4) = .inl (cy 0, 24, .inl (fun _ => 0)) := (zqhk _ (kb_ne z (show 4 ≠ 23 by decide))).trans zqo11
  replace zqoh : G80 h0 = .inr (2, [.int 0, .int 22, .int 1, .ref z, .int 0, .ref (z + 1), .int 0, .ref (z + 2), .ref (z + 3), .int 0, .ref (z + 4), .int 0]) := (zqhk _ (kb_h1 hz0 23)).trans zqoh
  replace zqu15_0 : G80 (z + 5) = .inr (0, [.int 0, .int 0, .int 0, .int 0, .int 0, .int 0]) := (zqhk _ (kb_ne z (show 5 ≠ 23 by decide))).trans zqu15_0
  replace zqu19_0 : G80 (z + 6) = .inr (0, [.int 0, .int 0, .int 0, .int 0, .int 0, .int 0]) := (zqhk _ (kb_ne z (show 6 ≠ 23 by decide))).trans zqu19_0
  replace zqu23_0 : G80 (z + 7) = .inr (0, [.int 0, .int 0, .int 0, .int 0, .int 0, .int 0]) := (zqhk _ (kb_ne z (show 7 ≠ 23 by decide))).trans zqu23_0
  replace zqu27_0 : G80 (z + 8) = .inr (0, [.int 0, .int 0, .int 0, .int 0, .int 0, .int 0]) := (zqhk _ (kb_ne z (show 8 ≠ 23 by decide))).trans zqu27_0
  replace zqu31_0 : G80 (z + 9) = .inr (0, [.int 0, .int 0, .int 0, .int 0, .int 0, .int 0]) := (zqhk _ (kb_ne z (show 9 ≠ 23 by decide))).trans zqu31_0
  replace zqu35_0 : G80 (z + 10) = .inr (0, [.int 0, .int 0, .int 0, .int 0, .int 0, .int 0]) := (zqhk _ (kb_ne z (show 10 ≠ 23 by decide))).trans zqu35_0
  replace zqu39_0 : G80 (z + 11) = .inr (0, [.int 0, .int 0, .int 0, .int 0, .int 0, .int 0]) := (zqhk _ (kb_ne z (show 11 ≠ 23 by decide))).trans zqu39_0
  replace zqu43_0 : G80 (z + 12) = .inr (0, [.int 0, .int 0, .int 0, .int 0, .int 0, .int 0]) := (zqhk _ (kb_ne z (show 12 ≠ 23 by decide))).trans zqu43_0
  replace zqu47_0 : G80 (z + 13) = .inr (0, [.int 0, .int 0, .int 0, .int 0, .int 0, .int 0]) := (zqhk _ (kb_ne z (show 13 ≠ 23 by decide))).trans zqu47_0
  replace zqo3 : G80 z = .inl (cy 2, 9, .inr (.inr (.inr (.inr (va_up (va_up (va_up (va_up (va_up (va_up (va_up (va_up (va_up (fun _ => none) 0 (some (z + 5))) 1 (some (z + 6))) 2 (some (z + 7))) 3 (some (z + 8))) 4 (some (z + 9))) 5 (some (z + 10))) 6 (some (z + 11))) 7 (some (z + 12))) 8 (some (z + 13))))))) := (zqhk _ (kb_ne z (show 0 ≠ 23 by decide))).trans zqo3
  replace zqu52_0 : G80 (z + 14) = .inr (1, [.int 0, .int 0]) := (zqhk _ (kb_ne z (show 14 ≠ 23 by decide))).trans zqu52_0
  replace zqu56_0 : G80 (z + 15) = .inr (1, [.int 0, .int 0]) := (zqhk _ (kb_ne z (show 15 ≠ 23 by decide))).trans zqu56_0
  replace zqu60_0 : G80 (z + 16) = .inr (1, [.int 0, .int 0]) := (zqhk _ (kb_ne z (show 16 ≠ 23 by decide))).trans zqu60_0
  replace zqu64_0 : G80 (z + 17) = .inr (1, [.int 0, .int 0]) := (zqhk _ (kb_ne z (show 17 ≠ 23 by decide))).trans zqu64_0
  replace zqu68_0 : G80 (z + 18) = .inr (1, [.int 0, .int 0]) := (zqhk _ (kb_ne z (show 18 ≠ 23 by decide))).trans zqu68_0
  replace zqu72_0 : G80 (z + 19) = .inr (1, [.int 0, .int 0]) := (zqhk _ (kb_ne z (show 19 ≠ 23 by decide))).trans zqu72_0
  replace zqo5 : G80 (z + 1) = .inl (cy 3, 6, .inr (.inr (.inr (.inr (va_up (va_up (va_up (va_up (va_up (va_up (fun _ => none) 0 (some (z + 14))) 1 (some (z + 15))) 2 (some (z + 16))) 3 (some (z + 17))) 4 (some (z + 18))) 5 (some (z + 19))))))) := (zqhk _ (kb_ne z (show 1 ≠ 23 by decide))).trans zqo5
  replace zqu77_0 : G80 (z + 20) = .inr (6, [.int 0, .int 0, .ref (z + 21), .ref (z + 22)]) := (zqhk _ (kb_ne z (show 20 ≠ 23 by decide))).trans zqu77_0
  replace zqu77_1 : G80 (z + 21) = .inl (cy 0, 60, .inl (fun _ => 0)) := (zqhk _ (kb_ne z (show 21 ≠ 23 by decide))).trans zqu77_1
  replace zqu77_2 : G80 (z + 22) = .inl (cy 0, 60, .inl (fun _ => 0)) := (zqhk _ (kb_ne z (show 22 ≠ 23 by decide))).trans zqu77_2
  replace zqo7 : G80 (z + 2) = .inl (cy 4, 2, .inr (.inr (.inr (.inr (va_up (fun _ => none) 0 (some (z + 20))))))) := (zqhk _ (kb_ne z (show 2 ≠ 23 by decide))).trans zqo7
  have zqo80 : G80 (z + 23) = .inr (6, [.int 0, .int 0, .null, .null]) := by rw [zqeG]; exact kb_us
  clear zqeG zqhk
  replace zqhP : kb_P D b G80 (z + 24) zqH1 := zqhP
  refine lv_dup hx hb dX2_init_126 rfl ?_
  refine kb_callN (rest := [.ref (z + 23), .int 1, .ref (z + 2)]) ⟨hx, hb, hml, hown, hts⟩ hK zqhP zqhS (c_X6_init l D cy b G80 (z + 24) (z + 23) (by omega) (by omega) zqo80) ⟨va_cnB 0 hts gX2_init_X6_init_n46 rfl rfl rfl (hK.2.2.2.2.2.2.2.1) (hts (.initialized RX6) (List.mem_cons_of_mem _ bm_58)) (by decide +kernel) ⟨Nat.le_of_ble_eq_true rfl, Nat.le_of_ble_eq_true rfl⟩, rfl, hts (.instanceMethod yX6_init) (by decide +kernel)⟩ hl.1 (Nat.le_of_ble_eq_true rfl) dX2_init_127 ⟨Nat.le_of_ble_eq_true rfl, Nat.le_of_ble_eq_true rfl⟩ (fun G81 zqH1 zqlocs1 zqw81 zqhP1 zqhS1 => ?_)
  replace zqhP := zqhP1
  replace zqhS := zqhS1
  clear zqhP1 zqhS1
  obtain ⟨zqw81a, zqw81⟩ := zqw81
  replace zqo9 : G81 (z + 3) = .inl (cy 1, 60, .inl (fun _ => 0)) := (zqw81 _ (kb_ne z (show 3 ≠ 23 by decide)) (kb_lt z (show 3 < 24 by decide))).trans zqo9
  replace zqo11 : G81 (z + 4) = .inl (cy 0, 24, .inl (fun _ => 0)) := (zqw81 _ (kb_ne z (show 4 ≠ 23 by decide)) (kb_lt z (show 4 < 24 by decide))).trans zqo11
  replace zqoh : G81 h0 = .inr (2, [.int 0, .int 22, .int 1, .ref z, .int 0, .ref (z + 1), .int 0, .ref (z + 2), .ref (z + 3), .int 0, .ref (z + 4), .int 0]) := (zqw81 _ (kb_h1 hz0 23) (kb_h3 hz0 24)).trans zqoh
  replace zqu15_0 : G81 (z + 5) = .inr (0, [.int 0, .int 0, .int 0, .int 0, .int 0, .int 0]) := (zqw81 _ (kb_ne z (show 5 ≠ 23 by decide)) (kb_lt z (show 5 < 24 by decide))).trans zqu15_0
  replace zqu19_0 : G81 (z + 6) = .inr (0, [.int 0, .int 0, .int 0, .int 0, .int 0, .int 0]) := (zqw81 _ (kb_ne z (show 6 ≠ 23 by decide)) (kb_lt z (show 6 < 24 by decide))).trans zqu19_0
  replace zqu23_0 : G81 (z + 7) = .inr (0, [.int 0, .int 0, .int 0, .int 0, .int 0, .int 0]) := (zqw81 _ (kb_ne z (show 7 ≠ 23 by decide)) (kb_lt z (show 7 < 24 by decide))).trans zqu23_0
  replace zqu27_0 : G81 (z + 8) = .inr (0, [.int 0, .int 0, .int 0, .int 0, .int 0, .int 0]) := (zqw81 _ (kb_ne z (show 8 ≠ 23 by decide)) (kb_lt z (show 8 < 24 by decide))).trans zqu27_0
  replace zqu31_0 : G81 (z + 9) = .inr (0, [.int 0, .int 0, .int 0, .int 0, .int 0, .int 0]) := (zqw81 _ (kb_ne z (show 9 ≠ 23 by decide)) (kb_lt z (show 9 < 24 by decide))).trans zqu31_0
  replace zqu35_0 : G81 (z + 10) = .inr (0, [.int 0, .int 0, .int 0, .int 0, .int 0, .int 0]) := (zqw81 _ (kb_ne z (show 10 ≠ 23 by decide)) (kb_lt z (show 10 < 24 by decide))).trans zqu35_0
  replace zqu39_0 : G81 (z + 11) = .inr (0, [.int 0, .int 0, .int 0, .int 0, .int 0, .int 0]) := (zqw81 _ (kb_ne z (show 11 ≠ 23 by decide)) (kb_lt z (show 11 < 24 by decide))).trans zqu39_0
  replace zqu43_0 : G81 (z + 12) = .inr (0, [.int 0, .int 0, .int 0, .int 0, .int 0, .int 0]) := (zqw81 _ (kb_ne z (show 12 ≠ 23 by decide)) (kb_lt z (show 12 < 24 by decide))).trans zqu43_0
  replace zqu47_0 : G81 (z + 13) = .inr (0, [.int 0, .int 0, .int 0, .int 0, .int 0, .int 0]) := (zqw81 _ (kb_ne z (show 13 ≠ 23 by decide)) (kb_lt z (show 13 < 24 by decide))).trans zqu47_0
  replace zqo3 : G81 z = .inl (cy 2, 9, .inr (.inr (.inr (.inr (va_up (va_up (va_up (va_up (va_up (va_up (va_up (va_up (va_up (fun _ => none) 0 (some (z + 5))) 1 (some (z + 6))) 2 (some (z + 7))) 3 (some (z + 8))) 4 (some (z + 9))) 5 (some (z + 10))) 6 (some (z + 11))) 7 (some (z + 12))) 8 (some (z + 13))))))) := (zqw81 _ (kb_ne z (show 0 ≠ 23 by decide)) (kb_lt z (show 0 < 24 by decide))).trans zqo3
  replace zqu52_0 : G81 (z + 14) = .inr (1, [.int 0, .int 0]) := (zqw81 _ (kb_ne z (show 14 ≠ 23 by decide)) (kb_lt z (show 14 < 24 by decide))).trans zqu52_0
  replace zqu56_0 : G81 (z + 15) = .inr (1, [.int 0, .int 0]) := (zqw81 _ (kb_ne z (show 15 ≠ 23 by decide)) (kb_lt z (show 15 < 24 by decide))).trans zqu56_0
  replace zqu60_0 : G81 (z + 16) = .inr (1, [.int 0, .int 0]) := (zqw81 _ (kb_ne z (show 16 ≠ 23 by decide)) (kb_lt z (show 16 < 24 by decide))).trans zqu60_0
  replace zqu64_0 : G81 (z + 17) = .inr (1, [.int 0, .int 0]) := (zqw81 _ (kb_ne z (show 17 ≠ 23 by decide)) (kb_lt z (show 17 < 24 by decide))).trans zqu64_0
  replace zqu68_0 : G81 (z + 18) = .inr (1, [.int 0, .int 0]) := (zqw81 _ (kb_ne z (show 18 ≠ 23 by decide)) (kb_lt z (show 18 < 24 by decide))).trans zqu68_0
  replace zqu72_0 : G81 (z + 19) = .inr (1, [.int 0, .int 0]) := (zqw81 _ (kb_ne z (show 19 ≠ 23 by decide)) (kb_lt z (show 19 < 24 by decide))).trans zqu72_0
  replace zqo5 : G81 (z + 1) = .inl (cy 3, 6, .inr (.inr (.inr (.inr (va_up (va_up (va_up (va_up (va_up (va_up (fun _ => none) 0 (some (z + 14))) 1 (some (z + 15))) 2 (some (z + 16))) 3 (some (z + 17))) 4 (some (z + 18))) 5 (some (z + 19))))))) := (zqw81 _ (kb_ne z (show 1 ≠ 23 by decide)) (kb_lt z (show 1 < 24 by decide))).trans zqo5
  replace zqu77_0 : G81 (z + 20) = .inr (6, [.int 0, .int 0, .ref (z + 21), .ref (z + 22)]) := (zqw81 _ (kb_ne z (show 20 ≠ 23 by decide)) (kb_lt z (show 20 < 24 by decide))).trans zqu77_0
  replace zqu77_1 : G81 (z + 21) = .inl (cy 0, 60, .inl (fun _ => 0)) := (zqw81 _ (kb_ne z (show 21 ≠ 23 by decide)) (kb_lt z (show 21 < 24 by decide))).trans zqu77_1
  replace zqu77_2 : G81 (z + 22) = .inl (cy 0, 60, .inl (fun _ => 0)) := (zqw81 _ (kb_ne z (show 22 ≠ 23 by decide)) (kb_lt z (show 22 < 24 by decide))).trans zqu77_2
  replace zqo7 : G81 (z + 2) = .inl (cy 4, 2, .inr (.inr (.inr (.inr (va_up (fun _ => none) 0 (some (z + 20))))))) := (zqw81 _ (kb_ne z (show 2 ≠ 23 by decide)) (kb_lt z (show 2 < 24 by decide))).trans zqo7
  replace zqhF : ∀ q : Nat, q ≠ h0 → q < z → G81 q = G q := fun q h1 h2 => (zqw81 _ (by omega) (by omega)).trans (zqhF q h1 h2)
  obtain ⟨zqu81_0, zqu81_1, zqu81_2⟩ := zqw81a
  replace zqhP : kb_P D b G81 (z + 26) zqH1 := zqhP
  have zqk1 : (1 : Int32).toInt = 1 := by decide +kernel
  refine kb_aast hx hb hK zqhP zqhS (by omega) (by omega) 4 6 zqo7 rfl (by omega) (by omega) zqu81_0 rfl (by omega) (by omega) dX2_init_130 (fun j zqH1 zqlocs1 zqej zqhj zqhP1 zqhS1 => ?_)
  replace zqhP := zqhP1
  replace zqhS := zqhS1
  clear zqhP1 zqhS1
  have zqej : j = 1 := by omega
  subst zqej
  obtain ⟨G82, zqeG⟩ : ∃ q, q = kb_u G81 (z + 2) (.inl (cy 4, 2, .inr (.inr (.inr (.inr (va_up (va_up (fun _ => none) 0 (some (z + 20))) 1 (some (z + 23)))))))) := ⟨_, rfl⟩
  rw [← zqeG] at zqhP
  have zqhk : ∀ q : Nat, q ≠ z + 2 → G82 q = G81 q := fun q hq => by rw [zqeG]; exact kb_un hq
  replace zqhF : ∀ q : Nat, q ≠ h0 → q < z → G82 q = G q := fun q h1 h2 => (zqhk q (by omega)).trans (zqhF q h1 h2)
  replace zqo9 : G82 (z + 3) = .inl (cy 1, 60, .inl (fun _ => 0)) := (zqhk _ (kb_ne z (show 3 ≠ 2 by decide))).trans zqo9
  replace zqo11 : G82 (z + 4) = .inl (cy 0, 24, .inl (fun _ => 0)) := (zqhk _ (kb_ne z (show 4 ≠ 2 by decide))).trans zqo11
  replace zqoh : G82 h0 = .inr (2, [.int 0, .int 22, .int 1, .ref z, .int 0, .ref (z + 1), .int 0, .ref (z + 2), .ref (z + 3), .int 0, .ref (z + 4), .int 0]) := (zqhk _ (kb_h1 hz0 2)).trans zqoh
  replace zqu15_0 : G82 (z + 5) = .inr (0, [.int 0, .int 0, .int 0, .int 0, .int 0, .int 0]) := (zqhk _ (kb_ne z (show 5 ≠ 2 by decide))).trans zqu15_0
  replace zqu19_0 : G82 (z + 6) = .inr (0, [.int 0, .int 0, .int 0, .int 0, .int 0, .int 0]) := (zqhk _ (kb_ne z (show 6 ≠ 2 by decide))).trans zqu19_0
  replace zqu23_0 : G82 (z + 7) = .inr (0, [.int 0, .int 0, .int 0, .int 0, .int 0, .int 0]) := (zqhk _ (kb_ne z (show 7 ≠ 2 by decide))).trans zqu23_0
  replace zqu27_0 : G82 (z + 8) = .inr (0, [.int 0, .int 0, .int 0, .int 0, .int 0, .int 0]) := (zqhk _ (kb_ne z (show 8 ≠ 2 by decide))).trans zqu27_0
  replace zqu31_0 : G82 (z + 9) = .inr (0, [.int 0, .int 0, .int 0, .int 0, .int 0, .int 0]) := (zqhk _ (kb_ne z (show 9 ≠ 2 by decide))).trans zqu31_0
  replace zqu35_0 : G82 (z + 10) = .inr (0, [.int 0, .int 0, .int 0, .int 0, .int 0, .int 0]) := (zqhk _ (kb_ne z (show 10 ≠ 2 by decide))).trans zqu35_0
  replace zqu39_0 : G82 (z + 11) = .inr (0, [.int 0, .int 0, .int 0, .int 0, .int 0, .int 0]) := (zqhk _ (kb_ne z (show 11 ≠ 2 by decide))).trans zqu39_0
  replace zqu43_0 : G82 (z + 12) = .inr (0, [.int 0, .int 0, .int 0, .int 0, .int 0, .int 0]) := (zqhk _ (kb_ne z (show 12 ≠ 2 by decide))).trans zqu43_0
  replace zqu47_0 : G82 (z + 13) = .inr (0, [.int 0, .int 0, .int 0, .int 0, .int 0, .int 0]) := (zqhk _ (kb_ne z (show 13 ≠ 2 by decide))).trans zqu47_0
  replace zqo3 : G82 z = .inl (cy 2, 9, .inr (.inr (.inr (.inr (va_up (va_up (va_up (va_up (va_up (va_up (va_up (va_up (va_up (fun _ => none) 0 (some (z + 5))) 1 (some (z + 6))) 2 (some (z + 7))) 3 (some (z + 8))) 4 (some (z + 9))) 5 (some (z + 10))) 6 (some (z + 11))) 7 (some (z + 12))) 8 (some (z + 13))))))) := (zqhk _ (kb_ne z (show 0 ≠ 2 by decide))).trans zqo3
  replace zqu52_0 : G82 (z + 14) = .inr (1, [.int 0, .int 0]) := (zqhk _ (kb_ne z (show 14 ≠ 2 by decide))).trans zqu52_0
  replace zqu56_0 : G82 (z + 15) = .inr (1, [.int 0, .int 0]) := (zqhk _ (kb_ne z (show 15 ≠ 2 by decide))).trans zqu56_0
  replace zqu60_0 : G82 (z + 16) = .inr (1, [.int 0, .int 0]) := (zqhk _ (kb_ne z (show 16 ≠ 2 by decide))).trans zqu60_0
  replace zqu64_0 : G82 (z + 17) = .inr (1, [.int 0, .int 0]) := (zqhk _ (kb_ne z (show 17 ≠ 2 by decide))).trans zqu64_0
  replace zqu68_0 : G82 (z + 18) = .inr (1, [.int 0, .int 0]) := (zqhk _ (kb_ne z (show 18 ≠ 2 by decide))).trans zqu68_0
  replace zqu72_0 : G82 (z + 19) = .inr (1, [.int 0, .int 0]) := (zqhk _ (kb_ne z (show 19 ≠ 2 by decide))).trans zqu72_0
  replace zqo5 : G82 (z + 1) = .inl (cy 3, 6, .inr (.inr (.inr (.inr (va_up (va_up (va_up (va_up (va_up (va_up (fun _ => none) 0 (some (z + 14))) 1 (some (z + 15))) 2 (some (z + 16))) 3 (some (z + 17))) 4 (some (z + 18))) 5 (some (z + 19))))))) := (zqhk _ (kb_ne z (show 1 ≠ 2 by decide))).trans zqo5
  replace zqu77_0 : G82 (z + 20) = .inr (6, [.int 0, .int 0, .ref (z + 21), .ref (z + 22)]) := (zqhk _ (kb_ne z (show 20 ≠ 2 by decide))).trans zqu77_0
  replace zqu77_1 : G82 (z + 21) = .inl (cy 0, 60, .inl (fun _ => 0)) := (zqhk _ (kb_ne z (show 21 ≠ 2 by decide))).trans zqu77_1
  replace zqu77_2 : G82 (z + 22) = .inl (cy 0, 60, .inl (fun _ => 0)) := (zqhk _ (kb_ne z (show 22 ≠ 2 by decide))).trans zqu77_2
  replace zqu81_0 : G82 (z + 23) = .inr (6, [.int 0, .int 0, .ref (z + 24), .ref (z + 25)]) := (zqhk _ (kb_ne z (show 23 ≠ 2 by decide))).trans zqu81_0
  replace zqu81_1 : G82 (z + 24) = .inl (cy 0, 60, .inl (fun _ => 0)) := (zqhk _ (kb_ne z (show 24 ≠ 2 by decide))).trans zqu81_1
  replace zqu81_2 : G82 (z + 25) = .inl (cy 0, 60, .inl (fun _ => 0)) := (zqhk _ (kb_ne z (show 25 ≠ 2 by decide))).trans zqu81_2
  replace zqo7 : G82 (z + 2) = .inl (cy 4, 2, .inr (.inr (.inr (.inr (va_up (va_up (fun _ => none) 0 (some (z + 20))) 1 (some (z + 23))))))) := by rw [zqeG]; exact kb_us
  clear zqeG zqhk
  refine lv_iinc (v := 2) (lv' := [(1, .int 2), (0, .ref h0)]) hx hb dX2_init_131 hl (k := 0) rfl (by decide) (by decide) rfl (fun ls hl => ?_)
  refine lv_goto (tgt := 113) hx hb dX2_init_134 (by decide) ?_
  refine lv_iload_n hx hb dX2_init_113 rfl (lv_at hl 0 rfl) ?_
  refine lv_iconst (v := 2) hx hb dX2_init_114 (by decide) ?_
  refine lv_icmp_ge (tgt := 137) hx hb dX2_init_115 (by decide) (fun zqc83 => ?_) (fun zqc83 => absurd (by decide) zqc83)
  have zqp1 : ∀ j : Nat, j < 9 → (va_up (va_up (va_up (va_up (va_up (va_up (va_up (va_up (va_up (fun _ => none) 0 (some (z + 5))) 1 (some (z + 6))) 2 (some (z + 7))) 3 (some (z + 8))) 4 (some (z + 9))) 5 (some (z + 10))) 6 (some (z + 11))) 7 (some (z + 12))) 8 (some (z + 13))) j = some (z + 5 + j) := fun j zqhj => by rcases (show j = 0 ∨ j = 1 ∨ j = 2 ∨ j = 3 ∨ j = 4 ∨ j = 5 ∨ j = 6 ∨ j = 7 ∨ j = 8 by omega) with rfl | rfl | rfl | rfl | rfl | rfl | rfl | rfl | rfl <;> rfl
  have zqp2 : ∀ j : Nat, j < 6 → (va_up (va_up (va_up (va_up (va_up (va_up (fun _ => none) 0 (some (z + 14))) 1 (some (z + 15))) 2 (some (z + 16))) 3 (some (z + 17))) 4 (some (z + 18))) 5 (some (z + 19))) j = some (z + 14 + j) := fun j zqhj => by rcases (show j = 0 ∨ j = 1 ∨ j = 2 ∨ j = 3 ∨ j = 4 ∨ j = 5 by omega) with rfl | rfl | rfl | rfl | rfl | rfl <;> rfl
  have zqp3 : ∀ j : Nat, j < 2 → (va_up (va_up (fun _ => none) 0 (some (z + 20))) 1 (some (z + 23))) j = some (z + 20 + 3 * j) := fun j zqhj => by rcases (show j = 0 ∨ j = 1 by omega) with rfl | rfl <;> rfl
  have zqp4 : ∀ j : Nat, j < 9 → G82 (z + 5 + j) = .inr (0, [.int 0, .int 0, .int 0, .int 0, .int 0, .int 0]) := by
    intro j zqhj
    rcases (show j = 0 ∨ j = 1 ∨ j = 2 ∨ j = 3 ∨ j = 4 ∨ j = 5 ∨ j = 6 ∨ j = 7 ∨ j = 8 by omega) with rfl | rfl | rfl | rfl | rfl | rfl | rfl | rfl | rfl
    · exact zqu15_0
    · exact zqu19_0
    · exact zqu23_0
    · exact zqu27_0
    · exact zqu31_0
    · exact zqu35_0
    · exact zqu39_0
    · exact zqu43_0
    · exact zqu47_0
  have zqp5 : ∀ j : Nat, j < 6 → G82 (z + 14 + j) = .inr (1, [.int 0, .int 0]) := by
    intro j zqhj
    rcases (show j = 0 ∨ j = 1 ∨ j = 2 ∨ j = 3 ∨ j = 4 ∨ j = 5 by omega) with rfl | rfl | rfl | rfl | rfl | rfl
    · exact zqu52_0
    · exact zqu56_0
    · exact zqu60_0
    · exact zqu64_0
    · exact zqu68_0
    · exact zqu72_0
  have zqp6 : ∀ j : Nat, j < 2 → G82 (z + 20 + 3 * j) = .inr (6, [.int 0, .int 0, .ref (z + 20 + 3 * j + 1), .ref (z + 20 + 3 * j + 2)]) ∧ G82 (z + 20 + 3 * j + 1) = .inl (cy 0, 60, .inl (fun _ => 0)) ∧ G82 (z + 20 + 3 * j + 2) = .inl (cy 0, 60, .inl (fun _ => 0)) := by
    intro j zqhj
    rcases (show j = 0 ∨ j = 1 by omega) with rfl | rfl
    · exact ⟨zqu77_0, zqu77_1, zqu77_2⟩
    · exact ⟨zqu81_0, zqu81_1, zqu81_2⟩
  exact kb_vret hx hb hr hlocks hK zqhP zqhS dX2_init_137 ⟨⟨zqoh, ⟨_, zqo3, zqp1⟩, ⟨_, zqo5, zqp2⟩, ⟨_, zqo7, zqp3⟩, zqo9, zqo11, zqp4, zqp5, zqp6⟩, zqhF⟩
