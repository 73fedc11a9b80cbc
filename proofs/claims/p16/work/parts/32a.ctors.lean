theorem kb_ne (z : Nat) {i j : Nat} (h : i ≠ j) : z + i ≠ z + j := fun q => h (Nat.add_left_cancel q)
theorem kb_h1 {h0 z : Nat} (h : h0 < z) (i : Nat) : h0 ≠ z + i := by omega
theorem kb_h2 {h0 z : Nat} (h : h0 < z) (i : Nat) : z + i ≠ h0 := by omega
theorem kb_h3 {h0 z : Nat} (h : h0 < z) (n : Nat) : h0 < z + n := by omega
theorem kb_lt (z : Nat) {i n : Nat} (h : i < n) : z + i < z + n := Nat.add_lt_add_left h z
set_option maxHeartbeats 8000000 in
set_option maxRecDepth 100000 in
theorem c_X0_init (l : Launch) (D : va_G) (cy : Nat → ClassId) (b : Nat) (G : Nat → va_E) (z h0 : Nat) (zqhb0 : b ≤ h0) (hz0 : h0 < z) (zqoh : G h0 = .inr (0, [.int 0, .int 0, .int 0, .int 0, .int 0, .int 0])) : Met l yX0_init wzX0_init ({ frames := 1, cells := 0, slots := 0, locals := 12 }) (va_Pc [.ref h0] (kb_B D cy b G z)) (va_Qv (fun G1 => (G1 h0 = .inr (0, [.int 0, .int 0, .int 0, .int 0, .int 0, .int 0])) ∧ ∀ q : Nat, q ≠ h0 → q < z → G1 q = G q) (fun G1 => kb_B D cy b G1 (z)) (fun q : Nat => b ≤ q)) 0 0 (fun q : Nat => b ≤ q) := by
  refine kb_met (cc := cX0_init) (maxL := 1) (by decide) rfl (Nat.le_of_ble_eq_true rfl) ?_
  intro p e s m args below meth c ls hx hb hr hts hown hlocks hml zqhin hK zqhP zqhS hl
  have hl : lv_has ls 1 [(0, .ref h0)] := hl
  have hown : s.vm.findClass RX0 = some m.cls := hown
  have zqhin : meth.name = "<init>" := zqhin
  have zqhF : ∀ q : Nat, q ≠ h0 → q < z → G q = G q := fun _ _ _ => rfl
  generalize hlocs0 : ([] : List Loc) = zqlocs at zqhS ⊢
  refine lv_aload_n hx hb dX0_init_0 rfl (lv_at hl 0 rfl) ?_
  refine W.objInit hx hb hown (hts (.methodLink RX0 3 objectInit) (List.mem_cons_of_mem _ bm_61)) (hts (.instanceMethod objectInit) (List.mem_cons_of_mem _ bm_11)) (hts (.code objectInit ⟨#[0xb1]⟩ 1 none) (List.mem_cons_of_mem _ bm_12)) rfl (by rw [hml]; exact hl.1) rfl dX0_init_1 (Nat.le_of_ble_eq_true rfl) (Nat.le_of_ble_eq_true rfl) ?_
  refine W.eq (g2 := F0 m 4 ls []) rfl ?_
  exact kb_vret hx hb hr hlocks hK zqhP zqhS dX0_init_4 ⟨zqoh, zqhF⟩

set_option maxHeartbeats 8000000 in
set_option maxRecDepth 100000 in
theorem c_X1_init (l : Launch) (D : va_G) (cy : Nat → ClassId) (b : Nat) (G : Nat → va_E) (z h0 : Nat) (zqhb0 : b ≤ h0) (hz0 : h0 < z) (zqoh : G h0 = .inr (1, [.int 0, .int 0])) : Met l yX1_init wzX1_init ({ frames := 1, cells := 0, slots := 0, locals := 12 }) (va_Pc [.ref h0] (kb_B D cy b G z)) (va_Qv (fun G1 => (G1 h0 = .inr (1, [.int 0, .int 0])) ∧ ∀ q : Nat, q ≠ h0 → q < z → G1 q = G q) (fun G1 => kb_B D cy b G1 (z)) (fun q : Nat => b ≤ q)) 0 0 (fun q : Nat => b ≤ q) := by
  refine kb_met (cc := cX1_init) (maxL := 1) (by decide) rfl (Nat.le_of_ble_eq_true rfl) ?_
  intro p e s m args below meth c ls hx hb hr hts hown hlocks hml zqhin hK zqhP zqhS hl
  have hl : lv_has ls 1 [(0, .ref h0)] := hl
  have hown : s.vm.findClass RX1 = some m.cls := hown
  have zqhin : meth.name = "<init>" := zqhin
  have zqhF : ∀ q : Nat, q ≠ h0 → q < z → G q = G q := fun _ _ _ => rfl
  generalize hlocs0 : ([] : List Loc) = zqlocs at zqhS ⊢
  refine lv_aload_n hx hb dX1_init_0 rfl (lv_at hl 0 rfl) ?_
  refine W.objInit hx hb hown (hts (.methodLink RX1 1 objectInit) (List.mem_cons_of_mem _ bm_64)) (hts (.instanceMethod objectInit) (List.mem_cons_of_mem _ bm_11)) (hts (.code objectInit ⟨#[0xb1]⟩ 1 none) (List.mem_cons_of_mem _ bm_12)) rfl (by rw [hml]; exact hl.1) rfl dX1_init_1 (Nat.le_of_ble_eq_true rfl) (Nat.le_of_ble_eq_true rfl) ?_
  refine W.eq (g2 := F0 m 4 ls []) rfl ?_
  exact kb_vret hx hb hr hlocks hK zqhP zqhS dX1_init_4 ⟨zqoh, zqhF⟩

set_option maxHeartbeats 8000000 in
set_option maxRecDepth 100000 in
theorem c_X3_init (l : Launch) (D : va_G) (cy : Nat → ClassId) (b : Nat) (G : Nat → va_E) (z h0 : Nat) (zqhb0 : b ≤ h0) (hz0 : h0 < z) (zqoh : G h0 = .inr (3, [.int 0, .int 0, .null])) : Met l yX3_init wzX3_init ({ frames := 1, cells := 1, slots := 24, locals := 12 }) (va_Pc [.ref h0] (kb_B D cy b G z)) (va_Qv (fun G1 => (G1 h0 = .inr (3, [.int 0, .int 0, .ref z]) ∧ G1 z = .inl (cy 0, 24, .inl (fun _ => 0))) ∧ ∀ q : Nat, q ≠ h0 → q < z → G1 q = G q) (fun G1 => kb_B D cy b G1 (z + 1)) (fun q : Nat => b ≤ q)) 1 24 (fun q : Nat => b ≤ q) := by
  refine kb_met (cc := cX3_init) (maxL := 1) (by decide) rfl (Nat.le_of_ble_eq_true rfl) ?_
  intro p e s m args below meth c ls hx hb hr hts hown hlocks hml zqhin hK zqhP zqhS hl
  have hl : lv_has ls 1 [(0, .ref h0)] := hl
  have hown : s.vm.findClass RX3 = some m.cls := hown
  have zqhin : meth.name = "<init>" := zqhin
  have zqhF : ∀ q : Nat, q ≠ h0 → q < z → G q = G q := fun _ _ _ => rfl
  generalize hlocs0 : ([] : List Loc) = zqlocs at zqhS ⊢
  have hi3 : ∀ w ∈ wsX30, w ∈ wzX3_init := fun w h => List.mem_cons_of_mem _ (hbw3 w h)
  refine lv_aload_n hx hb dX3_init_0 rfl (lv_at hl 0 rfl) ?_
  refine W.objInit hx hb hown (hts (.methodLink RX3 3 objectInit) (List.mem_cons_of_mem _ bm_87)) (hts (.instanceMethod objectInit) (List.mem_cons_of_mem _ bm_11)) (hts (.code objectInit ⟨#[0xb1]⟩ 1 none) (List.mem_cons_of_mem _ bm_12)) rfl (by rw [hml]; exact hl.1) rfl dX3_init_1 (Nat.le_of_ble_eq_true rfl) (Nat.le_of_ble_eq_true rfl) ?_
  refine W.eq (g2 := F0 m 4 ls []) rfl ?_
  refine lv_aload_n hx hb dX3_init_4 rfl (lv_at hl 0 rfl) ?_
  refine lv_bipush (v := 24) hx hb dX3_init_5 (by decide) ?_
  refine kb_newa (atype := .int) (ty := .int) hx hb (hts (.arrayClass .int) (List.mem_cons_of_mem _ bm_32)) 0 rfl rfl (fun _ _ h => h) hK zqhP zqhS (n := 24) (N' := 24) rfl (by decide) (by decide) (Nat.le_of_ble_eq_true rfl) (Nat.le_of_ble_eq_true rfl) (Nat.le_of_ble_eq_true rfl) dX3_init_7 (fun zqH1 zqhP1 zqhS1 => ?_)
  replace zqhP := zqhP1
  replace zqhS := zqhS1
  clear zqhP1 zqhS1
  obtain ⟨G1, zqeG⟩ : ∃ q, q = kb_u G z (.inl (cy 0, 24, .inl (fun _ => 0))) := ⟨_, rfl⟩
  rw [← zqeG] at zqhP
  have zqhk : ∀ q : Nat, q ≠ z → G1 q = G q := fun q hq => by rw [zqeG]; exact kb_un hq
  replace zqhF : ∀ q : Nat, q ≠ h0 → q < z → G1 q = G q := fun q h1 h2 => (zqhk q (by omega)).trans (zqhF q h1 h2)
  replace zqoh : G1 h0 = .inr (3, [.int 0, .int 0, .null]) := (zqhk _ (kb_h1 hz0 0)).trans zqoh
  have zqo1 : G1 z = .inl (cy 0, 24, .inl (fun _ => 0)) := by rw [zqeG]; exact kb_us
  clear zqeG zqhk
  replace zqhP : kb_P D b G1 (z + 1) zqH1 := zqhP
  refine kb_putF (v := .ref z) (ty := .array .int) hx hb hts hi3 tyX3 tyX3_ok nmX3 hown hK zqhP zqhS (by omega) (by omega) zqoh rfl 2 (by decide) (hts (.fieldLink RX3 9 "NoonLaw$Sheet" "numbers" "[I") (List.mem_cons_of_mem _ bm_88)) rfl rfl zqhin rfl (by decide +kernel) rfl rfl (Nat.le_of_ble_eq_true rfl) dX3_init_9 (fun zqH1 zqlocs1 zqhP1 zqhS1 => ?_)
  replace zqhP := zqhP1
  replace zqhS := zqhS1
  clear zqhP1 zqhS1
  replace zqhP : kb_P D b (kb_u G1 h0 (.inr (3, [.int 0, .int 0, .ref z]))) (z + 1) zqH1 := zqhP
  obtain ⟨G2, zqeG⟩ : ∃ q, q = kb_u G1 h0 (.inr (3, [.int 0, .int 0, .ref z])) := ⟨_, rfl⟩
  rw [← zqeG] at zqhP
  have zqhk : ∀ q : Nat, q ≠ h0 → G2 q = G1 q := fun q hq => by rw [zqeG]; exact kb_un hq
  replace zqhF : ∀ q : Nat, q ≠ h0 → q < z → G2 q = G q := fun q h1 h2 => (zqhk q h1).trans (zqhF q h1 h2)
  replace zqo1 : G2 z = .inl (cy 0, 24, .inl (fun _ => 0)) := (zqhk _ (kb_h2 hz0 0)).trans zqo1
  replace zqoh : G2 h0 = .inr (3, [.int 0, .int 0, .ref z]) := by rw [zqeG]; exact kb_us
  clear zqeG zqhk
  exact kb_vret hx hb hr hlocks hK zqhP zqhS dX3_init_12 ⟨⟨zqoh, zqo1⟩, zqhF⟩

set_option maxHeartbeats 8000000 in
set_option maxRecDepth 100000 in
theorem c_X4_init (l : Launch) (D : va_G) (cy : Nat → ClassId) (b : Nat) (G : Nat → va_E) (z h0 : Nat) (zqhb0 : b ≤ h0) (hz0 : h0 < z) (zqoh : G h0 = .inr (4, [.int 0, .int 0, .int 0, .int 0, .int 0, .null, .null, .null])) : Met l yX4_init wzX4_init ({ frames := 1, cells := 3, slots := 29, locals := 12 }) (va_Pc [.ref h0] (kb_B D cy b G z)) (va_Qv (fun G1 => (G1 h0 = .inr (4, [.int 0, .int 0, .int 0, .int 0, .int 0, .ref z, .ref (z + 1), .ref (z + 2)]) ∧ G1 z = .inl (cy 0, 9, .inl (fun _ => 0)) ∧ G1 (z + 1) = .inl (cy 0, 10, .inl (fun _ => 0)) ∧ G1 (z + 2) = .inl (cy 0, 10, .inl (fun _ => 0))) ∧ ∀ q : Nat, q ≠ h0 → q < z → G1 q = G q) (fun G1 => kb_B D cy b G1 (z + 3)) (fun q : Nat => b ≤ q)) 3 29 (fun q : Nat => b ≤ q) := by
  refine kb_met (cc := cX4_init) (maxL := 1) (by decide) rfl (Nat.le_of_ble_eq_true rfl) ?_
  intro p e s m args below meth c ls hx hb hr hts hown hlocks hml zqhin hK zqhP zqhS hl
  have hl : lv_has ls 1 [(0, .ref h0)] := hl
  have hown : s.vm.findClass RX4 = some m.cls := hown
  have zqhin : meth.name = "<init>" := zqhin
  have zqhF : ∀ q : Nat, q ≠ h0 → q < z → G q = G q := fun _ _ _ => rfl
  generalize hlocs0 : ([] : List Loc) = zqlocs at zqhS ⊢
  have hi4 : ∀ w ∈ wsX40, w ∈ wzX4_init := fun w h => List.mem_cons_of_mem _ (hbw4 w h)
  refine lv_aload_n hx hb dX4_init_0 rfl (lv_at hl 0 rfl) ?_
  refine W.objInit hx hb hown (hts (.methodLink RX4 3 objectInit) (List.mem_cons_of_mem _ bm_81)) (hts (.instanceMethod objectInit) (List.mem_cons_of_mem _ bm_11)) (hts (.code objectInit ⟨#[0xb1]⟩ 1 none) (List.mem_cons_of_mem _ bm_12)) rfl (by rw [hml]; exact hl.1) rfl dX4_init_1 (Nat.le_of_ble_eq_true rfl) (Nat.le_of_ble_eq_true rfl) ?_
  refine W.eq (g2 := F0 m 4 ls []) rfl ?_
  refine lv_aload_n hx hb dX4_init_4 rfl (lv_at hl 0 rfl) ?_
  refine lv_bipush (v := 9) hx hb dX4_init_5 (by decide) ?_
  refine kb_newa (atype := .int) (ty := .int) hx hb (hts (.arrayClass .int) (List.mem_cons_of_mem _ bm_32)) 0 rfl rfl (fun _ _ h => h) hK zqhP zqhS (n := 9) (N' := 9) rfl (by decide) (by decide) (Nat.le_of_ble_eq_true rfl) (Nat.le_of_ble_eq_true rfl) (Nat.le_of_ble_eq_true rfl) dX4_init_7 (fun zqH1 zqhP1 zqhS1 => ?_)
  replace zqhP := zqhP1
  replace zqhS := zqhS1
  clear zqhP1 zqhS1
  obtain ⟨G1, zqeG⟩ : ∃ q, q = kb_u G z (.inl (cy 0, 9, .inl (fun _ => 0))) := ⟨_, rfl⟩
  rw [← zqeG] at zqhP
  have zqhk : ∀ q : Nat, q ≠ z → G1 q = G q := fun q hq => by rw [zqeG]; exact kb_un hq
  replace zqhF : ∀ q : Nat, q ≠ h0 → q < z → G1 q = G q := fun q h1 h2 => (zqhk q (by omega)).trans (zqhF q h1 h2)
  replace zqoh : G1 h0 = .inr (4, [.int 0, .int 0, .int 0, .int 0, .int 0, .null, .null, .null]) := (zqhk _ (kb_h1 hz0 0)).trans zqoh
  have zqo1 : G1 z = .inl (cy 0, 9, .inl (fun _ => 0)) := by rw [zqeG]; exact kb_us
  clear zqeG zqhk
  replace zqhP : kb_P D b G1 (z + 1) zqH1 := zqhP
  refine kb_putF (v := .ref z) (ty := .array .int) hx hb hts hi4 tyX4 tyX4_ok nmX4 hown hK zqhP zqhS (by omega) (by omega) zqoh rfl 5 (by decide) (hts (.fieldLink RX4 9 "NoonLaw$Sight" "weights" "[I") (List.mem_cons_of_mem _ bm_82)) rfl rfl zqhin rfl (by decide +kernel) rfl rfl (Nat.le_of_ble_eq_true rfl) dX4_init_9 (fun zqH1 zqlocs1 zqhP1 zqhS1 => ?_)
  replace zqhP := zqhP1
  replace zqhS := zqhS1
  clear zqhP1 zqhS1
  replace zqhP : kb_P D b (kb_u G1 h0 (.inr (4, [.int 0, .int 0, .int 0, .int 0, .int 0, .ref z, .null, .null]))) (z + 1) zqH1 := zqhP
  obtain ⟨G2, zqeG⟩ : ∃ q, q = kb_u G1 h0 (.inr (4, [.int 0, .int 0, .int 0, .int 0, .int 0, .ref z, .null, .null])) := ⟨_, rfl⟩
  rw [← zqeG] at zqhP
  have zqhk : ∀ q : Nat, q ≠ h0 → G2 q = G1 q := fun q hq => by rw [zqeG]; exact kb_un hq
  replace zqhF : ∀ q : Nat, q ≠ h0 → q < z → G2 q = G q := fun q h1 h2 => (zqhk q h1).trans (zqhF q h1 h2)
  replace zqo1 : G2 z = .inl (cy 0, 9, .inl (fun _ => 0)) := (zqhk _ (kb_h2 hz0 0)).trans zqo1
  replace zqoh : G2 h0 = .inr (4, [.int 0, .int 0, .int 0, .int 0, .int 0, .ref z, .null, .null]) := by rw [zqeG]; exact kb_us
  clear zqeG zqhk
  refine lv_aload_n hx hb dX4_init_12 rfl (lv_at hl 0 rfl) ?_
  refine lv_bipush (v := 10) hx hb dX4_init_13 (by decide) ?_
  refine kb_newa (atype := .int) (ty := .int) hx hb (hts (.arrayClass .int) (List.mem_cons_of_mem _ bm_32)) 0 rfl rfl (fun _ _ h => h) hK zqhP zqhS (n := 10) (N' := 10) rfl (by decide) (by decide) (Nat.le_of_ble_eq_true rfl) (Nat.le_of_ble_eq_true rfl) (Nat.le_of_ble_eq_true rfl) dX4_init_15 (fun zqH1 zqhP1 zqhS1 => ?_)
  replace zqhP := zqhP1
  replace zqhS := zqhS1
  clear zqhP1 zqhS1
  obtain ⟨G3, zqeG⟩ : ∃ q, q = kb_u G2 (z + 1) (.inl (cy 0, 10, .inl (fun _ => 0))) := ⟨_, rfl⟩
  rw [← zqeG] at zqhP
  have zqhk : ∀ q : Nat, q ≠ z + 1 → G3 q = G2 q := fun q hq => by rw [zqeG]; exact kb_un hq
  replace zqhF : ∀ q : Nat, q ≠ h0 → q < z → G3 q = G q := fun q h1 h2 => (zqhk q (by omega)).trans (zqhF q h1 h2)
  replace zqo1 : G3 z = .inl (cy 0, 9, .inl (fun _ => 0)) := (zqhk _ (kb_ne z (show 0 ≠ 1 by decide))).trans zqo1
  replace zqoh : G3 h0 = .inr (4, [.int 0, .int 0, .int 0, .int 0, .int 0, .ref z, .null, .null]) := (zqhk _ (kb_h1 hz0 1)).trans zqoh
  have zqo3 : G3 (z + 1) = .inl (cy 0, 10, .inl (fun _ => 0)) := by rw [zqeG]; exact kb_us
  clear zqeG zqhk
  replace zqhP : kb_P D b G3 (z + 2) zqH1 := zqhP
  refine kb_putF (v := .ref (z + 1)) (ty := .array .int) hx hb hts hi4 tyX4 tyX4_ok nmX4 hown hK zqhP zqhS (by omega) (by omega) zqoh rfl 6 (by decide) (hts (.fieldLink RX4 15 "NoonLaw$Sight" "bid" "[I") (List.mem_cons_of_mem _ bm_83)) rfl rfl zqhin rfl (by decide +kernel) rfl rfl (Nat.le_of_ble_eq_true rfl) dX4_init_17 (fun zqH1 zqlocs1 zqhP1 zqhS1 => ?_)
  replace zqhP := zqhP1
  replace zqhS := zqhS1
  clear zqhP1 zqhS1
  replace zqhP : kb_P D b (kb_u G3 h0 (.inr (4, [.int 0, .int 0, .int 0, .int 0, .int 0, .ref z, .ref (z + 1), .null]))) (z + 2) zqH1 := zqhP
  obtain ⟨G4, zqeG⟩ : ∃ q, q = kb_u G3 h0 (.inr (4, [.int 0, .int 0, .int 0, .int 0, .int 0, .ref z, .ref (z + 1), .null])) := ⟨_, rfl⟩
  rw [← zqeG] at zqhP
  have zqhk : ∀ q : Nat, q ≠ h0 → G4 q = G3 q := fun q hq => by rw [zqeG]; exact kb_un hq
  replace zqhF : ∀ q : Nat, q ≠ h0 → q < z → G4 q = G q := fun q h1 h2 => (zqhk q h1).trans (zqhF q h1 h2)
  replace zqo1 : G4 z = .inl (cy 0, 9, .inl (fun _ => 0)) := (zqhk _ (kb_h2 hz0 0)).trans zqo1
  replace zqo3 : G4 (z + 1) = .inl (cy 0, 10, .inl (fun _ => 0)) := (zqhk _ (kb_h2 hz0 1)).trans zqo3
  replace zqoh : G4 h0 = .inr (4, [.int 0, .int 0, .int 0, .int 0, .int 0, .ref z, .ref (z + 1), .null]) := by rw [zqeG]; exact kb_us
  clear zqeG zqhk
  refine lv_aload_n hx hb dX4_init_20 rfl (lv_at hl 0 rfl) ?_
  refine lv_bipush (v := 10) hx hb dX4_init_21 (by decide) ?_
  refine kb_newa (atype := .int) (ty := .int) hx hb (hts (.arrayClass .int) (List.mem_cons_of_mem _ bm_32)) 0 rfl rfl (fun _ _ h => h) hK zqhP zqhS (n := 10) (N' := 10) rfl (by decide) (by decide) (Nat.le_of_ble_eq_true rfl) (Nat.le_of_ble_eq_true rfl) (Nat.le_of_ble_eq_true rfl) dX4_init_23 (fun zqH1 zqhP1 zqhS1 => ?_)
  replace zqhP := zqhP1
  replace zqhS := zqhS1
  clear zqhP1 zqhS1
  obtain ⟨G5, zqeG⟩ : ∃ q, q = kb_u G4 (z + 2) (.inl (cy 0, 10, .inl (fun _ => 0))) := ⟨_, rfl⟩
  rw [← zqeG] at zqhP
  have zqhk : ∀ q : Nat, q ≠ z + 2 → G5 q = G4 q := fun q hq => by rw [zqeG]; exact kb_un hq
  replace zqhF : ∀ q : Nat, q ≠ h0 → q < z → G5 q = G q := fun q h1 h2 => (zqhk q (by omega)).trans (zqhF q h1 h2)
  replace zqo1 : G5 z = .inl (cy 0, 9, .inl (fun _ => 0)) := (zqhk _ (kb_ne z (show 0 ≠ 2 by decide))).trans zqo1
  replace zqo3 : G5 (z + 1) = .inl (cy 0, 10, .inl (fun _ => 0)) := (zqhk _ (kb_ne z (show 1 ≠ 2 by decide))).trans zqo3
  replace zqoh : G5 h0 = .inr (4, [.int 0, .int 0, .int 0, .int 0, .int 0, .ref z, .ref (z + 1), .null]) := (zqhk _ (kb_h1 hz0 2)).trans zqoh
  have zqo5 : G5 (z + 2) = .inl (cy 0, 10, .inl (fun _ => 0)) := by rw [zqeG]; exact kb_us
  clear zqeG zqhk
  replace zqhP : kb_P D b G5 (z + 3) zqH1 := zqhP
  refine kb_putF (v := .ref (z + 2)) (ty := .array .int) hx hb hts hi4 tyX4 tyX4_ok nmX4 hown hK zqhP zqhS (by omega) (by omega) zqoh rfl 7 (by decide) (hts (.fieldLink RX4 18 "NoonLaw$Sight" "ban" "[I") (List.mem_cons_of_mem _ bm_84)) rfl rfl zqhin rfl (by decide +kernel) rfl rfl (Nat.le_of_ble_eq_true rfl) dX4_init_25 (fun zqH1 zqlocs1 zqhP1 zqhS1 => ?_)
  replace zqhP := zqhP1
  replace zqhS := zqhS1
  clear zqhP1 zqhS1
  replace zqhP : kb_P D b (kb_u G5 h0 (.inr (4, [.int 0, .int 0, .int 0, .int 0, .int 0, .ref z, .ref (z + 1), .ref (z + 2)]))) (z + 3) zqH1 := zqhP
  obtain ⟨G6, zqeG⟩ : ∃ q, q = kb_u G5 h0 (.inr (4, [.int 0, .int 0, .int 0, .int 0, .int 0, .ref z, .ref (z + 1), .ref (z + 2)])) := ⟨_, rfl⟩
  rw [← zqeG] at zqhP
  have zqhk : ∀ q : Nat, q ≠ h0 → G6 q = G5 q := fun q hq => by rw [zqeG]; exact kb_un hq
  replace zqhF : ∀ q : Nat, q ≠ h0 → q < z → G6 q = G q := fun q h1 h2 => (zqhk q h1).trans (zqhF q h1 h2)
  replace zqo1 : G6 z = .inl (cy 0, 9, .inl (fun _ => 0)) := (zqhk _ (kb_h2 hz0 0)).trans zqo1
  replace zqo3 : G6 (z + 1) = .inl (cy 0, 10, .inl (fun _ => 0)) := (zqhk _ (kb_h2 hz0 1)).trans zqo3
  replace zqo5 : G6 (z + 2) = .inl (cy 0, 10, .inl (fun _ => 0)) := (zqhk _ (kb_h2 hz0 2)).trans zqo5
  replace zqoh : G6 h0 = .inr (4, [.int 0, .int 0, .int 0, .int 0, .int 0, .ref z, .ref (z + 1), .ref (z + 2)]) := by rw [zqeG]; exact kb_us
  clear zqeG zqhk
  exact kb_vret hx hb hr hlocks hK zqhP zqhS dX4_init_28 ⟨⟨zqoh, zqo1, zqo3, zqo5⟩, zqhF⟩

set_option maxHeartbeats 8000000 in
set_option maxRecDepth 100000 in
theorem c_X5_init (l : Launch) (D : va_G) (cy : Nat → ClassId) (b : Nat) (G : Nat → va_E) (z h0 : Nat) (zqhb0 : b ≤ h0) (hz0 : h0 < z) (zqoh : G h0 = .inr (5, [.null, .int 0, .int 0, .int 0, .int 0, .int 0])) : Met l yX5_init wzX5_init ({ frames := 1, cells := 1, slots := 30, locals := 12 }) (va_Pc [.ref h0] (kb_B D cy b G z)) (va_Qv (fun G1 => (G1 h0 = .inr (5, [.ref z, .int 0, .int 0, .int 0, .int 0, .int 0]) ∧ G1 z = .inl (cy 0, 30, .inl (fun _ => 0))) ∧ ∀ q : Nat, q ≠ h0 → q < z → G1 q = G q) (fun G1 => kb_B D cy b G1 (z + 1)) (fun q : Nat => b ≤ q)) 1 30 (fun q : Nat => b ≤ q) := by
  refine kb_met (cc := cX5_init) (maxL := 1) (by decide) rfl (Nat.le_of_ble_eq_true rfl) ?_
  intro p e s m args below meth c ls hx hb hr hts hown hlocks hml zqhin hK zqhP zqhS hl
  have hl : lv_has ls 1 [(0, .ref h0)] := hl
  have hown : s.vm.findClass RX5 = some m.cls := hown
  have zqhin : meth.name = "<init>" := zqhin
  have zqhF : ∀ q : Nat, q ≠ h0 → q < z → G q = G q := fun _ _ _ => rfl
  generalize hlocs0 : ([] : List Loc) = zqlocs at zqhS ⊢
  have hi5 : ∀ w ∈ wsX50, w ∈ wzX5_init := fun w h => List.mem_cons_of_mem _ (hbw5 w h)
  refine lv_aload_n hx hb dX5_init_0 rfl (lv_at hl 0 rfl) ?_
  refine W.objInit hx hb hown (hts (.methodLink RX5 3 objectInit) (List.mem_cons_of_mem _ bm_72)) (hts (.instanceMethod objectInit) (List.mem_cons_of_mem _ bm_11)) (hts (.code objectInit ⟨#[0xb1]⟩ 1 none) (List.mem_cons_of_mem _ bm_12)) rfl (by rw [hml]; exact hl.1) rfl dX5_init_1 (Nat.le_of_ble_eq_true rfl) (Nat.le_of_ble_eq_true rfl) ?_
  refine W.eq (g2 := F0 m 4 ls []) rfl ?_
  refine lv_aload_n hx hb dX5_init_4 rfl (lv_at hl 0 rfl) ?_
  refine lv_bipush (v := 30) hx hb dX5_init_5 (by decide) ?_
  refine kb_newa (atype := .int) (ty := .int) hx hb (hts (.arrayClass .int) (List.mem_cons_of_mem _ bm_32)) 0 rfl rfl (fun _ _ h => h) hK zqhP zqhS (n := 30) (N' := 30) rfl (by decide) (by decide) (Nat.le_of_ble_eq_true rfl) (Nat.le_of_ble_eq_true rfl) (Nat.le_of_ble_eq_true rfl) dX5_init_7 (fun zqH1 zqhP1 zqhS1 => ?_)
  replace zqhP := zqhP1
  replace zqhS := zqhS1
  clear zqhP1 zqhS1
  obtain ⟨G1, zqeG⟩ : ∃ q, q = kb_u G z (.inl (cy 0, 30, .inl (fun _ => 0))) := ⟨_, rfl⟩
  rw [← zqeG] at zqhP
  have zqhk : ∀ q : Nat, q ≠ z → G1 q = G q := fun q hq => by rw [zqeG]; exact kb_un hq
  replace zqhF : ∀ q : Nat, q ≠ h0 → q < z → G1 q = G q := fun q h1 h2 => (zqhk q (by omega)).trans (zqhF q h1 h2)
  replace zqoh : G1 h0 = .inr (5, [.null, .int 0, .int 0, .int 0, .int 0, .int 0]) := (zqhk _ (kb_h1 hz0 0)).trans zqoh
  have zqo1 : G1 z = .inl (cy 0, 30, .inl (fun _ => 0)) := by rw [zqeG]; exact kb_us
  clear zqeG zqhk
  replace zqhP : kb_P D b G1 (z + 1) zqH1 := zqhP
  refine kb_putF (v := .ref z) (ty := .array .int) hx hb hts hi5 tyX5 tyX5_ok nmX5 hown hK zqhP zqhS (by omega) (by omega) zqoh rfl 0 (by decide) (hts (.fieldLink RX5 9 "NoonLaw$Speaker" "trace" "[I") (List.mem_cons_of_mem _ bm_73)) rfl rfl zqhin rfl (by decide +kernel) rfl rfl (Nat.le_of_ble_eq_true rfl) dX5_init_9 (fun zqH1 zqlocs1 zqhP1 zqhS1 => ?_)
  replace zqhP := zqhP1
  replace zqhS := zqhS1
  clear zqhP1 zqhS1
  replace zqhP : kb_P D b (kb_u G1 h0 (.inr (5, [.ref z, .int 0, .int 0, .int 0, .int 0, .int 0]))) (z + 1) zqH1 := zqhP
  obtain ⟨G2, zqeG⟩ : ∃ q, q = kb_u G1 h0 (.inr (5, [.ref z, .int 0, .int 0, .int 0, .int 0, .int 0])) := ⟨_, rfl⟩
  rw [← zqeG] at zqhP
  have zqhk : ∀ q : Nat, q ≠ h0 → G2 q = G1 q := fun q hq => by rw [zqeG]; exact kb_un hq
  replace zqhF : ∀ q : Nat, q ≠ h0 → q < z → G2 q = G q := fun q h1 h2 => (zqhk q h1).trans (zqhF q h1 h2)
  replace zqo1 : G2 z = .inl (cy 0, 30, .inl (fun _ => 0)) := (zqhk _ (kb_h2 hz0 0)).trans zqo1
  replace zqoh : G2 h0 = .inr (5, [.ref z, .int 0, .int 0, .int 0, .int 0, .int 0]) := by rw [zqeG]; exact kb_us
  clear zqeG zqhk
  exact kb_vret hx hb hr hlocks hK zqhP zqhS dX5_init_12 ⟨⟨zqoh, zqo1⟩, zqhF⟩

set_option maxHeartbeats 8000000 in
set_option maxRecDepth 100000 in
theorem c_X6_init (l : Launch) (D : va_G) (cy : Nat → ClassId) (b : Nat) (G : Nat → va_E) (z h0 : Nat) (zqhb0 : b ≤ h0) (hz0 : h0 < z) (zqoh : G h0 = .inr (6, [.int 0, .int 0, .null, .null])) : Met l yX6_init wzX6_init ({ frames := 1, cells := 2, slots := 120, locals := 12 }) (va_Pc [.ref h0] (kb_B D cy b G z)) (va_Qv (fun G1 => (G1 h0 = .inr (6, [.int 0, .int 0, .ref z, .ref (z + 1)]) ∧ G1 z = .inl (cy 0, 60, .inl (fun _ => 0)) ∧ G1 (z + 1) = .inl (cy 0, 60, .inl (fun _ => 0))) ∧ ∀ q : Nat, q ≠ h0 → q < z → G1 q = G q) (fun G1 => kb_B D cy b G1 (z + 2)) (fun q : Nat => b ≤ q)) 2 120 (fun q : Nat => b ≤ q) := by
  refine kb_met (cc := cX6_init) (maxL := 1) (by decide) rfl (Nat.le_of_ble_eq_true rfl) ?_
  intro p e s m args below meth c ls hx hb hr hts hown hlocks hml zqhin hK zqhP zqhS hl
  have hl : lv_has ls 1 [(0, .ref h0)] := hl
  have hown : s.vm.findClass RX6 = some m.cls := hown
  have zqhin : meth.name = "<init>" := zqhin
  have zqhF : ∀ q : Nat, q ≠ h0 → q < z → G q = G q := fun _ _ _ => rfl
  generalize hlocs0 : ([] : List Loc) = zqlocs at zqhS ⊢
  have hi6 : ∀ w ∈ wsX60, w ∈ wzX6_init := fun w h => List.mem_cons_of_mem _ (hbw6 w h)
  refine lv_aload_n hx hb dX6_init_0 rfl (lv_at hl 0 rfl) ?_
  refine W.objInit hx hb hown (hts (.methodLink RX6 3 objectInit) (List.mem_cons_of_mem _ bm_67)) (hts (.instanceMethod objectInit) (List.mem_cons_of_mem _ bm_11)) (hts (.code objectInit ⟨#[0xb1]⟩ 1 none) (List.mem_cons_of_mem _ bm_12)) rfl (by rw [hml]; exact hl.1) rfl dX6_init_1 (Nat.le_of_ble_eq_true rfl) (Nat.le_of_ble_eq_true rfl) ?_
  refine W.eq (g2 := F0 m 4 ls []) rfl ?_
  refine lv_aload_n hx hb dX6_init_4 rfl (lv_at hl 0 rfl) ?_
  refine lv_bipush (v := 60) hx hb dX6_init_5 (by decide) ?_
  refine kb_newa (atype := .int) (ty := .int) hx hb (hts (.arrayClass .int) (List.mem_cons_of_mem _ bm_32)) 0 rfl rfl (fun _ _ h => h) hK zqhP zqhS (n := 60) (N' := 60) rfl (by decide) (by decide) (Nat.le_of_ble_eq_true rfl) (Nat.le_of_ble_eq_true rfl) (Nat.le_of_ble_eq_true rfl) dX6_init_7 (fun zqH1 zqhP1 zqhS1 => ?_)
  replace zqhP := zqhP1
  replace zqhS := zqhS1
  clear zqhP1 zqhS1
  obtain ⟨G1, zqeG⟩ : ∃ q, q = kb_u G z (.inl (cy 0, 60, .inl (fun _ => 0))) := ⟨_, rfl⟩
  rw [← zqeG] at zqhP
  have zqhk : ∀ q : Nat, q ≠ z → G1 q = G q := fun q hq => by rw [zqeG]; exact kb_un hq
  replace zqhF : ∀ q : Nat, q ≠ h0 → q < z → G1 q = G q := fun q h1 h2 => (zqhk q (by omega)).trans (zqhF q h1 h2)
  replace zqoh : G1 h0 = .inr (6, [.int 0, .int 0, .null, .null]) := (zqhk _ (kb_h1 hz0 0)).trans zqoh
  have zqo1 : G1 z = .inl (cy 0, 60, .inl (fun _ => 0)) := by rw [zqeG]; exact kb_us
  clear zqeG zqhk
  replace zqhP : kb_P D b G1 (z + 1) zqH1 := zqhP
  refine kb_putF (v := .ref z) (ty := .array .int) hx hb hts hi6 tyX6 tyX6_ok nmX6 hown hK zqhP zqhS (by omega) (by omega) zqoh rfl 2 (by decide) (hts (.fieldLink RX6 9 "NoonLaw$Text" "codes" "[I") (List.mem_cons_of_mem _ bm_68)) rfl rfl zqhin rfl (by decide +kernel) rfl rfl (Nat.le_of_ble_eq_true rfl) dX6_init_9 (fun zqH1 zqlocs1 zqhP1 zqhS1 => ?_)
  replace zqhP := zqhP1
  replace zqhS := zqhS1
  clear zqhP1 zqhS1
  replace zqhP : kb_P D b (kb_u G1 h0 (.inr (6, [.int 0, .int 0, .ref z, .null]))) (z + 1) zqH1 := zqhP
  obtain ⟨G2, zqeG⟩ : ∃ q, q = kb_u G1 h0 (.inr (6, [.int 0, .int 0, .ref z, .null])) := ⟨_, rfl⟩
  rw [← zqeG] at zqhP
  have zqhk : ∀ q : Nat, q ≠ h0 → G2 q = G1 q := fun q hq => by rw [zqeG]; exact kb_un hq
  replace zqhF : ∀ q : Nat, q ≠ h0 → q < z → G2 q = G q := fun q h1 h2 => (zqhk q h1).trans (zqhF q h1 h2)
  replace zqo1 : G2 z = .inl (cy 0, 60, .inl (fun _ => 0)) := (zqhk _ (kb_h2 hz0 0)).trans zqo1
  replace zqoh : G2 h0 = .inr (6, [.int 0, .int 0, .ref z, .null]) := by rw [zqeG]; exact kb_us
  clear zqeG zqhk
  refine lv_aload_n hx hb dX6_init_12 rfl (lv_at hl 0 rfl) ?_
  refine lv_bipush (v := 60) hx hb dX6_init_13 (by decide) ?_
  refine kb_newa (atype := .int) (ty := .int) hx hb (hts (.arrayClass .int) (List.mem_cons_of_mem _ bm_32)) 0 rfl rfl (fun _ _ h => h) hK zqhP zqhS (n := 60) (N' := 60) rfl (by decide) (by decide) (Nat.le_of_ble_eq_true rfl) (Nat.le_of_ble_eq_true rfl) (Nat.le_of_ble_eq_true rfl) dX6_init_15 (fun zqH1 zqhP1 zqhS1 => ?_)
  replace zqhP := zqhP1
  replace zqhS := zqhS1
  clear zqhP1 zqhS1
  obtain ⟨G3, zqeG⟩ : ∃ q, q = kb_u G2 (z + 1) (.inl (cy 0, 60, .inl (fun _ => 0))) := ⟨_, rfl⟩
  rw [← zqeG] at zqhP
  have zqhk : ∀ q : Nat, q ≠ z + 1 → G3 q = G2 q := fun q hq => by rw [zqeG]; exact kb_un hq
  replace zqhF : ∀ q : Nat, q ≠ h0 → q < z → G3 q = G q := fun q h1 h2 => (zqhk q (by omega)).trans (zqhF q h1 h2)
  replace zqo1 : G3 z = .inl (cy 0, 60, .inl (fun _ => 0)) := (zqhk _ (kb_ne z (show 0 ≠ 1 by decide))).trans zqo1
  replace zqoh : G3 h0 = .inr (6, [.int 0, .int 0, .ref z, .null]) := (zqhk _ (kb_h1 hz0 1)).trans zqoh
  have zqo3 : G3 (z + 1) = .inl (cy 0, 60, .inl (fun _ => 0)) := by rw [zqeG]; exact kb_us
  clear zqeG zqhk
  replace zqhP : kb_P D b G3 (z + 2) zqH1 := zqhP
  refine kb_putF (v := .ref (z + 1)) (ty := .array .int) hx hb hts hi6 tyX6 tyX6_ok nmX6 hown hK zqhP zqhS (by omega) (by omega) zqoh rfl 3 (by decide) (hts (.fieldLink RX6 15 "NoonLaw$Text" "stack" "[I") (List.mem_cons_of_mem _ bm_69)) rfl rfl zqhin rfl (by decide +kernel) rfl rfl (Nat.le_of_ble_eq_true rfl) dX6_init_17 (fun zqH1 zqlocs1 zqhP1 zqhS1 => ?_)
  replace zqhP := zqhP1
  replace zqhS := zqhS1
  clear zqhP1 zqhS1
  replace zqhP : kb_P D b (kb_u G3 h0 (.inr (6, [.int 0, .int 0, .ref z, .ref (z + 1)]))) (z + 2) zqH1 := zqhP
  obtain ⟨G4, zqeG⟩ : ∃ q, q = kb_u G3 h0 (.inr (6, [.int 0, .int 0, .ref z, .ref (z + 1)])) := ⟨_, rfl⟩
  rw [← zqeG] at zqhP
  have zqhk : ∀ q : Nat, q ≠ h0 → G4 q = G3 q := fun q hq => by rw [zqeG]; exact kb_un hq
  replace zqhF : ∀ q : Nat, q ≠ h0 → q < z → G4 q = G q := fun q h1 h2 => (zqhk q h1).trans (zqhF q h1 h2)
  replace zqo1 : G4 z = .inl (cy 0, 60, .inl (fun _ => 0)) := (zqhk _ (kb_h2 hz0 0)).trans zqo1
  replace zqo3 : G4 (z + 1) = .inl (cy 0, 60, .inl (fun _ => 0)) := (zqhk _ (kb_h2 hz0 1)).trans zqo3
  replace zqoh : G4 h0 = .inr (6, [.int 0, .int 0, .ref z, .ref (z + 1)]) := by rw [zqeG]; exact kb_us
  clear zqeG zqhk
  exact kb_vret hx hb hr hlocks hK zqhP zqhS dX6_init_20 ⟨⟨zqoh, zqo1, zqo3⟩, zqhF⟩

set_option maxHeartbeats 8000000 in
set_option maxRecDepth 100000 in
theorem c_X7_init (l : Launch) (D : va_G) (cy : Nat → ClassId) (b : Nat) (G : Nat → va_E) (z h0 : Nat) (zqhb0 : b ≤ h0) (hz0 : h0 < z) (zqoh : G h0 = .inr (7, [.int 0, .int 0, .null, .null, .int 0, .int 0])) : Met l yX7_init wzX7_init ({ frames := 1, cells := 2, slots := 120, locals := 12 }) (va_Pc [.ref h0] (kb_B D cy b G z)) (va_Qv (fun G1 => (G1 h0 = .inr (7, [.int 0, .int 0, .ref z, .ref (z + 1), .int 0, .int 0]) ∧ G1 z = .inl (cy 0, 60, .inl (fun _ => 0)) ∧ G1 (z + 1) = .inl (cy 1, 60, .inl (fun _ => 0))) ∧ ∀ q : Nat, q ≠ h0 → q < z → G1 q = G q) (fun G1 => kb_B D cy b G1 (z + 2)) (fun q : Nat => b ≤ q)) 2 120 (fun q : Nat => b ≤ q) := by
  refine kb_met (cc := cX7_init) (maxL := 1) (by decide) rfl (Nat.le_of_ble_eq_true rfl) ?_
  intro p e s m args below meth c ls hx hb hr hts hown hlocks hml zqhin hK zqhP zqhS hl
  have hl : lv_has ls 1 [(0, .ref h0)] := hl
  have hown : s.vm.findClass RX7 = some m.cls := hown
  have zqhin : meth.name = "<init>" := zqhin
  have zqhF : ∀ q : Nat, q ≠ h0 → q < z → G q = G q := fun _ _ _ => rfl
  generalize hlocs0 : ([] : List Loc) = zqlocs at zqhS ⊢
  have hi7 : ∀ w ∈ wsX70, w ∈ wzX7_init := fun w h => List.mem_cons_of_mem _ (hbw7 w h)
  refine lv_aload_n hx hb dX7_init_0 rfl (lv_at hl 0 rfl) ?_
  refine W.objInit hx hb hown (hts (.methodLink RX7 3 objectInit) (List.mem_cons_of_mem _ bm_76)) (hts (.instanceMethod objectInit) (List.mem_cons_of_mem _ bm_11)) (hts (.code objectInit ⟨#[0xb1]⟩ 1 none) (List.mem_cons_of_mem _ bm_12)) rfl (by rw [hml]; exact hl.1) rfl dX7_init_1 (Nat.le_of_ble_eq_true rfl) (Nat.le_of_ble_eq_true rfl) ?_
  refine W.eq (g2 := F0 m 4 ls []) rfl ?_
  refine lv_aload_n hx hb dX7_init_4 rfl (lv_at hl 0 rfl) ?_
  refine lv_bipush (v := 60) hx hb dX7_init_5 (by decide) ?_
  refine kb_newa (atype := .int) (ty := .int) hx hb (hts (.arrayClass .int) (List.mem_cons_of_mem _ bm_32)) 0 rfl rfl (fun _ _ h => h) hK zqhP zqhS (n := 60) (N' := 60) rfl (by decide) (by decide) (Nat.le_of_ble_eq_true rfl) (Nat.le_of_ble_eq_true rfl) (Nat.le_of_ble_eq_true rfl) dX7_init_7 (fun zqH1 zqhP1 zqhS1 => ?_)
  replace zqhP := zqhP1
  replace zqhS := zqhS1
  clear zqhP1 zqhS1
  obtain ⟨G1, zqeG⟩ : ∃ q, q = kb_u G z (.inl (cy 0, 60, .inl (fun _ => 0))) := ⟨_, rfl⟩
  rw [← zqeG] at zqhP
  have zqhk : ∀ q : Nat, q ≠ z → G1 q = G q := fun q hq => by rw [zqeG]; exact kb_un hq
  replace zqhF : ∀ q : Nat, q ≠ h0 → q < z → G1 q = G q := fun q h1 h2 => (zqhk q (by omega)).trans (zqhF q h1 h2)
  replace zqoh : G1 h0 = .inr (7, [.int 0, .int 0, .null, .null, .int 0, .int 0]) := (zqhk _ (kb_h1 hz0 0)).trans zqoh
  have zqo1 : G1 z = .inl (cy 0, 60, .inl (fun _ => 0)) := by rw [zqeG]; exact kb_us
  clear zqeG zqhk
  replace zqhP : kb_P D b G1 (z + 1) zqH1 := zqhP
  refine kb_putF (v := .ref z) (ty := .array .int) hx hb hts hi7 tyX7 tyX7_ok nmX7 hown hK zqhP zqhS (by omega) (by omega) zqoh rfl 2 (by decide) (hts (.fieldLink RX7 9 "NoonLaw$TextReader" "codes" "[I") (List.mem_cons_of_mem _ bm_77)) rfl rfl zqhin rfl (by decide +kernel) rfl rfl (Nat.le_of_ble_eq_true rfl) dX7_init_9 (fun zqH1 zqlocs1 zqhP1 zqhS1 => ?_)
  replace zqhP := zqhP1
  replace zqhS := zqhS1
  clear zqhP1 zqhS1
  replace zqhP : kb_P D b (kb_u G1 h0 (.inr (7, [.int 0, .int 0, .ref z, .null, .int 0, .int 0]))) (z + 1) zqH1 := zqhP
  obtain ⟨G2, zqeG⟩ : ∃ q, q = kb_u G1 h0 (.inr (7, [.int 0, .int 0, .ref z, .null, .int 0, .int 0])) := ⟨_, rfl⟩
  rw [← zqeG] at zqhP
  have zqhk : ∀ q : Nat, q ≠ h0 → G2 q = G1 q := fun q hq => by rw [zqeG]; exact kb_un hq
  replace zqhF : ∀ q : Nat, q ≠ h0 → q < z → G2 q = G q := fun q h1 h2 => (zqhk q h1).trans (zqhF q h1 h2)
  replace zqo1 : G2 z = .inl (cy 0, 60, .inl (fun _ => 0)) := (zqhk _ (kb_h2 hz0 0)).trans zqo1
  replace zqoh : G2 h0 = .inr (7, [.int 0, .int 0, .ref z, .null, .int 0, .int 0]) := by rw [zqeG]; exact kb_us
  clear zqeG zqhk
  refine lv_aload_n hx hb dX7_init_12 rfl (lv_at hl 0 rfl) ?_
  refine lv_bipush (v := 60) hx hb dX7_init_13 (by decide) ?_
  refine kb_newa (atype := .byte) (ty := .byte) hx hb (hts (.arrayClass .byte) (List.mem_cons_of_mem _ bm_50)) 1 rfl rfl (fun _ _ h => h) hK zqhP zqhS (n := 60) (N' := 60) rfl (by decide) (by decide) (Nat.le_of_ble_eq_true rfl) (Nat.le_of_ble_eq_true rfl) (Nat.le_of_ble_eq_true rfl) dX7_init_15 (fun zqH1 zqhP1 zqhS1 => ?_)
  replace zqhP := zqhP1
  replace zqhS := zqhS1
  clear zqhP1 zqhS1
  obtain ⟨G3, zqeG⟩ : ∃ q, q = kb_u G2 (z + 1) (.inl (cy 1, 60, .inl (fun _ => 0))) := ⟨_, rfl⟩
  rw [← zqeG] at zqhP
  have zqhk : ∀ q : Nat, q ≠ z + 1 → G3 q = G2 q := fun q hq => by rw [zqeG]; exact kb_un hq
  replace zqhF : ∀ q : Nat, q ≠ h0 → q < z → G3 q = G q := fun q h1 h2 => (zqhk q (by omega)).trans (zqhF q h1 h2)
  replace zqo1 : G3 z = .inl (cy 0, 60, .inl (fun _ => 0)) := (zqhk _ (kb_ne z (show 0 ≠ 1 by decide))).trans zqo1
  replace zqoh : G3 h0 = .inr (7, [.int 0, .int 0, .ref z, .null, .int 0, .int 0]) := (zqhk _ (kb_h1 hz0 1)).trans zqoh
  have zqo3 : G3 (z + 1) = .inl (cy 1, 60, .inl (fun _ => 0)) := by rw [zqeG]; exact kb_us
  clear zqeG zqhk
  replace zqhP : kb_P D b G3 (z + 2) zqH1 := zqhP
  refine kb_putF (v := .ref (z + 1)) (ty := .array .byte) hx hb hts hi7 tyX7 tyX7_ok nmX7 hown hK zqhP zqhS (by omega) (by omega) zqoh rfl 3 (by decide) (hts (.fieldLink RX7 15 "NoonLaw$TextReader" "tape" "[B") (List.mem_cons_of_mem _ bm_78)) rfl rfl zqhin rfl (by decide +kernel) rfl rfl (Nat.le_of_ble_eq_true rfl) dX7_init_17 (fun zqH1 zqlocs1 zqhP1 zqhS1 => ?_)
  replace zqhP := zqhP1
  replace zqhS := zqhS1
  clear zqhP1 zqhS1
  replace zqhP : kb_P D b (kb_u G3 h0 (.inr (7, [.int 0, .int 0, .ref z, .ref (z + 1), .int 0, .int 0]))) (z + 2) zqH1 := zqhP
  obtain ⟨G4, zqeG⟩ : ∃ q, q = kb_u G3 h0 (.inr (7, [.int 0, .int 0, .ref z, .ref (z + 1), .int 0, .int 0])) := ⟨_, rfl⟩
  rw [← zqeG] at zqhP
  have zqhk : ∀ q : Nat, q ≠ h0 → G4 q = G3 q := fun q hq => by rw [zqeG]; exact kb_un hq
  replace zqhF : ∀ q : Nat, q ≠ h0 → q < z → G4 q = G q := fun q h1 h2 => (zqhk q h1).trans (zqhF q h1 h2)
  replace zqo1 : G4 z = .inl (cy 0, 60, .inl (fun _ => 0)) := (zqhk _ (kb_h2 hz0 0)).trans zqo1
  replace zqo3 : G4 (z + 1) = .inl (cy 1, 60, .inl (fun _ => 0)) := (zqhk _ (kb_h2 hz0 1)).trans zqo3
  replace zqoh : G4 h0 = .inr (7, [.int 0, .int 0, .ref z, .ref (z + 1), .int 0, .int 0]) := by rw [zqeG]; exact kb_us
  clear zqeG zqhk
  exact kb_vret hx hb hr hlocks hK zqhP zqhS dX7_init_20 ⟨⟨zqoh, zqo1, zqo3⟩, zqhF⟩
