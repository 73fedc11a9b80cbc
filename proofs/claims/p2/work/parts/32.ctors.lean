set_option maxHeartbeats 8000000 in
set_option maxRecDepth 100000 in
theorem c_X0_init (l : Launch) (D : va_G) (cy : Nat → ClassId) (b : Nat) (G : Nat → va_E) (z h0 : Nat) (hb0 : b ≤ h0) (hz0 : h0 < z) (oh : G h0 = .inr (0, [.int 0, .int 0, .int 0, .int 0, .int 0, .int 0])) : Met l yX0_init wsX0_init ({ frames := 1, cells := 0, slots := 0, locals := 12 }) (va_Pc [.ref h0] (kb_B D cy b G z)) (va_Qv (fun G1 => (G1 h0 = .inr (0, [.int 0, .int 0, .int 0, .int 0, .int 0, .int 0])) ∧ ∀ q : Nat, q ≠ h0 → q < z → G1 q = G q) (fun G1 => kb_B D cy b G1 (z)) (fun q : Nat => b ≤ q)) 0 0 (fun q : Nat => b ≤ q) := by
  refine kb_met (cc := cX0_init) (maxL := 1) (by decide) rfl (Nat.le_of_ble_eq_true rfl) ?_
  intro p e s m args below meth c ls hx hb hr hts hown hlocks hml hin hK hP hS hl
  have hl : lv_has ls 1 [(0, .ref h0)] := hl
  have hown : s.vm.findClass RX0 = some m.cls := hown
  have hin : meth.name = "<init>" := hin
  have hF : ∀ q : Nat, q ≠ h0 → q < z → G q = G q := fun _ _ _ => rfl
  generalize hlocs0 : ([] : List Loc) = locs at hS ⊢
  refine lv_aload_n hx hb dX0_init_0 rfl (lv_at hl 0 rfl) ?_
  refine W.objInit hx hb hown (hts (.methodLink RX0 3 objectInit) (by decide +kernel)) (hts (.instanceMethod objectInit) (by decide +kernel)) (hts (.code objectInit ⟨#[0xb1]⟩ 1 none) (by decide +kernel)) rfl (by rw [hml]; exact hl.1) rfl dX0_init_1 (Nat.le_of_ble_eq_true rfl) (Nat.le_of_ble_eq_true rfl) ?_
  refine W.eq (g2 := F0 m 4 ls []) rfl ?_
  exact kb_vret hx hb hr hlocks hK hP hS dX0_init_4 ⟨oh, hF⟩

set_option maxHeartbeats 8000000 in
set_option maxRecDepth 100000 in
theorem c_X1_init (l : Launch) (D : va_G) (cy : Nat → ClassId) (b : Nat) (G : Nat → va_E) (z h0 : Nat) (hb0 : b ≤ h0) (hz0 : h0 < z) (oh : G h0 = .inr (1, [.int 0, .int 0])) : Met l yX1_init wsX1_init ({ frames := 1, cells := 0, slots := 0, locals := 12 }) (va_Pc [.ref h0] (kb_B D cy b G z)) (va_Qv (fun G1 => (G1 h0 = .inr (1, [.int 0, .int 0])) ∧ ∀ q : Nat, q ≠ h0 → q < z → G1 q = G q) (fun G1 => kb_B D cy b G1 (z)) (fun q : Nat => b ≤ q)) 0 0 (fun q : Nat => b ≤ q) := by
  refine kb_met (cc := cX1_init) (maxL := 1) (by decide) rfl (Nat.le_of_ble_eq_true rfl) ?_
  intro p e s m args below meth c ls hx hb hr hts hown hlocks hml hin hK hP hS hl
  have hl : lv_has ls 1 [(0, .ref h0)] := hl
  have hown : s.vm.findClass RX1 = some m.cls := hown
  have hin : meth.name = "<init>" := hin
  have hF : ∀ q : Nat, q ≠ h0 → q < z → G q = G q := fun _ _ _ => rfl
  generalize hlocs0 : ([] : List Loc) = locs at hS ⊢
  refine lv_aload_n hx hb dX1_init_0 rfl (lv_at hl 0 rfl) ?_
  refine W.objInit hx hb hown (hts (.methodLink RX1 1 objectInit) (by decide +kernel)) (hts (.instanceMethod objectInit) (by decide +kernel)) (hts (.code objectInit ⟨#[0xb1]⟩ 1 none) (by decide +kernel)) rfl (by rw [hml]; exact hl.1) rfl dX1_init_1 (Nat.le_of_ble_eq_true rfl) (Nat.le_of_ble_eq_true rfl) ?_
  refine W.eq (g2 := F0 m 4 ls []) rfl ?_
  exact kb_vret hx hb hr hlocks hK hP hS dX1_init_4 ⟨oh, hF⟩

set_option maxHeartbeats 8000000 in
set_option maxRecDepth 100000 in
theorem c_X3_init (l : Launch) (D : va_G) (cy : Nat → ClassId) (b : Nat) (G : Nat → va_E) (z h0 : Nat) (hb0 : b ≤ h0) (hz0 : h0 < z) (oh : G h0 = .inr (3, [.int 0, .int 0, .null])) : Met l yX3_init wsX3_init ({ frames := 1, cells := 1, slots := 24, locals := 12 }) (va_Pc [.ref h0] (kb_B D cy b G z)) (va_Qv (fun G1 => (G1 h0 = .inr (3, [.int 0, .int 0, .ref z]) ∧ G1 z = .inl (cy 0, 24, .inl (fun _ => 0))) ∧ ∀ q : Nat, q ≠ h0 → q < z → G1 q = G q) (fun G1 => kb_B D cy b G1 (z + 1)) (fun q : Nat => b ≤ q)) 1 24 (fun q : Nat => b ≤ q) := by
  refine kb_met (cc := cX3_init) (maxL := 1) (by decide) rfl (Nat.le_of_ble_eq_true rfl) ?_
  intro p e s m args below meth c ls hx hb hr hts hown hlocks hml hin hK hP hS hl
  have hl : lv_has ls 1 [(0, .ref h0)] := hl
  have hown : s.vm.findClass RX3 = some m.cls := hown
  have hin : meth.name = "<init>" := hin
  have hF : ∀ q : Nat, q ≠ h0 → q < z → G q = G q := fun _ _ _ => rfl
  generalize hlocs0 : ([] : List Loc) = locs at hS ⊢
  have hi3 : ∀ w ∈ wsX30, w ∈ wsX3_init := by decide +kernel
  refine lv_aload_n hx hb dX3_init_0 rfl (lv_at hl 0 rfl) ?_
  refine W.objInit hx hb hown (hts (.methodLink RX3 3 objectInit) (by decide +kernel)) (hts (.instanceMethod objectInit) (by decide +kernel)) (hts (.code objectInit ⟨#[0xb1]⟩ 1 none) (by decide +kernel)) rfl (by rw [hml]; exact hl.1) rfl dX3_init_1 (Nat.le_of_ble_eq_true rfl) (Nat.le_of_ble_eq_true rfl) ?_
  refine W.eq (g2 := F0 m 4 ls []) rfl ?_
  refine lv_aload_n hx hb dX3_init_4 rfl (lv_at hl 0 rfl) ?_
  refine lv_bipush (v := 24) hx hb dX3_init_5 (by decide) ?_
  refine kb_newa hx hb (hts (.arrayClass .int) (by decide +kernel)) 0 (ty := .int) rfl rfl (fun _ _ h => h) hK hP hS (n := 24) (N' := 24) rfl (by decide) (by decide) (Nat.le_of_ble_eq_true rfl) (Nat.le_of_ble_eq_true rfl) (Nat.le_of_ble_eq_true rfl) dX3_init_7 (fun H hP hS => ?_)
  obtain ⟨G1, eG1⟩ : ∃ q, q = kb_u G z (.inl (cy 0, 24, .inl (fun _ => 0))) := ⟨_, rfl⟩
  rw [← eG1] at hP
  have hF : ∀ q : Nat, q ≠ h0 → q < z → G1 q = G q := fun q h1 h2 => by rw [eG1, kb_un (by omega)]; exact hF q h1 h2
  have oh : G1 h0 = .inr (3, [.int 0, .int 0, .null]) := by rw [eG1, kb_un (by omega)]; exact oh
  have o1 : G1 z = .inl (cy 0, 24, .inl (fun _ => 0)) := by rw [eG1]; exact kb_us
  have hP : kb_P D b G1 (z + 1) H := hP
  refine kb_putF (v := .ref z) (ty := .array .int) hx hb hts hi3 tyX3 tyX3_ok nmX3 hown hK hP hS (by omega) (by omega) oh rfl 2 (by decide) (hts (.fieldLink RX3 9 "NoonLaw$Sheet" "numbers" "[I") (by decide +kernel)) rfl rfl hin rfl (by decide +kernel) rfl rfl (Nat.le_of_ble_eq_true rfl) dX3_init_9 (fun H locs hP hS => ?_)
  have hP : kb_P D b (kb_u G1 h0 (.inr (3, [.int 0, .int 0, .ref z]))) (z + 1) H := hP
  obtain ⟨G2, eG2⟩ : ∃ q, q = kb_u G1 h0 (.inr (3, [.int 0, .int 0, .ref z])) := ⟨_, rfl⟩
  rw [← eG2] at hP
  have hF : ∀ q : Nat, q ≠ h0 → q < z → G2 q = G q := fun q h1 h2 => by rw [eG2, kb_un h1]; exact hF q h1 h2
  have o1 : G2 z = .inl (cy 0, 24, .inl (fun _ => 0)) := by rw [eG2, kb_un (by omega)]; exact o1
  have oh : G2 h0 = .inr (3, [.int 0, .int 0, .ref z]) := by rw [eG2]; exact kb_us
  exact kb_vret hx hb hr hlocks hK hP hS dX3_init_12 ⟨⟨oh, o1⟩, hF⟩

set_option maxHeartbeats 8000000 in
set_option maxRecDepth 100000 in
theorem c_X4_init (l : Launch) (D : va_G) (cy : Nat → ClassId) (b : Nat) (G : Nat → va_E) (z h0 : Nat) (hb0 : b ≤ h0) (hz0 : h0 < z) (oh : G h0 = .inr (4, [.int 0, .int 0, .int 0, .int 0, .int 0, .null, .null, .null])) : Met l yX4_init wsX4_init ({ frames := 1, cells := 3, slots := 29, locals := 12 }) (va_Pc [.ref h0] (kb_B D cy b G z)) (va_Qv (fun G1 => (G1 h0 = .inr (4, [.int 0, .int 0, .int 0, .int 0, .int 0, .ref z, .ref (z + 1), .ref (z + 2)]) ∧ G1 z = .inl (cy 0, 9, .inl (fun _ => 0)) ∧ G1 (z + 1) = .inl (cy 0, 10, .inl (fun _ => 0)) ∧ G1 (z + 2) = .inl (cy 0, 10, .inl (fun _ => 0))) ∧ ∀ q : Nat, q ≠ h0 → q < z → G1 q = G q) (fun G1 => kb_B D cy b G1 (z + 3)) (fun q : Nat => b ≤ q)) 3 29 (fun q : Nat => b ≤ q) := by
  refine kb_met (cc := cX4_init) (maxL := 1) (by decide) rfl (Nat.le_of_ble_eq_true rfl) ?_
  intro p e s m args below meth c ls hx hb hr hts hown hlocks hml hin hK hP hS hl
  have hl : lv_has ls 1 [(0, .ref h0)] := hl
  have hown : s.vm.findClass RX4 = some m.cls := hown
  have hin : meth.name = "<init>" := hin
  have hF : ∀ q : Nat, q ≠ h0 → q < z → G q = G q := fun _ _ _ => rfl
  generalize hlocs0 : ([] : List Loc) = locs at hS ⊢
  have hi4 : ∀ w ∈ wsX40, w ∈ wsX4_init := by decide +kernel
  refine lv_aload_n hx hb dX4_init_0 rfl (lv_at hl 0 rfl) ?_
  refine W.objInit hx hb hown (hts (.methodLink RX4 3 objectInit) (by decide +kernel)) (hts (.instanceMethod objectInit) (by decide +kernel)) (hts (.code objectInit ⟨#[0xb1]⟩ 1 none) (by decide +kernel)) rfl (by rw [hml]; exact hl.1) rfl dX4_init_1 (Nat.le_of_ble_eq_true rfl) (Nat.le_of_ble_eq_true rfl) ?_
  refine W.eq (g2 := F0 m 4 ls []) rfl ?_
  refine lv_aload_n hx hb dX4_init_4 rfl (lv_at hl 0 rfl) ?_
  refine lv_bipush (v := 9) hx hb dX4_init_5 (by decide) ?_
  refine kb_newa hx hb (hts (.arrayClass .int) (by decide +kernel)) 0 (ty := .int) rfl rfl (fun _ _ h => h) hK hP hS (n := 9) (N' := 9) rfl (by decide) (by decide) (Nat.le_of_ble_eq_true rfl) (Nat.le_of_ble_eq_true rfl) (Nat.le_of_ble_eq_true rfl) dX4_init_7 (fun H hP hS => ?_)
  obtain ⟨G1, eG1⟩ : ∃ q, q = kb_u G z (.inl (cy 0, 9, .inl (fun _ => 0))) := ⟨_, rfl⟩
  rw [← eG1] at hP
  have hF : ∀ q : Nat, q ≠ h0 → q < z → G1 q = G q := fun q h1 h2 => by rw [eG1, kb_un (by omega)]; exact hF q h1 h2
  have oh : G1 h0 = .inr (4, [.int 0, .int 0, .int 0, .int 0, .int 0, .null, .null, .null]) := by rw [eG1, kb_un (by omega)]; exact oh
  have o1 : G1 z = .inl (cy 0, 9, .inl (fun _ => 0)) := by rw [eG1]; exact kb_us
  have hP : kb_P D b G1 (z + 1) H := hP
  refine kb_putF (v := .ref z) (ty := .array .int) hx hb hts hi4 tyX4 tyX4_ok nmX4 hown hK hP hS (by omega) (by omega) oh rfl 5 (by decide) (hts (.fieldLink RX4 9 "NoonLaw$Sight" "weights" "[I") (by decide +kernel)) rfl rfl hin rfl (by decide +kernel) rfl rfl (Nat.le_of_ble_eq_true rfl) dX4_init_9 (fun H locs hP hS => ?_)
  have hP : kb_P D b (kb_u G1 h0 (.inr (4, [.int 0, .int 0, .int 0, .int 0, .int 0, .ref z, .null, .null]))) (z + 1) H := hP
  obtain ⟨G2, eG2⟩ : ∃ q, q = kb_u G1 h0 (.inr (4, [.int 0, .int 0, .int 0, .int 0, .int 0, .ref z, .null, .null])) := ⟨_, rfl⟩
  rw [← eG2] at hP
  have hF : ∀ q : Nat, q ≠ h0 → q < z → G2 q = G q := fun q h1 h2 => by rw [eG2, kb_un h1]; exact hF q h1 h2
  have o1 : G2 z = .inl (cy 0, 9, .inl (fun _ => 0)) := by rw [eG2, kb_un (by omega)]; exact o1
  have oh : G2 h0 = .inr (4, [.int 0, .int 0, .int 0, .int 0, .int 0, .ref z, .null, .null]) := by rw [eG2]; exact kb_us
  refine lv_aload_n hx hb dX4_init_12 rfl (lv_at hl 0 rfl) ?_
  refine lv_bipush (v := 10) hx hb dX4_init_13 (by decide) ?_
  refine kb_newa hx hb (hts (.arrayClass .int) (by decide +kernel)) 0 (ty := .int) rfl rfl (fun _ _ h => h) hK hP hS (n := 10) (N' := 10) rfl (by decide) (by decide) (Nat.le_of_ble_eq_true rfl) (Nat.le_of_ble_eq_true rfl) (Nat.le_of_ble_eq_true rfl) dX4_init_15 (fun H hP hS => ?_)
  obtain ⟨G3, eG3⟩ : ∃ q, q = kb_u G2 (z + 1) (.inl (cy 0, 10, .inl (fun _ => 0))) := ⟨_, rfl⟩
  rw [← eG3] at hP
  have hF : ∀ q : Nat, q ≠ h0 → q < z → G3 q = G q := fun q h1 h2 => by rw [eG3, kb_un (by omega)]; exact hF q h1 h2
  have o1 : G3 z = .inl (cy 0, 9, .inl (fun _ => 0)) := by rw [eG3, kb_un (by omega)]; exact o1
  have oh : G3 h0 = .inr (4, [.int 0, .int 0, .int 0, .int 0, .int 0, .ref z, .null, .null]) := by rw [eG3, kb_un (by omega)]; exact oh
  have o3 : G3 (z + 1) = .inl (cy 0, 10, .inl (fun _ => 0)) := by rw [eG3]; exact kb_us
  have hP : kb_P D b G3 (z + 2) H := hP
  refine kb_putF (v := .ref (z + 1)) (ty := .array .int) hx hb hts hi4 tyX4 tyX4_ok nmX4 hown hK hP hS (by omega) (by omega) oh rfl 6 (by decide) (hts (.fieldLink RX4 15 "NoonLaw$Sight" "bid" "[I") (by decide +kernel)) rfl rfl hin rfl (by decide +kernel) rfl rfl (Nat.le_of_ble_eq_true rfl) dX4_init_17 (fun H locs hP hS => ?_)
  have hP : kb_P D b (kb_u G3 h0 (.inr (4, [.int 0, .int 0, .int 0, .int 0, .int 0, .ref z, .ref (z + 1), .null]))) (z + 2) H := hP
  obtain ⟨G4, eG4⟩ : ∃ q, q = kb_u G3 h0 (.inr (4, [.int 0, .int 0, .int 0, .int 0, .int 0, .ref z, .ref (z + 1), .null])) := ⟨_, rfl⟩
  rw [← eG4] at hP
  have hF : ∀ q : Nat, q ≠ h0 → q < z → G4 q = G q := fun q h1 h2 => by rw [eG4, kb_un h1]; exact hF q h1 h2
  have o1 : G4 z = .inl (cy 0, 9, .inl (fun _ => 0)) := by rw [eG4, kb_un (by omega)]; exact o1
  have o3 : G4 (z + 1) = .inl (cy 0, 10, .inl (fun _ => 0)) := by rw [eG4, kb_un (by omega)]; exact o3
  have oh : G4 h0 = .inr (4, [.int 0, .int 0, .int 0, .int 0, .int 0, .ref z, .ref (z + 1), .null]) := by rw [eG4]; exact kb_us
  refine lv_aload_n hx hb dX4_init_20 rfl (lv_at hl 0 rfl) ?_
  refine lv_bipush (v := 10) hx hb dX4_init_21 (by decide) ?_
  refine kb_newa hx hb (hts (.arrayClass .int) (by decide +kernel)) 0 (ty := .int) rfl rfl (fun _ _ h => h) hK hP hS (n := 10) (N' := 10) rfl (by decide) (by decide) (Nat.le_of_ble_eq_true rfl) (Nat.le_of_ble_eq_true rfl) (Nat.le_of_ble_eq_true rfl) dX4_init_23 (fun H hP hS => ?_)
  obtain ⟨G5, eG5⟩ : ∃ q, q = kb_u G4 (z + 2) (.inl (cy 0, 10, .inl (fun _ => 0))) := ⟨_, rfl⟩
  rw [← eG5] at hP
  have hF : ∀ q : Nat, q ≠ h0 → q < z → G5 q = G q := fun q h1 h2 => by rw [eG5, kb_un (by omega)]; exact hF q h1 h2
  have o1 : G5 z = .inl (cy 0, 9, .inl (fun _ => 0)) := by rw [eG5, kb_un (by omega)]; exact o1
  have o3 : G5 (z + 1) = .inl (cy 0, 10, .inl (fun _ => 0)) := by rw [eG5, kb_un (by omega)]; exact o3
  have oh : G5 h0 = .inr (4, [.int 0, .int 0, .int 0, .int 0, .int 0, .ref z, .ref (z + 1), .null]) := by rw [eG5, kb_un (by omega)]; exact oh
  have o5 : G5 (z + 2) = .inl (cy 0, 10, .inl (fun _ => 0)) := by rw [eG5]; exact kb_us
  have hP : kb_P D b G5 (z + 3) H := hP
  refine kb_putF (v := .ref (z + 2)) (ty := .array .int) hx hb hts hi4 tyX4 tyX4_ok nmX4 hown hK hP hS (by omega) (by omega) oh rfl 7 (by decide) (hts (.fieldLink RX4 18 "NoonLaw$Sight" "ban" "[I") (by decide +kernel)) rfl rfl hin rfl (by decide +kernel) rfl rfl (Nat.le_of_ble_eq_true rfl) dX4_init_25 (fun H locs hP hS => ?_)
  have hP : kb_P D b (kb_u G5 h0 (.inr (4, [.int 0, .int 0, .int 0, .int 0, .int 0, .ref z, .ref (z + 1), .ref (z + 2)]))) (z + 3) H := hP
  obtain ⟨G6, eG6⟩ : ∃ q, q = kb_u G5 h0 (.inr (4, [.int 0, .int 0, .int 0, .int 0, .int 0, .ref z, .ref (z + 1), .ref (z + 2)])) := ⟨_, rfl⟩
  rw [← eG6] at hP
  have hF : ∀ q : Nat, q ≠ h0 → q < z → G6 q = G q := fun q h1 h2 => by rw [eG6, kb_un h1]; exact hF q h1 h2
  have o1 : G6 z = .inl (cy 0, 9, .inl (fun _ => 0)) := by rw [eG6, kb_un (by omega)]; exact o1
  have o3 : G6 (z + 1) = .inl (cy 0, 10, .inl (fun _ => 0)) := by rw [eG6, kb_un (by omega)]; exact o3
  have o5 : G6 (z + 2) = .inl (cy 0, 10, .inl (fun _ => 0)) := by rw [eG6, kb_un (by omega)]; exact o5
  have oh : G6 h0 = .inr (4, [.int 0, .int 0, .int 0, .int 0, .int 0, .ref z, .ref (z + 1), .ref (z + 2)]) := by rw [eG6]; exact kb_us
  exact kb_vret hx hb hr hlocks hK hP hS dX4_init_28 ⟨⟨oh, o1, o3, o5⟩, hF⟩

set_option maxHeartbeats 8000000 in
set_option maxRecDepth 100000 in
theorem c_X5_init (l : Launch) (D : va_G) (cy : Nat → ClassId) (b : Nat) (G : Nat → va_E) (z h0 : Nat) (hb0 : b ≤ h0) (hz0 : h0 < z) (oh : G h0 = .inr (5, [.null, .int 0, .int 0, .int 0, .int 0, .int 0])) : Met l yX5_init wsX5_init ({ frames := 1, cells := 1, slots := 30, locals := 12 }) (va_Pc [.ref h0] (kb_B D cy b G z)) (va_Qv (fun G1 => (G1 h0 = .inr (5, [.ref z, .int 0, .int 0, .int 0, .int 0, .int 0]) ∧ G1 z = .inl (cy 0, 30, .inl (fun _ => 0))) ∧ ∀ q : Nat, q ≠ h0 → q < z → G1 q = G q) (fun G1 => kb_B D cy b G1 (z + 1)) (fun q : Nat => b ≤ q)) 1 30 (fun q : Nat => b ≤ q) := by
  refine kb_met (cc := cX5_init) (maxL := 1) (by decide) rfl (Nat.le_of_ble_eq_true rfl) ?_
  intro p e s m args below meth c ls hx hb hr hts hown hlocks hml hin hK hP hS hl
  have hl : lv_has ls 1 [(0, .ref h0)] := hl
  have hown : s.vm.findClass RX5 = some m.cls := hown
  have hin : meth.name = "<init>" := hin
  have hF : ∀ q : Nat, q ≠ h0 → q < z → G q = G q := fun _ _ _ => rfl
  generalize hlocs0 : ([] : List Loc) = locs at hS ⊢
  have hi5 : ∀ w ∈ wsX50, w ∈ wsX5_init := by decide +kernel
  refine lv_aload_n hx hb dX5_init_0 rfl (lv_at hl 0 rfl) ?_
  refine W.objInit hx hb hown (hts (.methodLink RX5 3 objectInit) (by decide +kernel)) (hts (.instanceMethod objectInit) (by decide +kernel)) (hts (.code objectInit ⟨#[0xb1]⟩ 1 none) (by decide +kernel)) rfl (by rw [hml]; exact hl.1) rfl dX5_init_1 (Nat.le_of_ble_eq_true rfl) (Nat.le_of_ble_eq_true rfl) ?_
  refine W.eq (g2 := F0 m 4 ls []) rfl ?_
  refine lv_aload_n hx hb dX5_init_4 rfl (lv_at hl 0 rfl) ?_
  refine lv_bipush (v := 30) hx hb dX5_init_5 (by decide) ?_
  refine kb_newa hx hb (hts (.arrayClass .int) (by decide +kernel)) 0 (ty := .int) rfl rfl (fun _ _ h => h) hK hP hS (n := 30) (N' := 30) rfl (by decide) (by decide) (Nat.le_of_ble_eq_true rfl) (Nat.le_of_ble_eq_true rfl) (Nat.le_of_ble_eq_true rfl) dX5_init_7 (fun H hP hS => ?_)
  obtain ⟨G1, eG1⟩ : ∃ q, q = kb_u G z (.inl (cy 0, 30, .inl (fun _ => 0))) := ⟨_, rfl⟩
  rw [← eG1] at hP
  have hF : ∀ q : Nat, q ≠ h0 → q < z → G1 q = G q := fun q h1 h2 => by rw [eG1, kb_un (by omega)]; exact hF q h1 h2
  have oh : G1 h0 = .inr (5, [.null, .int 0, .int 0, .int 0, .int 0, .int 0]) := by rw [eG1, kb_un (by omega)]; exact oh
  have o1 : G1 z = .inl (cy 0, 30, .inl (fun _ => 0)) := by rw [eG1]; exact kb_us
  have hP : kb_P D b G1 (z + 1) H := hP
  refine kb_putF (v := .ref z) (ty := .array .int) hx hb hts hi5 tyX5 tyX5_ok nmX5 hown hK hP hS (by omega) (by omega) oh rfl 0 (by decide) (hts (.fieldLink RX5 9 "NoonLaw$Speaker" "trace" "[I") (by decide +kernel)) rfl rfl hin rfl (by decide +kernel) rfl rfl (Nat.le_of_ble_eq_true rfl) dX5_init_9 (fun H locs hP hS => ?_)
  have hP : kb_P D b (kb_u G1 h0 (.inr (5, [.ref z, .int 0, .int 0, .int 0, .int 0, .int 0]))) (z + 1) H := hP
  obtain ⟨G2, eG2⟩ : ∃ q, q = kb_u G1 h0 (.inr (5, [.ref z, .int 0, .int 0, .int 0, .int 0, .int 0])) := ⟨_, rfl⟩
  rw [← eG2] at hP
  have hF : ∀ q : Nat, q ≠ h0 → q < z → G2 q = G q := fun q h1 h2 => by rw [eG2, kb_un h1]; exact hF q h1 h2
  have o1 : G2 z = .inl (cy 0, 30, .inl (fun _ => 0)) := by rw [eG2, kb_un (by omega)]; exact o1
  have oh : G2 h0 = .inr (5, [.ref z, .int 0, .int 0, .int 0, .int 0, .int 0]) := by rw [eG2]; exact kb_us
  exact kb_vret hx hb hr hlocks hK hP hS dX5_init_12 ⟨⟨oh, o1⟩, hF⟩

set_option maxHeartbeats 8000000 in
set_option maxRecDepth 100000 in
theorem c_X6_init (l : Launch) (D : va_G) (cy : Nat → ClassId) (b : Nat) (G : Nat → va_E) (z h0 : Nat) (hb0 : b ≤ h0) (hz0 : h0 < z) (oh : G h0 = .inr (6, [.int 0, .int 0, .null, .null])) : Met l yX6_init wsX6_init ({ frames := 1, cells := 2, slots := 120, locals := 12 }) (va_Pc [.ref h0] (kb_B D cy b G z)) (va_Qv (fun G1 => (G1 h0 = .inr (6, [.int 0, .int 0, .ref z, .ref (z + 1)]) ∧ G1 z = .inl (cy 0, 60, .inl (fun _ => 0)) ∧ G1 (z + 1) = .inl (cy 0, 60, .inl (fun _ => 0))) ∧ ∀ q : Nat, q ≠ h0 → q < z → G1 q = G q) (fun G1 => kb_B D cy b G1 (z + 2)) (fun q : Nat => b ≤ q)) 2 120 (fun q : Nat => b ≤ q) := by
  refine kb_met (cc := cX6_init) (maxL := 1) (by decide) rfl (Nat.le_of_ble_eq_true rfl) ?_
  intro p e s m args below meth c ls hx hb hr hts hown hlocks hml hin hK hP hS hl
  have hl : lv_has ls 1 [(0, .ref h0)] := hl
  have hown : s.vm.findClass RX6 = some m.cls := hown
  have hin : meth.name = "<init>" := hin
  have hF : ∀ q : Nat, q ≠ h0 → q < z → G q = G q := fun _ _ _ => rfl
  generalize hlocs0 : ([] : List Loc) = locs at hS ⊢
  have hi6 : ∀ w ∈ wsX60, w ∈ wsX6_init := by decide +kernel
  refine lv_aload_n hx hb dX6_init_0 rfl (lv_at hl 0 rfl) ?_
  refine W.objInit hx hb hown (hts (.methodLink RX6 3 objectInit) (by decide +kernel)) (hts (.instanceMethod objectInit) (by decide +kernel)) (hts (.code objectInit ⟨#[0xb1]⟩ 1 none) (by decide +kernel)) rfl (by rw [hml]; exact hl.1) rfl dX6_init_1 (Nat.le_of_ble_eq_true rfl) (Nat.le_of_ble_eq_true rfl) ?_
  refine W.eq (g2 := F0 m 4 ls []) rfl ?_
  refine lv_aload_n hx hb dX6_init_4 rfl (lv_at hl 0 rfl) ?_
  refine lv_bipush (v := 60) hx hb dX6_init_5 (by decide) ?_
  refine kb_newa hx hb (hts (.arrayClass .int) (by decide +kernel)) 0 (ty := .int) rfl rfl (fun _ _ h => h) hK hP hS (n := 60) (N' := 60) rfl (by decide) (by decide) (Nat.le_of_ble_eq_true rfl) (Nat.le_of_ble_eq_true rfl) (Nat.le_of_ble_eq_true rfl) dX6_init_7 (fun H hP hS => ?_)
  obtain ⟨G1, eG1⟩ : ∃ q, q = kb_u G z (.inl (cy 0, 60, .inl (fun _ => 0))) := ⟨_, rfl⟩
  rw [← eG1] at hP
  have hF : ∀ q : Nat, q ≠ h0 → q < z → G1 q = G q := fun q h1 h2 => by rw [eG1, kb_un (by omega)]; exact hF q h1 h2
  have oh : G1 h0 = .inr (6, [.int 0, .int 0, .null, .null]) := by rw [eG1, kb_un (by omega)]; exact oh
  have o1 : G1 z = .inl (cy 0, 60, .inl (fun _ => 0)) := by rw [eG1]; exact kb_us
  have hP : kb_P D b G1 (z + 1) H := hP
  refine kb_putF (v := .ref z) (ty := .array .int) hx hb hts hi6 tyX6 tyX6_ok nmX6 hown hK hP hS (by omega) (by omega) oh rfl 2 (by decide) (hts (.fieldLink RX6 9 "NoonLaw$Text" "codes" "[I") (by decide +kernel)) rfl rfl hin rfl (by decide +kernel) rfl rfl (Nat.le_of_ble_eq_true rfl) dX6_init_9 (fun H locs hP hS => ?_)
  have hP : kb_P D b (kb_u G1 h0 (.inr (6, [.int 0, .int 0, .ref z, .null]))) (z + 1) H := hP
  obtain ⟨G2, eG2⟩ : ∃ q, q = kb_u G1 h0 (.inr (6, [.int 0, .int 0, .ref z, .null])) := ⟨_, rfl⟩
  rw [← eG2] at hP
  have hF : ∀ q : Nat, q ≠ h0 → q < z → G2 q = G q := fun q h1 h2 => by rw [eG2, kb_un h1]; exact hF q h1 h2
  have o1 : G2 z = .inl (cy 0, 60, .inl (fun _ => 0)) := by rw [eG2, kb_un (by omega)]; exact o1
  have oh : G2 h0 = .inr (6, [.int 0, .int 0, .ref z, .null]) := by rw [eG2]; exact kb_us
  refine lv_aload_n hx hb dX6_init_12 rfl (lv_at hl 0 rfl) ?_
  refine lv_bipush (v := 60) hx hb dX6_init_13 (by decide) ?_
  refine kb_newa hx hb (hts (.arrayClass .int) (by decide +kernel)) 0 (ty := .int) rfl rfl (fun _ _ h => h) hK hP hS (n := 60) (N' := 60) rfl (by decide) (by decide) (Nat.le_of_ble_eq_true rfl) (Nat.le_of_ble_eq_true rfl) (Nat.le_of_ble_eq_true rfl) dX6_init_15 (fun H hP hS => ?_)
  obtain ⟨G3, eG3⟩ : ∃ q, q = kb_u G2 (z + 1) (.inl (cy 0, 60, .inl (fun _ => 0))) := ⟨_, rfl⟩
  rw [← eG3] at hP
  have hF : ∀ q : Nat, q ≠ h0 → q < z → G3 q = G q := fun q h1 h2 => by rw [eG3, kb_un (by omega)]; exact hF q h1 h2
  have o1 : G3 z = .inl (cy 0, 60, .inl (fun _ => 0)) := by rw [eG3, kb_un (by omega)]; exact o1
  have oh : G3 h0 = .inr (6, [.int 0, .int 0, .ref z, .null]) := by rw [eG3, kb_un (by omega)]; exact oh
  have o3 : G3 (z + 1) = .inl (cy 0, 60, .inl (fun _ => 0)) := by rw [eG3]; exact kb_us
  have hP : kb_P D b G3 (z + 2) H := hP
  refine kb_putF (v := .ref (z + 1)) (ty := .array .int) hx hb hts hi6 tyX6 tyX6_ok nmX6 hown hK hP hS (by omega) (by omega) oh rfl 3 (by decide) (hts (.fieldLink RX6 15 "NoonLaw$Text" "stack" "[I") (by decide +kernel)) rfl rfl hin rfl (by decide +kernel) rfl rfl (Nat.le_of_ble_eq_true rfl) dX6_init_17 (fun H locs hP hS => ?_)
  have hP : kb_P D b (kb_u G3 h0 (.inr (6, [.int 0, .int 0, .ref z, .ref (z + 1)]))) (z + 2) H := hP
  obtain ⟨G4, eG4⟩ : ∃ q, q = kb_u G3 h0 (.inr (6, [.int 0, .int 0, .ref z, .ref (z + 1)])) := ⟨_, rfl⟩
  rw [← eG4] at hP
  have hF : ∀ q : Nat, q ≠ h0 → q < z → G4 q = G q := fun q h1 h2 => by rw [eG4, kb_un h1]; exact hF q h1 h2
  have o1 : G4 z = .inl (cy 0, 60, .inl (fun _ => 0)) := by rw [eG4, kb_un (by omega)]; exact o1
  have o3 : G4 (z + 1) = .inl (cy 0, 60, .inl (fun _ => 0)) := by rw [eG4, kb_un (by omega)]; exact o3
  have oh : G4 h0 = .inr (6, [.int 0, .int 0, .ref z, .ref (z + 1)]) := by rw [eG4]; exact kb_us
  exact kb_vret hx hb hr hlocks hK hP hS dX6_init_20 ⟨⟨oh, o1, o3⟩, hF⟩

set_option maxHeartbeats 8000000 in
set_option maxRecDepth 100000 in
theorem c_X7_init (l : Launch) (D : va_G) (cy : Nat → ClassId) (b : Nat) (G : Nat → va_E) (z h0 : Nat) (hb0 : b ≤ h0) (hz0 : h0 < z) (oh : G h0 = .inr (7, [.int 0, .int 0, .null, .null, .int 0, .int 0])) : Met l yX7_init wsX7_init ({ frames := 1, cells := 2, slots := 120, locals := 12 }) (va_Pc [.ref h0] (kb_B D cy b G z)) (va_Qv (fun G1 => (G1 h0 = .inr (7, [.int 0, .int 0, .ref z, .ref (z + 1), .int 0, .int 0]) ∧ G1 z = .inl (cy 0, 60, .inl (fun _ => 0)) ∧ G1 (z + 1) = .inl (cy 1, 60, .inl (fun _ => 0))) ∧ ∀ q : Nat, q ≠ h0 → q < z → G1 q = G q) (fun G1 => kb_B D cy b G1 (z + 2)) (fun q : Nat => b ≤ q)) 2 120 (fun q : Nat => b ≤ q) := by
  refine kb_met (cc := cX7_init) (maxL := 1) (by decide) rfl (Nat.le_of_ble_eq_true rfl) ?_
  intro p e s m args below meth c ls hx hb hr hts hown hlocks hml hin hK hP hS hl
  have hl : lv_has ls 1 [(0, .ref h0)] := hl
  have hown : s.vm.findClass RX7 = some m.cls := hown
  have hin : meth.name = "<init>" := hin
  have hF : ∀ q : Nat, q ≠ h0 → q < z → G q = G q := fun _ _ _ => rfl
  generalize hlocs0 : ([] : List Loc) = locs at hS ⊢
  have hi7 : ∀ w ∈ wsX70, w ∈ wsX7_init := by decide +kernel
  refine lv_aload_n hx hb dX7_init_0 rfl (lv_at hl 0 rfl) ?_
  refine W.objInit hx hb hown (hts (.methodLink RX7 3 objectInit) (by decide +kernel)) (hts (.instanceMethod objectInit) (by decide +kernel)) (hts (.code objectInit ⟨#[0xb1]⟩ 1 none) (by decide +kernel)) rfl (by rw [hml]; exact hl.1) rfl dX7_init_1 (Nat.le_of_ble_eq_true rfl) (Nat.le_of_ble_eq_true rfl) ?_
  refine W.eq (g2 := F0 m 4 ls []) rfl ?_
  refine lv_aload_n hx hb dX7_init_4 rfl (lv_at hl 0 rfl) ?_
  refine lv_bipush (v := 60) hx hb dX7_init_5 (by decide) ?_
  refine kb_newa hx hb (hts (.arrayClass .int) (by decide +kernel)) 0 (ty := .int) rfl rfl (fun _ _ h => h) hK hP hS (n := 60) (N' := 60) rfl (by decide) (by decide) (Nat.le_of_ble_eq_true rfl) (Nat.le_of_ble_eq_true rfl) (Nat.le_of_ble_eq_true rfl) dX7_init_7 (fun H hP hS => ?_)
  obtain ⟨G1, eG1⟩ : ∃ q, q = kb_u G z (.inl (cy 0, 60, .inl (fun _ => 0))) := ⟨_, rfl⟩
  rw [← eG1] at hP
  have hF : ∀ q : Nat, q ≠ h0 → q < z → G1 q = G q := fun q h1 h2 => by rw [eG1, kb_un (by omega)]; exact hF q h1 h2
  have oh : G1 h0 = .inr (7, [.int 0, .int 0, .null, .null, .int 0, .int 0]) := by rw [eG1, kb_un (by omega)]; exact oh
  have o1 : G1 z = .inl (cy 0, 60, .inl (fun _ => 0)) := by rw [eG1]; exact kb_us
  have hP : kb_P D b G1 (z + 1) H := hP
  refine kb_putF (v := .ref z) (ty := .array .int) hx hb hts hi7 tyX7 tyX7_ok nmX7 hown hK hP hS (by omega) (by omega) oh rfl 2 (by decide) (hts (.fieldLink RX7 9 "NoonLaw$TextReader" "codes" "[I") (by decide +kernel)) rfl rfl hin rfl (by decide +kernel) rfl rfl (Nat.le_of_ble_eq_true rfl) dX7_init_9 (fun H locs hP hS => ?_)
  have hP : kb_P D b (kb_u G1 h0 (.inr (7, [.int 0, .int 0, .ref z, .null, .int 0, .int 0]))) (z + 1) H := hP
  obtain ⟨G2, eG2⟩ : ∃ q, q = kb_u G1 h0 (.inr (7, [.int 0, .int 0, .ref z, .null, .int 0, .int 0])) := ⟨_, rfl⟩
  rw [← eG2] at hP
  have hF : ∀ q : Nat, q ≠ h0 → q < z → G2 q = G q := fun q h1 h2 => by rw [eG2, kb_un h1]; exact hF q h1 h2
  have o1 : G2 z = .inl (cy 0, 60, .inl (fun _ => 0)) := by rw [eG2, kb_un (by omega)]; exact o1
  have oh : G2 h0 = .inr (7, [.int 0, .int 0, .ref z, .null, .int 0, .int 0]) := by rw [eG2]; exact kb_us
  refine lv_aload_n hx hb dX7_init_12 rfl (lv_at hl 0 rfl) ?_
  refine lv_bipush (v := 60) hx hb dX7_init_13 (by decide) ?_
  refine kb_newa hx hb (hts (.arrayClass .byte) (by decide +kernel)) 1 (ty := .byte) rfl rfl (fun _ _ h => h) hK hP hS (n := 60) (N' := 60) rfl (by decide) (by decide) (Nat.le_of_ble_eq_true rfl) (Nat.le_of_ble_eq_true rfl) (Nat.le_of_ble_eq_true rfl) dX7_init_15 (fun H hP hS => ?_)
  obtain ⟨G3, eG3⟩ : ∃ q, q = kb_u G2 (z + 1) (.inl (cy 1, 60, .inl (fun _ => 0))) := ⟨_, rfl⟩
  rw [← eG3] at hP
  have hF : ∀ q : Nat, q ≠ h0 → q < z → G3 q = G q := fun q h1 h2 => by rw [eG3, kb_un (by omega)]; exact hF q h1 h2
  have o1 : G3 z = .inl (cy 0, 60, .inl (fun _ => 0)) := by rw [eG3, kb_un (by omega)]; exact o1
  have oh : G3 h0 = .inr (7, [.int 0, .int 0, .ref z, .null, .int 0, .int 0]) := by rw [eG3, kb_un (by omega)]; exact oh
  have o3 : G3 (z + 1) = .inl (cy 1, 60, .inl (fun _ => 0)) := by rw [eG3]; exact kb_us
  have hP : kb_P D b G3 (z + 2) H := hP
  refine kb_putF (v := .ref (z + 1)) (ty := .array .byte) hx hb hts hi7 tyX7 tyX7_ok nmX7 hown hK hP hS (by omega) (by omega) oh rfl 3 (by decide) (hts (.fieldLink RX7 15 "NoonLaw$TextReader" "tape" "[B") (by decide +kernel)) rfl rfl hin rfl (by decide +kernel) rfl rfl (Nat.le_of_ble_eq_true rfl) dX7_init_17 (fun H locs hP hS => ?_)
  have hP : kb_P D b (kb_u G3 h0 (.inr (7, [.int 0, .int 0, .ref z, .ref (z + 1), .int 0, .int 0]))) (z + 2) H := hP
  obtain ⟨G4, eG4⟩ : ∃ q, q = kb_u G3 h0 (.inr (7, [.int 0, .int 0, .ref z, .ref (z + 1), .int 0, .int 0])) := ⟨_, rfl⟩
  rw [← eG4] at hP
  have hF : ∀ q : Nat, q ≠ h0 → q < z → G4 q = G q := fun q h1 h2 => by rw [eG4, kb_un h1]; exact hF q h1 h2
  have o1 : G4 z = .inl (cy 0, 60, .inl (fun _ => 0)) := by rw [eG4, kb_un (by omega)]; exact o1
  have o3 : G4 (z + 1) = .inl (cy 1, 60, .inl (fun _ => 0)) := by rw [eG4, kb_un (by omega)]; exact o3
  have oh : G4 h0 = .inr (7, [.int 0, .int 0, .ref z, .ref (z + 1), .int 0, .int 0]) := by rw [eG4]; exact kb_us
  exact kb_vret hx hb hr hlocks hK hP hS dX7_init_20 ⟨⟨oh, o1, o3⟩, hF⟩

set_option maxHeartbeats 8000000 in
set_option maxRecDepth 100000 in
theorem c_X9_init (l : Launch) (D : va_G) (cy : Nat → ClassId) (b : Nat) (G : Nat → va_E) (z h0 : Nat) (hb0 : b ≤ h0) (hz0 : h0 < z) (oh : G h0 = .inr (9, [.null, .null, .int 0, .null, .null, .null, .null, .null, .null, .null, .null, .int 0, .int 0, .int 0, .int 0, .int 0, .null, .null, .int 0, .int 0])) : Met l yX9_init wsX9_init ({ frames := 1, cells := 12, slots := 3282, locals := 12 }) (va_Pc [.ref h0] (kb_B D cy b G z)) (va_Qv (fun G1 => (G1 h0 = .inr (9, [.ref z, .ref (z + 1), .int 0, .ref (z + 2), .ref (z + 3), .ref (z + 4), .ref (z + 5), .ref (z + 6), .ref (z + 7), .ref (z + 8), .ref (z + 9), .int 0, .int 0, .int 0, .int 0, .int 0, .ref (z + 10), .ref (z + 11), .int 0, .int 0]) ∧ G1 z = .inl (cy 0, 399, .inl (upd (upd (fun _ => 0) 1 1) 4 22)) ∧ G1 (z + 1) = .inl (cy 0, 399, .inl (fun _ => 0)) ∧ G1 (z + 2) = .inl (cy 0, 7, .inl (fun _ => 0)) ∧ G1 (z + 3) = .inl (cy 0, 4, .inl (fun _ => 0)) ∧ G1 (z + 4) = .inl (cy 0, 4, .inl (fun _ => 0)) ∧ G1 (z + 5) = .inl (cy 0, 96, .inl (fun _ => 0)) ∧ G1 (z + 6) = .inl (cy 0, 60, .inl (fun _ => 0)) ∧ G1 (z + 7) = .inl (cy 0, 60, .inl (fun _ => 0)) ∧ G1 (z + 8) = .inl (cy 0, 3, .inl (fun _ => 0)) ∧ G1 (z + 9) = .inl (cy 0, 60, .inl (fun _ => 0)) ∧ G1 (z + 10) = .inl (cy 0, 2160, .inl (fun _ => 0)) ∧ G1 (z + 11) = .inl (cy 0, 30, .inl (fun _ => 0))) ∧ ∀ q : Nat, q ≠ h0 → q < z → G1 q = G q) (fun G1 => kb_B D cy b G1 (z + 12)) (fun q : Nat => b ≤ q)) 12 3282 (fun q : Nat => b ≤ q) := by
  refine kb_met (cc := cX9_init) (maxL := 1) (by decide) rfl (Nat.le_of_ble_eq_true rfl) ?_
  intro p e s m args below meth c ls hx hb hr hts hown hlocks hml hin hK hP hS hl
  have hl : lv_has ls 1 [(0, .ref h0)] := hl
  have hown : s.vm.findClass RX9 = some m.cls := hown
  have hin : meth.name = "<init>" := hin
  have hF : ∀ q : Nat, q ≠ h0 → q < z → G q = G q := fun _ _ _ => rfl
  generalize hlocs0 : ([] : List Loc) = locs at hS ⊢
  have hi9 : ∀ w ∈ wsX90, w ∈ wsX9_init := by decide +kernel
  refine lv_aload_n hx hb dX9_init_0 rfl (lv_at hl 0 rfl) ?_
  refine W.objInit hx hb hown (hts (.methodLink RX9 3 objectInit) (by decide +kernel)) (hts (.instanceMethod objectInit) (by decide +kernel)) (hts (.code objectInit ⟨#[0xb1]⟩ 1 none) (by decide +kernel)) rfl (by rw [hml]; exact hl.1) rfl dX9_init_1 (Nat.le_of_ble_eq_true rfl) (Nat.le_of_ble_eq_true rfl) ?_
  refine W.eq (g2 := F0 m 4 ls []) rfl ?_
  refine lv_aload_n hx hb dX9_init_4 rfl (lv_at hl 0 rfl) ?_
  refine lv_sipush (v := 399) hx hb dX9_init_5 (by decide) ?_
  refine kb_newa hx hb (hts (.arrayClass .int) (by decide +kernel)) 0 (ty := .int) rfl rfl (fun _ _ h => h) hK hP hS (n := 399) (N' := 399) rfl (by decide) (by decide) (Nat.le_of_ble_eq_true rfl) (Nat.le_of_ble_eq_true rfl) (Nat.le_of_ble_eq_true rfl) dX9_init_8 (fun H hP hS => ?_)
  obtain ⟨G1, eG1⟩ : ∃ q, q = kb_u G z (.inl (cy 0, 399, .inl (fun _ => 0))) := ⟨_, rfl⟩
  rw [← eG1] at hP
  have hF : ∀ q : Nat, q ≠ h0 → q < z → G1 q = G q := fun q h1 h2 => by rw [eG1, kb_un (by omega)]; exact hF q h1 h2
  have oh : G1 h0 = .inr (9, [.null, .null, .int 0, .null, .null, .null, .null, .null, .null, .null, .null, .int 0, .int 0, .int 0, .int 0, .int 0, .null, .null, .int 0, .int 0]) := by rw [eG1, kb_un (by omega)]; exact oh
  have o1 : G1 z = .inl (cy 0, 399, .inl (fun _ => 0)) := by rw [eG1]; exact kb_us
  have hP : kb_P D b G1 (z + 1) H := hP
  refine kb_putF (v := .ref z) (ty := .array .int) hx hb hts hi9 tyX9 tyX9_ok nmX9 hown hK hP hS (by omega) (by omega) oh rfl 0 (by decide) (hts (.fieldLink RX9 9 "NoonLawModel" "row" "[I") (by decide +kernel)) rfl rfl hin rfl (by decide +kernel) rfl rfl (Nat.le_of_ble_eq_true rfl) dX9_init_10 (fun H locs hP hS => ?_)
  have hP : kb_P D b (kb_u G1 h0 (.inr (9, [.ref z, .null, .int 0, .null, .null, .null, .null, .null, .null, .null, .null, .int 0, .int 0, .int 0, .int 0, .int 0, .null, .null, .int 0, .int 0]))) (z + 1) H := hP
  obtain ⟨G2, eG2⟩ : ∃ q, q = kb_u G1 h0 (.inr (9, [.ref z, .null, .int 0, .null, .null, .null, .null, .null, .null, .null, .null, .int 0, .int 0, .int 0, .int 0, .int 0, .null, .null, .int 0, .int 0])) := ⟨_, rfl⟩
  rw [← eG2] at hP
  have hF : ∀ q : Nat, q ≠ h0 → q < z → G2 q = G q := fun q h1 h2 => by rw [eG2, kb_un h1]; exact hF q h1 h2
  have o1 : G2 z = .inl (cy 0, 399, .inl (fun _ => 0)) := by rw [eG2, kb_un (by omega)]; exact o1
  have oh : G2 h0 = .inr (9, [.ref z, .null, .int 0, .null, .null, .null, .null, .null, .null, .null, .null, .int 0, .int 0, .int 0, .int 0, .int 0, .null, .null, .int 0, .int 0]) := by rw [eG2]; exact kb_us
  refine lv_aload_n hx hb dX9_init_13 rfl (lv_at hl 0 rfl) ?_
  refine lv_sipush (v := 399) hx hb dX9_init_14 (by decide) ?_
  refine kb_newa hx hb (hts (.arrayClass .int) (by decide +kernel)) 0 (ty := .int) rfl rfl (fun _ _ h => h) hK hP hS (n := 399) (N' := 399) rfl (by decide) (by decide) (Nat.le_of_ble_eq_true rfl) (Nat.le_of_ble_eq_true rfl) (Nat.le_of_ble_eq_true rfl) dX9_init_17 (fun H hP hS => ?_)
  obtain ⟨G3, eG3⟩ : ∃ q, q = kb_u G2 (z + 1) (.inl (cy 0, 399, .inl (fun _ => 0))) := ⟨_, rfl⟩
  rw [← eG3] at hP
  have hF : ∀ q : Nat, q ≠ h0 → q < z → G3 q = G q := fun q h1 h2 => by rw [eG3, kb_un (by omega)]; exact hF q h1 h2
  have o1 : G3 z = .inl (cy 0, 399, .inl (fun _ => 0)) := by rw [eG3, kb_un (by omega)]; exact o1
  have oh : G3 h0 = .inr (9, [.ref z, .null, .int 0, .null, .null, .null, .null, .null, .null, .null, .null, .int 0, .int 0, .int 0, .int 0, .int 0, .null, .null, .int 0, .int 0]) := by rw [eG3, kb_un (by omega)]; exact oh
  have o3 : G3 (z + 1) = .inl (cy 0, 399, .inl (fun _ => 0)) := by rw [eG3]; exact kb_us
  have hP : kb_P D b G3 (z + 2) H := hP
  refine kb_putF (v := .ref (z + 1)) (ty := .array .int) hx hb hts hi9 tyX9 tyX9_ok nmX9 hown hK hP hS (by omega) (by omega) oh rfl 1 (by decide) (hts (.fieldLink RX9 13 "NoonLawModel" "kept" "[I") (by decide +kernel)) rfl rfl hin rfl (by decide +kernel) rfl rfl (Nat.le_of_ble_eq_true rfl) dX9_init_19 (fun H locs hP hS => ?_)
  have hP : kb_P D b (kb_u G3 h0 (.inr (9, [.ref z, .ref (z + 1), .int 0, .null, .null, .null, .null, .null, .null, .null, .null, .int 0, .int 0, .int 0, .int 0, .int 0, .null, .null, .int 0, .int 0]))) (z + 2) H := hP
  obtain ⟨G4, eG4⟩ : ∃ q, q = kb_u G3 h0 (.inr (9, [.ref z, .ref (z + 1), .int 0, .null, .null, .null, .null, .null, .null, .null, .null, .int 0, .int 0, .int 0, .int 0, .int 0, .null, .null, .int 0, .int 0])) := ⟨_, rfl⟩
  rw [← eG4] at hP
  have hF : ∀ q : Nat, q ≠ h0 → q < z → G4 q = G q := fun q h1 h2 => by rw [eG4, kb_un h1]; exact hF q h1 h2
  have o1 : G4 z = .inl (cy 0, 399, .inl (fun _ => 0)) := by rw [eG4, kb_un (by omega)]; exact o1
  have o3 : G4 (z + 1) = .inl (cy 0, 399, .inl (fun _ => 0)) := by rw [eG4, kb_un (by omega)]; exact o3
  have oh : G4 h0 = .inr (9, [.ref z, .ref (z + 1), .int 0, .null, .null, .null, .null, .null, .null, .null, .null, .int 0, .int 0, .int 0, .int 0, .int 0, .null, .null, .int 0, .int 0]) := by rw [eG4]; exact kb_us
  refine lv_aload_n hx hb dX9_init_22 rfl (lv_at hl 0 rfl) ?_
  refine lv_bipush (v := 7) hx hb dX9_init_23 (by decide) ?_
  refine kb_newa hx hb (hts (.arrayClass .int) (by decide +kernel)) 0 (ty := .int) rfl rfl (fun _ _ h => h) hK hP hS (n := 7) (N' := 7) rfl (by decide) (by decide) (Nat.le_of_ble_eq_true rfl) (Nat.le_of_ble_eq_true rfl) (Nat.le_of_ble_eq_true rfl) dX9_init_25 (fun H hP hS => ?_)
  obtain ⟨G5, eG5⟩ : ∃ q, q = kb_u G4 (z + 2) (.inl (cy 0, 7, .inl (fun _ => 0))) := ⟨_, rfl⟩
  rw [← eG5] at hP
  have hF : ∀ q : Nat, q ≠ h0 → q < z → G5 q = G q := fun q h1 h2 => by rw [eG5, kb_un (by omega)]; exact hF q h1 h2
  have o1 : G5 z = .inl (cy 0, 399, .inl (fun _ => 0)) := by rw [eG5, kb_un (by omega)]; exact o1
  have o3 : G5 (z + 1) = .inl (cy 0, 399, .inl (fun _ => 0)) := by rw [eG5, kb_un (by omega)]; exact o3
  have oh : G5 h0 = .inr (9, [.ref z, .ref (z + 1), .int 0, .null, .null, .null, .null, .null, .null, .null, .null, .int 0, .int 0, .int 0, .int 0, .int 0, .null, .null, .int 0, .int 0]) := by rw [eG5, kb_un (by omega)]; exact oh
  have o5 : G5 (z + 2) = .inl (cy 0, 7, .inl (fun _ => 0)) := by rw [eG5]; exact kb_us
  have hP : kb_P D b G5 (z + 3) H := hP
  refine kb_putF (v := .ref (z + 2)) (ty := .array .int) hx hb hts hi9 tyX9 tyX9_ok nmX9 hown hK hP hS (by omega) (by omega) oh rfl 3 (by decide) (hts (.fieldLink RX9 16 "NoonLawModel" "errors" "[I") (by decide +kernel)) rfl rfl hin rfl (by decide +kernel) rfl rfl (Nat.le_of_ble_eq_true rfl) dX9_init_27 (fun H locs hP hS => ?_)
  have hP : kb_P D b (kb_u G5 h0 (.inr (9, [.ref z, .ref (z + 1), .int 0, .ref (z + 2), .null, .null, .null, .null, .null, .null, .null, .int 0, .int 0, .int 0, .int 0, .int 0, .null, .null, .int 0, .int 0]))) (z + 3) H := hP
  obtain ⟨G6, eG6⟩ : ∃ q, q = kb_u G5 h0 (.inr (9, [.ref z, .ref (z + 1), .int 0, .ref (z + 2), .null, .null, .null, .null, .null, .null, .null, .int 0, .int 0, .int 0, .int 0, .int 0, .null, .null, .int 0, .int 0])) := ⟨_, rfl⟩
  rw [← eG6] at hP
  have hF : ∀ q : Nat, q ≠ h0 → q < z → G6 q = G q := fun q h1 h2 => by rw [eG6, kb_un h1]; exact hF q h1 h2
  have o1 : G6 z = .inl (cy 0, 399, .inl (fun _ => 0)) := by rw [eG6, kb_un (by omega)]; exact o1
  have o3 : G6 (z + 1) = .inl (cy 0, 399, .inl (fun _ => 0)) := by rw [eG6, kb_un (by omega)]; exact o3
  have o5 : G6 (z + 2) = .inl (cy 0, 7, .inl (fun _ => 0)) := by rw [eG6, kb_un (by omega)]; exact o5
  have oh : G6 h0 = .inr (9, [.ref z, .ref (z + 1), .int 0, .ref (z + 2), .null, .null, .null, .null, .null, .null, .null, .int 0, .int 0, .int 0, .int 0, .int 0, .null, .null, .int 0, .int 0]) := by rw [eG6]; exact kb_us
  refine lv_aload_n hx hb dX9_init_30 rfl (lv_at hl 0 rfl) ?_
  refine lv_iconst (v := 4) hx hb dX9_init_31 (by decide) ?_
  refine kb_newa hx hb (hts (.arrayClass .int) (by decide +kernel)) 0 (ty := .int) rfl rfl (fun _ _ h => h) hK hP hS (n := 4) (N' := 4) rfl (by decide) (by decide) (Nat.le_of_ble_eq_true rfl) (Nat.le_of_ble_eq_true rfl) (Nat.le_of_ble_eq_true rfl) dX9_init_32 (fun H hP hS => ?_)
  obtain ⟨G7, eG7⟩ : ∃ q, q = kb_u G6 (z + 3) (.inl (cy 0, 4, .inl (fun _ => 0))) := ⟨_, rfl⟩
  rw [← eG7] at hP
  have hF : ∀ q : Nat, q ≠ h0 → q < z → G7 q = G q := fun q h1 h2 => by rw [eG7, kb_un (by omega)]; exact hF q h1 h2
  have o1 : G7 z = .inl (cy 0, 399, .inl (fun _ => 0)) := by rw [eG7, kb_un (by omega)]; exact o1
  have o3 : G7 (z + 1) = .inl (cy 0, 399, .inl (fun _ => 0)) := by rw [eG7, kb_un (by omega)]; exact o3
  have o5 : G7 (z + 2) = .inl (cy 0, 7, .inl (fun _ => 0)) := by rw [eG7, kb_un (by omega)]; exact o5
  have oh : G7 h0 = .inr (9, [.ref z, .ref (z + 1), .int 0, .ref (z + 2), .null, .null, .null, .null, .null, .null, .null, .int 0, .int 0, .int 0, .int 0, .int 0, .null, .null, .int 0, .int 0]) := by rw [eG7, kb_un (by omega)]; exact oh
  have o7 : G7 (z + 3) = .inl (cy 0, 4, .inl (fun _ => 0)) := by rw [eG7]; exact kb_us
  have hP : kb_P D b G7 (z + 4) H := hP
  refine kb_putF (v := .ref (z + 3)) (ty := .array .int) hx hb hts hi9 tyX9 tyX9_ok nmX9 hown hK hP hS (by omega) (by omega) oh rfl 4 (by decide) (hts (.fieldLink RX9 19 "NoonLawModel" "bitsOf" "[I") (by decide +kernel)) rfl rfl hin rfl (by decide +kernel) rfl rfl (Nat.le_of_ble_eq_true rfl) dX9_init_34 (fun H locs hP hS => ?_)
  have hP : kb_P D b (kb_u G7 h0 (.inr (9, [.ref z, .ref (z + 1), .int 0, .ref (z + 2), .ref (z + 3), .null, .null, .null, .null, .null, .null, .int 0, .int 0, .int 0, .int 0, .int 0, .null, .null, .int 0, .int 0]))) (z + 4) H := hP
  obtain ⟨G8, eG8⟩ : ∃ q, q = kb_u G7 h0 (.inr (9, [.ref z, .ref (z + 1), .int 0, .ref (z + 2), .ref (z + 3), .null, .null, .null, .null, .null, .null, .int 0, .int 0, .int 0, .int 0, .int 0, .null, .null, .int 0, .int 0])) := ⟨_, rfl⟩
  rw [← eG8] at hP
  have hF : ∀ q : Nat, q ≠ h0 → q < z → G8 q = G q := fun q h1 h2 => by rw [eG8, kb_un h1]; exact hF q h1 h2
  have o1 : G8 z = .inl (cy 0, 399, .inl (fun _ => 0)) := by rw [eG8, kb_un (by omega)]; exact o1
  have o3 : G8 (z + 1) = .inl (cy 0, 399, .inl (fun _ => 0)) := by rw [eG8, kb_un (by omega)]; exact o3
  have o5 : G8 (z + 2) = .inl (cy 0, 7, .inl (fun _ => 0)) := by rw [eG8, kb_un (by omega)]; exact o5
  have o7 : G8 (z + 3) = .inl (cy 0, 4, .inl (fun _ => 0)) := by rw [eG8, kb_un (by omega)]; exact o7
  have oh : G8 h0 = .inr (9, [.ref z, .ref (z + 1), .int 0, .ref (z + 2), .ref (z + 3), .null, .null, .null, .null, .null, .null, .int 0, .int 0, .int 0, .int 0, .int 0, .null, .null, .int 0, .int 0]) := by rw [eG8]; exact kb_us
  refine lv_aload_n hx hb dX9_init_37 rfl (lv_at hl 0 rfl) ?_
  refine lv_iconst (v := 4) hx hb dX9_init_38 (by decide) ?_
  refine kb_newa hx hb (hts (.arrayClass .int) (by decide +kernel)) 0 (ty := .int) rfl rfl (fun _ _ h => h) hK hP hS (n := 4) (N' := 4) rfl (by decide) (by decide) (Nat.le_of_ble_eq_true rfl) (Nat.le_of_ble_eq_true rfl) (Nat.le_of_ble_eq_true rfl) dX9_init_39 (fun H hP hS => ?_)
  obtain ⟨G9, eG9⟩ : ∃ q, q = kb_u G8 (z + 4) (.inl (cy 0, 4, .inl (fun _ => 0))) := ⟨_, rfl⟩
  rw [← eG9] at hP
  have hF : ∀ q : Nat, q ≠ h0 → q < z → G9 q = G q := fun q h1 h2 => by rw [eG9, kb_un (by omega)]; exact hF q h1 h2
  have o1 : G9 z = .inl (cy 0, 399, .inl (fun _ => 0)) := by rw [eG9, kb_un (by omega)]; exact o1
  have o3 : G9 (z + 1) = .inl (cy 0, 399, .inl (fun _ => 0)) := by rw [eG9, kb_un (by omega)]; exact o3
  have o5 : G9 (z + 2) = .inl (cy 0, 7, .inl (fun _ => 0)) := by rw [eG9, kb_un (by omega)]; exact o5
  have o7 : G9 (z + 3) = .inl (cy 0, 4, .inl (fun _ => 0)) := by rw [eG9, kb_un (by omega)]; exact o7
  have oh : G9 h0 = .inr (9, [.ref z, .ref (z + 1), .int 0, .ref (z + 2), .ref (z + 3), .null, .null, .null, .null, .null, .null, .int 0, .int 0, .int 0, .int 0, .int 0, .null, .null, .int 0, .int 0]) := by rw [eG9, kb_un (by omega)]; exact oh
  have o9 : G9 (z + 4) = .inl (cy 0, 4, .inl (fun _ => 0)) := by rw [eG9]; exact kb_us
  have hP : kb_P D b G9 (z + 5) H := hP
  refine kb_putF (v := .ref (z + 4)) (ty := .array .int) hx hb hts hi9 tyX9 tyX9_ok nmX9 hown hK hP hS (by omega) (by omega) oh rfl 5 (by decide) (hts (.fieldLink RX9 22 "NoonLawModel" "sizeOf" "[I") (by decide +kernel)) rfl rfl hin rfl (by decide +kernel) rfl rfl (Nat.le_of_ble_eq_true rfl) dX9_init_41 (fun H locs hP hS => ?_)
  have hP : kb_P D b (kb_u G9 h0 (.inr (9, [.ref z, .ref (z + 1), .int 0, .ref (z + 2), .ref (z + 3), .ref (z + 4), .null, .null, .null, .null, .null, .int 0, .int 0, .int 0, .int 0, .int 0, .null, .null, .int 0, .int 0]))) (z + 5) H := hP
  obtain ⟨G10, eG10⟩ : ∃ q, q = kb_u G9 h0 (.inr (9, [.ref z, .ref (z + 1), .int 0, .ref (z + 2), .ref (z + 3), .ref (z + 4), .null, .null, .null, .null, .null, .int 0, .int 0, .int 0, .int 0, .int 0, .null, .null, .int 0, .int 0])) := ⟨_, rfl⟩
  rw [← eG10] at hP
  have hF : ∀ q : Nat, q ≠ h0 → q < z → G10 q = G q := fun q h1 h2 => by rw [eG10, kb_un h1]; exact hF q h1 h2
  have o1 : G10 z = .inl (cy 0, 399, .inl (fun _ => 0)) := by rw [eG10, kb_un (by omega)]; exact o1
  have o3 : G10 (z + 1) = .inl (cy 0, 399, .inl (fun _ => 0)) := by rw [eG10, kb_un (by omega)]; exact o3
  have o5 : G10 (z + 2) = .inl (cy 0, 7, .inl (fun _ => 0)) := by rw [eG10, kb_un (by omega)]; exact o5
  have o7 : G10 (z + 3) = .inl (cy 0, 4, .inl (fun _ => 0)) := by rw [eG10, kb_un (by omega)]; exact o7
  have o9 : G10 (z + 4) = .inl (cy 0, 4, .inl (fun _ => 0)) := by rw [eG10, kb_un (by omega)]; exact o9
  have oh : G10 h0 = .inr (9, [.ref z, .ref (z + 1), .int 0, .ref (z + 2), .ref (z + 3), .ref (z + 4), .null, .null, .null, .null, .null, .int 0, .int 0, .int 0, .int 0, .int 0, .null, .null, .int 0, .int 0]) := by rw [eG10]; exact kb_us
  refine lv_aload_n hx hb dX9_init_44 rfl (lv_at hl 0 rfl) ?_
  refine lv_bipush (v := 96) hx hb dX9_init_45 (by decide) ?_
  refine kb_newa hx hb (hts (.arrayClass .int) (by decide +kernel)) 0 (ty := .int) rfl rfl (fun _ _ h => h) hK hP hS (n := 96) (N' := 96) rfl (by decide) (by decide) (Nat.le_of_ble_eq_true rfl) (Nat.le_of_ble_eq_true rfl) (Nat.le_of_ble_eq_true rfl) dX9_init_47 (fun H hP hS => ?_)
  obtain ⟨G11, eG11⟩ : ∃ q, q = kb_u G10 (z + 5) (.inl (cy 0, 96, .inl (fun _ => 0))) := ⟨_, rfl⟩
  rw [← eG11] at hP
  have hF : ∀ q : Nat, q ≠ h0 → q < z → G11 q = G q := fun q h1 h2 => by rw [eG11, kb_un (by omega)]; exact hF q h1 h2
  have o1 : G11 z = .inl (cy 0, 399, .inl (fun _ => 0)) := by rw [eG11, kb_un (by omega)]; exact o1
  have o3 : G11 (z + 1) = .inl (cy 0, 399, .inl (fun _ => 0)) := by rw [eG11, kb_un (by omega)]; exact o3
  have o5 : G11 (z + 2) = .inl (cy 0, 7, .inl (fun _ => 0)) := by rw [eG11, kb_un (by omega)]; exact o5
  have o7 : G11 (z + 3) = .inl (cy 0, 4, .inl (fun _ => 0)) := by rw [eG11, kb_un (by omega)]; exact o7
  have o9 : G11 (z + 4) = .inl (cy 0, 4, .inl (fun _ => 0)) := by rw [eG11, kb_un (by omega)]; exact o9
  have oh : G11 h0 = .inr (9, [.ref z, .ref (z + 1), .int 0, .ref (z + 2), .ref (z + 3), .ref (z + 4), .null, .null, .null, .null, .null, .int 0, .int 0, .int 0, .int 0, .int 0, .null, .null, .int 0, .int 0]) := by rw [eG11, kb_un (by omega)]; exact oh
  have o11 : G11 (z + 5) = .inl (cy 0, 96, .inl (fun _ => 0)) := by rw [eG11]; exact kb_us
  have hP : kb_P D b G11 (z + 6) H := hP
  refine kb_putF (v := .ref (z + 5)) (ty := .array .int) hx hb hts hi9 tyX9 tyX9_ok nmX9 hown hK hP hS (by omega) (by omega) oh rfl 6 (by decide) (hts (.fieldLink RX9 25 "NoonLawModel" "cells" "[I") (by decide +kernel)) rfl rfl hin rfl (by decide +kernel) rfl rfl (Nat.le_of_ble_eq_true rfl) dX9_init_49 (fun H locs hP hS => ?_)
  have hP : kb_P D b (kb_u G11 h0 (.inr (9, [.ref z, .ref (z + 1), .int 0, .ref (z + 2), .ref (z + 3), .ref (z + 4), .ref (z + 5), .null, .null, .null, .null, .int 0, .int 0, .int 0, .int 0, .int 0, .null, .null, .int 0, .int 0]))) (z + 6) H := hP
  obtain ⟨G12, eG12⟩ : ∃ q, q = kb_u G11 h0 (.inr (9, [.ref z, .ref (z + 1), .int 0, .ref (z + 2), .ref (z + 3), .ref (z + 4), .ref (z + 5), .null, .null, .null, .null, .int 0, .int 0, .int 0, .int 0, .int 0, .null, .null, .int 0, .int 0])) := ⟨_, rfl⟩
  rw [← eG12] at hP
  have hF : ∀ q : Nat, q ≠ h0 → q < z → G12 q = G q := fun q h1 h2 => by rw [eG12, kb_un h1]; exact hF q h1 h2
  have o1 : G12 z = .inl (cy 0, 399, .inl (fun _ => 0)) := by rw [eG12, kb_un (by omega)]; exact o1
  have o3 : G12 (z + 1) = .inl (cy 0, 399, .inl (fun _ => 0)) := by rw [eG12, kb_un (by omega)]; exact o3
  have o5 : G12 (z + 2) = .inl (cy 0, 7, .inl (fun _ => 0)) := by rw [eG12, kb_un (by omega)]; exact o5
  have o7 : G12 (z + 3) = .inl (cy 0, 4, .inl (fun _ => 0)) := by rw [eG12, kb_un (by omega)]; exact o7
  have o9 : G12 (z + 4) = .inl (cy 0, 4, .inl (fun _ => 0)) := by rw [eG12, kb_un (by omega)]; exact o9
  have o11 : G12 (z + 5) = .inl (cy 0, 96, .inl (fun _ => 0)) := by rw [eG12, kb_un (by omega)]; exact o11
  have oh : G12 h0 = .inr (9, [.ref z, .ref (z + 1), .int 0, .ref (z + 2), .ref (z + 3), .ref (z + 4), .ref (z + 5), .null, .null, .null, .null, .int 0, .int 0, .int 0, .int 0, .int 0, .null, .null, .int 0, .int 0]) := by rw [eG12]; exact kb_us
  refine lv_aload_n hx hb dX9_init_52 rfl (lv_at hl 0 rfl) ?_
  refine lv_bipush (v := 60) hx hb dX9_init_53 (by decide) ?_
  refine kb_newa hx hb (hts (.arrayClass .int) (by decide +kernel)) 0 (ty := .int) rfl rfl (fun _ _ h => h) hK hP hS (n := 60) (N' := 60) rfl (by decide) (by decide) (Nat.le_of_ble_eq_true rfl) (Nat.le_of_ble_eq_true rfl) (Nat.le_of_ble_eq_true rfl) dX9_init_55 (fun H hP hS => ?_)
  obtain ⟨G13, eG13⟩ : ∃ q, q = kb_u G12 (z + 6) (.inl (cy 0, 60, .inl (fun _ => 0))) := ⟨_, rfl⟩
  rw [← eG13] at hP
  have hF : ∀ q : Nat, q ≠ h0 → q < z → G13 q = G q := fun q h1 h2 => by rw [eG13, kb_un (by omega)]; exact hF q h1 h2
  have o1 : G13 z = .inl (cy 0, 399, .inl (fun _ => 0)) := by rw [eG13, kb_un (by omega)]; exact o1
  have o3 : G13 (z + 1) = .inl (cy 0, 399, .inl (fun _ => 0)) := by rw [eG13, kb_un (by omega)]; exact o3
  have o5 : G13 (z + 2) = .inl (cy 0, 7, .inl (fun _ => 0)) := by rw [eG13, kb_un (by omega)]; exact o5
  have o7 : G13 (z + 3) = .inl (cy 0, 4, .inl (fun _ => 0)) := by rw [eG13, kb_un (by omega)]; exact o7
  have o9 : G13 (z + 4) = .inl (cy 0, 4, .inl (fun _ => 0)) := by rw [eG13, kb_un (by omega)]; exact o9
  have o11 : G13 (z + 5) = .inl (cy 0, 96, .inl (fun _ => 0)) := by rw [eG13, kb_un (by omega)]; exact o11
  have oh : G13 h0 = .inr (9, [.ref z, .ref (z + 1), .int 0, .ref (z + 2), .ref (z + 3), .ref (z + 4), .ref (z + 5), .null, .null, .null, .null, .int 0, .int 0, .int 0, .int 0, .int 0, .null, .null, .int 0, .int 0]) := by rw [eG13, kb_un (by omega)]; exact oh
  have o13 : G13 (z + 6) = .inl (cy 0, 60, .inl (fun _ => 0)) := by rw [eG13]; exact kb_us
  have hP : kb_P D b G13 (z + 7) H := hP
  refine kb_putF (v := .ref (z + 6)) (ty := .array .int) hx hb hts hi9 tyX9 tyX9_ok nmX9 hown hK hP hS (by omega) (by omega) oh rfl 7 (by decide) (hts (.fieldLink RX9 28 "NoonLawModel" "act" "[I") (by decide +kernel)) rfl rfl hin rfl (by decide +kernel) rfl rfl (Nat.le_of_ble_eq_true rfl) dX9_init_57 (fun H locs hP hS => ?_)
  have hP : kb_P D b (kb_u G13 h0 (.inr (9, [.ref z, .ref (z + 1), .int 0, .ref (z + 2), .ref (z + 3), .ref (z + 4), .ref (z + 5), .ref (z + 6), .null, .null, .null, .int 0, .int 0, .int 0, .int 0, .int 0, .null, .null, .int 0, .int 0]))) (z + 7) H := hP
  obtain ⟨G14, eG14⟩ : ∃ q, q = kb_u G13 h0 (.inr (9, [.ref z, .ref (z + 1), .int 0, .ref (z + 2), .ref (z + 3), .ref (z + 4), .ref (z + 5), .ref (z + 6), .null, .null, .null, .int 0, .int 0, .int 0, .int 0, .int 0, .null, .null, .int 0, .int 0])) := ⟨_, rfl⟩
  rw [← eG14] at hP
  have hF : ∀ q : Nat, q ≠ h0 → q < z → G14 q = G q := fun q h1 h2 => by rw [eG14, kb_un h1]; exact hF q h1 h2
  have o1 : G14 z = .inl (cy 0, 399, .inl (fun _ => 0)) := by rw [eG14, kb_un (by omega)]; exact o1
  have o3 : G14 (z + 1) = .inl (cy 0, 399, .inl (fun _ => 0)) := by rw [eG14, kb_un (by omega)]; exact o3
  have o5 : G14 (z + 2) = .inl (cy 0, 7, .inl (fun _ => 0)) := by rw [eG14, kb_un (by omega)]; exact o5
  have o7 : G14 (z + 3) = .inl (cy 0, 4, .inl (fun _ => 0)) := by rw [eG14, kb_un (by omega)]; exact o7
  have o9 : G14 (z + 4) = .inl (cy 0, 4, .inl (fun _ => 0)) := by rw [eG14, kb_un (by omega)]; exact o9
  have o11 : G14 (z + 5) = .inl (cy 0, 96, .inl (fun _ => 0)) := by rw [eG14, kb_un (by omega)]; exact o11
  have o13 : G14 (z + 6) = .inl (cy 0, 60, .inl (fun _ => 0)) := by rw [eG14, kb_un (by omega)]; exact o13
  have oh : G14 h0 = .inr (9, [.ref z, .ref (z + 1), .int 0, .ref (z + 2), .ref (z + 3), .ref (z + 4), .ref (z + 5), .ref (z + 6), .null, .null, .null, .int 0, .int 0, .int 0, .int 0, .int 0, .null, .null, .int 0, .int 0]) := by rw [eG14]; exact kb_us
  refine lv_aload_n hx hb dX9_init_60 rfl (lv_at hl 0 rfl) ?_
  refine lv_bipush (v := 60) hx hb dX9_init_61 (by decide) ?_
  refine kb_newa hx hb (hts (.arrayClass .int) (by decide +kernel)) 0 (ty := .int) rfl rfl (fun _ _ h => h) hK hP hS (n := 60) (N' := 60) rfl (by decide) (by decide) (Nat.le_of_ble_eq_true rfl) (Nat.le_of_ble_eq_true rfl) (Nat.le_of_ble_eq_true rfl) dX9_init_63 (fun H hP hS => ?_)
  obtain ⟨G15, eG15⟩ : ∃ q, q = kb_u G14 (z + 7) (.inl (cy 0, 60, .inl (fun _ => 0))) := ⟨_, rfl⟩
  rw [← eG15] at hP
  have hF : ∀ q : Nat, q ≠ h0 → q < z → G15 q = G q := fun q h1 h2 => by rw [eG15, kb_un (by omega)]; exact hF q h1 h2
  have o1 : G15 z = .inl (cy 0, 399, .inl (fun _ => 0)) := by rw [eG15, kb_un (by omega)]; exact o1
  have o3 : G15 (z + 1) = .inl (cy 0, 399, .inl (fun _ => 0)) := by rw [eG15, kb_un (by omega)]; exact o3
  have o5 : G15 (z + 2) = .inl (cy 0, 7, .inl (fun _ => 0)) := by rw [eG15, kb_un (by omega)]; exact o5
  have o7 : G15 (z + 3) = .inl (cy 0, 4, .inl (fun _ => 0)) := by rw [eG15, kb_un (by omega)]; exact o7
  have o9 : G15 (z + 4) = .inl (cy 0, 4, .inl (fun _ => 0)) := by rw [eG15, kb_un (by omega)]; exact o9
  have o11 : G15 (z + 5) = .inl (cy 0, 96, .inl (fun _ => 0)) := by rw [eG15, kb_un (by omega)]; exact o11
  have o13 : G15 (z + 6) = .inl (cy 0, 60, .inl (fun _ => 0)) := by rw [eG15, kb_un (by omega)]; exact o13
  have oh : G15 h0 = .inr (9, [.ref z, .ref (z + 1), .int 0, .ref (z + 2), .ref (z + 3), .ref (z + 4), .ref (z + 5), .ref (z + 6), .null, .null, .null, .int 0, .int 0, .int 0, .int 0, .int 0, .null, .null, .int 0, .int 0]) := by rw [eG15, kb_un (by omega)]; exact oh
  have o15 : G15 (z + 7) = .inl (cy 0, 60, .inl (fun _ => 0)) := by rw [eG15]; exact kb_us
  have hP : kb_P D b G15 (z + 8) H := hP
  refine kb_putF (v := .ref (z + 7)) (ty := .array .int) hx hb hts hi9 tyX9 tyX9_ok nmX9 hown hK hP hS (by omega) (by omega) oh rfl 8 (by decide) (hts (.fieldLink RX9 31 "NoonLawModel" "with" "[I") (by decide +kernel)) rfl rfl hin rfl (by decide +kernel) rfl rfl (Nat.le_of_ble_eq_true rfl) dX9_init_65 (fun H locs hP hS => ?_)
  have hP : kb_P D b (kb_u G15 h0 (.inr (9, [.ref z, .ref (z + 1), .int 0, .ref (z + 2), .ref (z + 3), .ref (z + 4), .ref (z + 5), .ref (z + 6), .ref (z + 7), .null, .null, .int 0, .int 0, .int 0, .int 0, .int 0, .null, .null, .int 0, .int 0]))) (z + 8) H := hP
  obtain ⟨G16, eG16⟩ : ∃ q, q = kb_u G15 h0 (.inr (9, [.ref z, .ref (z + 1), .int 0, .ref (z + 2), .ref (z + 3), .ref (z + 4), .ref (z + 5), .ref (z + 6), .ref (z + 7), .null, .null, .int 0, .int 0, .int 0, .int 0, .int 0, .null, .null, .int 0, .int 0])) := ⟨_, rfl⟩
  rw [← eG16] at hP
  have hF : ∀ q : Nat, q ≠ h0 → q < z → G16 q = G q := fun q h1 h2 => by rw [eG16, kb_un h1]; exact hF q h1 h2
  have o1 : G16 z = .inl (cy 0, 399, .inl (fun _ => 0)) := by rw [eG16, kb_un (by omega)]; exact o1
  have o3 : G16 (z + 1) = .inl (cy 0, 399, .inl (fun _ => 0)) := by rw [eG16, kb_un (by omega)]; exact o3
  have o5 : G16 (z + 2) = .inl (cy 0, 7, .inl (fun _ => 0)) := by rw [eG16, kb_un (by omega)]; exact o5
  have o7 : G16 (z + 3) = .inl (cy 0, 4, .inl (fun _ => 0)) := by rw [eG16, kb_un (by omega)]; exact o7
  have o9 : G16 (z + 4) = .inl (cy 0, 4, .inl (fun _ => 0)) := by rw [eG16, kb_un (by omega)]; exact o9
  have o11 : G16 (z + 5) = .inl (cy 0, 96, .inl (fun _ => 0)) := by rw [eG16, kb_un (by omega)]; exact o11
  have o13 : G16 (z + 6) = .inl (cy 0, 60, .inl (fun _ => 0)) := by rw [eG16, kb_un (by omega)]; exact o13
  have o15 : G16 (z + 7) = .inl (cy 0, 60, .inl (fun _ => 0)) := by rw [eG16, kb_un (by omega)]; exact o15
  have oh : G16 h0 = .inr (9, [.ref z, .ref (z + 1), .int 0, .ref (z + 2), .ref (z + 3), .ref (z + 4), .ref (z + 5), .ref (z + 6), .ref (z + 7), .null, .null, .int 0, .int 0, .int 0, .int 0, .int 0, .null, .null, .int 0, .int 0]) := by rw [eG16]; exact kb_us
  refine lv_aload_n hx hb dX9_init_68 rfl (lv_at hl 0 rfl) ?_
  refine lv_iconst (v := 3) hx hb dX9_init_69 (by decide) ?_
  refine kb_newa hx hb (hts (.arrayClass .int) (by decide +kernel)) 0 (ty := .int) rfl rfl (fun _ _ h => h) hK hP hS (n := 3) (N' := 3) rfl (by decide) (by decide) (Nat.le_of_ble_eq_true rfl) (Nat.le_of_ble_eq_true rfl) (Nat.le_of_ble_eq_true rfl) dX9_init_70 (fun H hP hS => ?_)
  obtain ⟨G17, eG17⟩ : ∃ q, q = kb_u G16 (z + 8) (.inl (cy 0, 3, .inl (fun _ => 0))) := ⟨_, rfl⟩
  rw [← eG17] at hP
  have hF : ∀ q : Nat, q ≠ h0 → q < z → G17 q = G q := fun q h1 h2 => by rw [eG17, kb_un (by omega)]; exact hF q h1 h2
  have o1 : G17 z = .inl (cy 0, 399, .inl (fun _ => 0)) := by rw [eG17, kb_un (by omega)]; exact o1
  have o3 : G17 (z + 1) = .inl (cy 0, 399, .inl (fun _ => 0)) := by rw [eG17, kb_un (by omega)]; exact o3
  have o5 : G17 (z + 2) = .inl (cy 0, 7, .inl (fun _ => 0)) := by rw [eG17, kb_un (by omega)]; exact o5
  have o7 : G17 (z + 3) = .inl (cy 0, 4, .inl (fun _ => 0)) := by rw [eG17, kb_un (by omega)]; exact o7
  have o9 : G17 (z + 4) = .inl (cy 0, 4, .inl (fun _ => 0)) := by rw [eG17, kb_un (by omega)]; exact o9
  have o11 : G17 (z + 5) = .inl (cy 0, 96, .inl (fun _ => 0)) := by rw [eG17, kb_un (by omega)]; exact o11
  have o13 : G17 (z + 6) = .inl (cy 0, 60, .inl (fun _ => 0)) := by rw [eG17, kb_un (by omega)]; exact o13
  have o15 : G17 (z + 7) = .inl (cy 0, 60, .inl (fun _ => 0)) := by rw [eG17, kb_un (by omega)]; exact o15
  have oh : G17 h0 = .inr (9, [.ref z, .ref (z + 1), .int 0, .ref (z + 2), .ref (z + 3), .ref (z + 4), .ref (z + 5), .ref (z + 6), .ref (z + 7), .null, .null, .int 0, .int 0, .int 0, .int 0, .int 0, .null, .null, .int 0, .int 0]) := by rw [eG17, kb_un (by omega)]; exact oh
  have o17 : G17 (z + 8) = .inl (cy 0, 3, .inl (fun _ => 0)) := by rw [eG17]; exact kb_us
  have hP : kb_P D b G17 (z + 9) H := hP
  refine kb_putF (v := .ref (z + 8)) (ty := .array .int) hx hb hts hi9 tyX9 tyX9_ok nmX9 hown hK hP hS (by omega) (by omega) oh rfl 9 (by decide) (hts (.fieldLink RX9 34 "NoonLawModel" "facts" "[I") (by decide +kernel)) rfl rfl hin rfl (by decide +kernel) rfl rfl (Nat.le_of_ble_eq_true rfl) dX9_init_72 (fun H locs hP hS => ?_)
  have hP : kb_P D b (kb_u G17 h0 (.inr (9, [.ref z, .ref (z + 1), .int 0, .ref (z + 2), .ref (z + 3), .ref (z + 4), .ref (z + 5), .ref (z + 6), .ref (z + 7), .ref (z + 8), .null, .int 0, .int 0, .int 0, .int 0, .int 0, .null, .null, .int 0, .int 0]))) (z + 9) H := hP
  obtain ⟨G18, eG18⟩ : ∃ q, q = kb_u G17 h0 (.inr (9, [.ref z, .ref (z + 1), .int 0, .ref (z + 2), .ref (z + 3), .ref (z + 4), .ref (z + 5), .ref (z + 6), .ref (z + 7), .ref (z + 8), .null, .int 0, .int 0, .int 0, .int 0, .int 0, .null, .null, .int 0, .int 0])) := ⟨_, rfl⟩
  rw [← eG18] at hP
  have hF : ∀ q : Nat, q ≠ h0 → q < z → G18 q = G q := fun q h1 h2 => by rw [eG18, kb_un h1]; exact hF q h1 h2
  have o1 : G18 z = .inl (cy 0, 399, .inl (fun _ => 0)) := by rw [eG18, kb_un (by omega)]; exact o1
  have o3 : G18 (z + 1) = .inl (cy 0, 399, .inl (fun _ => 0)) := by rw [eG18, kb_un (by omega)]; exact o3
  have o5 : G18 (z + 2) = .inl (cy 0, 7, .inl (fun _ => 0)) := by rw [eG18, kb_un (by omega)]; exact o5
  have o7 : G18 (z + 3) = .inl (cy 0, 4, .inl (fun _ => 0)) := by rw [eG18, kb_un (by omega)]; exact o7
  have o9 : G18 (z + 4) = .inl (cy 0, 4, .inl (fun _ => 0)) := by rw [eG18, kb_un (by omega)]; exact o9
  have o11 : G18 (z + 5) = .inl (cy 0, 96, .inl (fun _ => 0)) := by rw [eG18, kb_un (by omega)]; exact o11
  have o13 : G18 (z + 6) = .inl (cy 0, 60, .inl (fun _ => 0)) := by rw [eG18, kb_un (by omega)]; exact o13
  have o15 : G18 (z + 7) = .inl (cy 0, 60, .inl (fun _ => 0)) := by rw [eG18, kb_un (by omega)]; exact o15
  have o17 : G18 (z + 8) = .inl (cy 0, 3, .inl (fun _ => 0)) := by rw [eG18, kb_un (by omega)]; exact o17
  have oh : G18 h0 = .inr (9, [.ref z, .ref (z + 1), .int 0, .ref (z + 2), .ref (z + 3), .ref (z + 4), .ref (z + 5), .ref (z + 6), .ref (z + 7), .ref (z + 8), .null, .int 0, .int 0, .int 0, .int 0, .int 0, .null, .null, .int 0, .int 0]) := by rw [eG18]; exact kb_us
  refine lv_aload_n hx hb dX9_init_75 rfl (lv_at hl 0 rfl) ?_
  refine lv_bipush (v := 60) hx hb dX9_init_76 (by decide) ?_
  refine kb_newa hx hb (hts (.arrayClass .int) (by decide +kernel)) 0 (ty := .int) rfl rfl (fun _ _ h => h) hK hP hS (n := 60) (N' := 60) rfl (by decide) (by decide) (Nat.le_of_ble_eq_true rfl) (Nat.le_of_ble_eq_true rfl) (Nat.le_of_ble_eq_true rfl) dX9_init_78 (fun H hP hS => ?_)
  obtain ⟨G19, eG19⟩ : ∃ q, q = kb_u G18 (z + 9) (.inl (cy 0, 60, .inl (fun _ => 0))) := ⟨_, rfl⟩
  rw [← eG19] at hP
  have hF : ∀ q : Nat, q ≠ h0 → q < z → G19 q = G q := fun q h1 h2 => by rw [eG19, kb_un (by omega)]; exact hF q h1 h2
  have o1 : G19 z = .inl (cy 0, 399, .inl (fun _ => 0)) := by rw [eG19, kb_un (by omega)]; exact o1
  have o3 : G19 (z + 1) = .inl (cy 0, 399, .inl (fun _ => 0)) := by rw [eG19, kb_un (by omega)]; exact o3
  have o5 : G19 (z + 2) = .inl (cy 0, 7, .inl (fun _ => 0)) := by rw [eG19, kb_un (by omega)]; exact o5
  have o7 : G19 (z + 3) = .inl (cy 0, 4, .inl (fun _ => 0)) := by rw [eG19, kb_un (by omega)]; exact o7
  have o9 : G19 (z + 4) = .inl (cy 0, 4, .inl (fun _ => 0)) := by rw [eG19, kb_un (by omega)]; exact o9
  have o11 : G19 (z + 5) = .inl (cy 0, 96, .inl (fun _ => 0)) := by rw [eG19, kb_un (by omega)]; exact o11
  have o13 : G19 (z + 6) = .inl (cy 0, 60, .inl (fun _ => 0)) := by rw [eG19, kb_un (by omega)]; exact o13
  have o15 : G19 (z + 7) = .inl (cy 0, 60, .inl (fun _ => 0)) := by rw [eG19, kb_un (by omega)]; exact o15
  have o17 : G19 (z + 8) = .inl (cy 0, 3, .inl (fun _ => 0)) := by rw [eG19, kb_un (by omega)]; exact o17
  have oh : G19 h0 = .inr (9, [.ref z, .ref (z + 1), .int 0, .ref (z + 2), .ref (z + 3), .ref (z + 4), .ref (z + 5), .ref (z + 6), .ref (z + 7), .ref (z + 8), .null, .int 0, .int 0, .int 0, .int 0, .int 0, .null, .null, .int 0, .int 0]) := by rw [eG19, kb_un (by omega)]; exact oh
  have o19 : G19 (z + 9) = .inl (cy 0, 60, .inl (fun _ => 0)) := by rw [eG19]; exact kb_us
  have hP : kb_P D b G19 (z + 10) H := hP
  refine kb_putF (v := .ref (z + 9)) (ty := .array .int) hx hb hts hi9 tyX9 tyX9_ok nmX9 hown hK hP hS (by omega) (by omega) oh rfl 10 (by decide) (hts (.fieldLink RX9 37 "NoonLawModel" "pile" "[I") (by decide +kernel)) rfl rfl hin rfl (by decide +kernel) rfl rfl (Nat.le_of_ble_eq_true rfl) dX9_init_80 (fun H locs hP hS => ?_)
  have hP : kb_P D b (kb_u G19 h0 (.inr (9, [.ref z, .ref (z + 1), .int 0, .ref (z + 2), .ref (z + 3), .ref (z + 4), .ref (z + 5), .ref (z + 6), .ref (z + 7), .ref (z + 8), .ref (z + 9), .int 0, .int 0, .int 0, .int 0, .int 0, .null, .null, .int 0, .int 0]))) (z + 10) H := hP
  obtain ⟨G20, eG20⟩ : ∃ q, q = kb_u G19 h0 (.inr (9, [.ref z, .ref (z + 1), .int 0, .ref (z + 2), .ref (z + 3), .ref (z + 4), .ref (z + 5), .ref (z + 6), .ref (z + 7), .ref (z + 8), .ref (z + 9), .int 0, .int 0, .int 0, .int 0, .int 0, .null, .null, .int 0, .int 0])) := ⟨_, rfl⟩
  rw [← eG20] at hP
  have hF : ∀ q : Nat, q ≠ h0 → q < z → G20 q = G q := fun q h1 h2 => by rw [eG20, kb_un h1]; exact hF q h1 h2
  have o1 : G20 z = .inl (cy 0, 399, .inl (fun _ => 0)) := by rw [eG20, kb_un (by omega)]; exact o1
  have o3 : G20 (z + 1) = .inl (cy 0, 399, .inl (fun _ => 0)) := by rw [eG20, kb_un (by omega)]; exact o3
  have o5 : G20 (z + 2) = .inl (cy 0, 7, .inl (fun _ => 0)) := by rw [eG20, kb_un (by omega)]; exact o5
  have o7 : G20 (z + 3) = .inl (cy 0, 4, .inl (fun _ => 0)) := by rw [eG20, kb_un (by omega)]; exact o7
  have o9 : G20 (z + 4) = .inl (cy 0, 4, .inl (fun _ => 0)) := by rw [eG20, kb_un (by omega)]; exact o9
  have o11 : G20 (z + 5) = .inl (cy 0, 96, .inl (fun _ => 0)) := by rw [eG20, kb_un (by omega)]; exact o11
  have o13 : G20 (z + 6) = .inl (cy 0, 60, .inl (fun _ => 0)) := by rw [eG20, kb_un (by omega)]; exact o13
  have o15 : G20 (z + 7) = .inl (cy 0, 60, .inl (fun _ => 0)) := by rw [eG20, kb_un (by omega)]; exact o15
  have o17 : G20 (z + 8) = .inl (cy 0, 3, .inl (fun _ => 0)) := by rw [eG20, kb_un (by omega)]; exact o17
  have o19 : G20 (z + 9) = .inl (cy 0, 60, .inl (fun _ => 0)) := by rw [eG20, kb_un (by omega)]; exact o19
  have oh : G20 h0 = .inr (9, [.ref z, .ref (z + 1), .int 0, .ref (z + 2), .ref (z + 3), .ref (z + 4), .ref (z + 5), .ref (z + 6), .ref (z + 7), .ref (z + 8), .ref (z + 9), .int 0, .int 0, .int 0, .int 0, .int 0, .null, .null, .int 0, .int 0]) := by rw [eG20]; exact kb_us
  refine lv_aload_n hx hb dX9_init_83 rfl (lv_at hl 0 rfl) ?_
  refine lv_sipush (v := 2160) hx hb dX9_init_84 (by decide) ?_
  refine kb_newa hx hb (hts (.arrayClass .int) (by decide +kernel)) 0 (ty := .int) rfl rfl (fun _ _ h => h) hK hP hS (n := 2160) (N' := 2160) rfl (by decide) (by decide) (Nat.le_of_ble_eq_true rfl) (Nat.le_of_ble_eq_true rfl) (Nat.le_of_ble_eq_true rfl) dX9_init_87 (fun H hP hS => ?_)
  obtain ⟨G21, eG21⟩ : ∃ q, q = kb_u G20 (z + 10) (.inl (cy 0, 2160, .inl (fun _ => 0))) := ⟨_, rfl⟩
  rw [← eG21] at hP
  have hF : ∀ q : Nat, q ≠ h0 → q < z → G21 q = G q := fun q h1 h2 => by rw [eG21, kb_un (by omega)]; exact hF q h1 h2
  have o1 : G21 z = .inl (cy 0, 399, .inl (fun _ => 0)) := by rw [eG21, kb_un (by omega)]; exact o1
  have o3 : G21 (z + 1) = .inl (cy 0, 399, .inl (fun _ => 0)) := by rw [eG21, kb_un (by omega)]; exact o3
  have o5 : G21 (z + 2) = .inl (cy 0, 7, .inl (fun _ => 0)) := by rw [eG21, kb_un (by omega)]; exact o5
  have o7 : G21 (z + 3) = .inl (cy 0, 4, .inl (fun _ => 0)) := by rw [eG21, kb_un (by omega)]; exact o7
  have o9 : G21 (z + 4) = .inl (cy 0, 4, .inl (fun _ => 0)) := by rw [eG21, kb_un (by omega)]; exact o9
  have o11 : G21 (z + 5) = .inl (cy 0, 96, .inl (fun _ => 0)) := by rw [eG21, kb_un (by omega)]; exact o11
  have o13 : G21 (z + 6) = .inl (cy 0, 60, .inl (fun _ => 0)) := by rw [eG21, kb_un (by omega)]; exact o13
  have o15 : G21 (z + 7) = .inl (cy 0, 60, .inl (fun _ => 0)) := by rw [eG21, kb_un (by omega)]; exact o15
  have o17 : G21 (z + 8) = .inl (cy 0, 3, .inl (fun _ => 0)) := by rw [eG21, kb_un (by omega)]; exact o17
  have o19 : G21 (z + 9) = .inl (cy 0, 60, .inl (fun _ => 0)) := by rw [eG21, kb_un (by omega)]; exact o19
  have oh : G21 h0 = .inr (9, [.ref z, .ref (z + 1), .int 0, .ref (z + 2), .ref (z + 3), .ref (z + 4), .ref (z + 5), .ref (z + 6), .ref (z + 7), .ref (z + 8), .ref (z + 9), .int 0, .int 0, .int 0, .int 0, .int 0, .null, .null, .int 0, .int 0]) := by rw [eG21, kb_un (by omega)]; exact oh
  have o21 : G21 (z + 10) = .inl (cy 0, 2160, .inl (fun _ => 0)) := by rw [eG21]; exact kb_us
  have hP : kb_P D b G21 (z + 11) H := hP
  refine kb_putF (v := .ref (z + 10)) (ty := .array .int) hx hb hts hi9 tyX9 tyX9_ok nmX9 hown hK hP hS (by omega) (by omega) oh rfl 16 (by decide) (hts (.fieldLink RX9 40 "NoonLawModel" "weights" "[I") (by decide +kernel)) rfl rfl hin rfl (by decide +kernel) rfl rfl (Nat.le_of_ble_eq_true rfl) dX9_init_89 (fun H locs hP hS => ?_)
  have hP : kb_P D b (kb_u G21 h0 (.inr (9, [.ref z, .ref (z + 1), .int 0, .ref (z + 2), .ref (z + 3), .ref (z + 4), .ref (z + 5), .ref (z + 6), .ref (z + 7), .ref (z + 8), .ref (z + 9), .int 0, .int 0, .int 0, .int 0, .int 0, .ref (z + 10), .null, .int 0, .int 0]))) (z + 11) H := hP
  obtain ⟨G22, eG22⟩ : ∃ q, q = kb_u G21 h0 (.inr (9, [.ref z, .ref (z + 1), .int 0, .ref (z + 2), .ref (z + 3), .ref (z + 4), .ref (z + 5), .ref (z + 6), .ref (z + 7), .ref (z + 8), .ref (z + 9), .int 0, .int 0, .int 0, .int 0, .int 0, .ref (z + 10), .null, .int 0, .int 0])) := ⟨_, rfl⟩
  rw [← eG22] at hP
  have hF : ∀ q : Nat, q ≠ h0 → q < z → G22 q = G q := fun q h1 h2 => by rw [eG22, kb_un h1]; exact hF q h1 h2
  have o1 : G22 z = .inl (cy 0, 399, .inl (fun _ => 0)) := by rw [eG22, kb_un (by omega)]; exact o1
  have o3 : G22 (z + 1) = .inl (cy 0, 399, .inl (fun _ => 0)) := by rw [eG22, kb_un (by omega)]; exact o3
  have o5 : G22 (z + 2) = .inl (cy 0, 7, .inl (fun _ => 0)) := by rw [eG22, kb_un (by omega)]; exact o5
  have o7 : G22 (z + 3) = .inl (cy 0, 4, .inl (fun _ => 0)) := by rw [eG22, kb_un (by omega)]; exact o7
  have o9 : G22 (z + 4) = .inl (cy 0, 4, .inl (fun _ => 0)) := by rw [eG22, kb_un (by omega)]; exact o9
  have o11 : G22 (z + 5) = .inl (cy 0, 96, .inl (fun _ => 0)) := by rw [eG22, kb_un (by omega)]; exact o11
  have o13 : G22 (z + 6) = .inl (cy 0, 60, .inl (fun _ => 0)) := by rw [eG22, kb_un (by omega)]; exact o13
  have o15 : G22 (z + 7) = .inl (cy 0, 60, .inl (fun _ => 0)) := by rw [eG22, kb_un (by omega)]; exact o15
  have o17 : G22 (z + 8) = .inl (cy 0, 3, .inl (fun _ => 0)) := by rw [eG22, kb_un (by omega)]; exact o17
  have o19 : G22 (z + 9) = .inl (cy 0, 60, .inl (fun _ => 0)) := by rw [eG22, kb_un (by omega)]; exact o19
  have o21 : G22 (z + 10) = .inl (cy 0, 2160, .inl (fun _ => 0)) := by rw [eG22, kb_un (by omega)]; exact o21
  have oh : G22 h0 = .inr (9, [.ref z, .ref (z + 1), .int 0, .ref (z + 2), .ref (z + 3), .ref (z + 4), .ref (z + 5), .ref (z + 6), .ref (z + 7), .ref (z + 8), .ref (z + 9), .int 0, .int 0, .int 0, .int 0, .int 0, .ref (z + 10), .null, .int 0, .int 0]) := by rw [eG22]; exact kb_us
  refine lv_aload_n hx hb dX9_init_92 rfl (lv_at hl 0 rfl) ?_
  refine lv_bipush (v := 30) hx hb dX9_init_93 (by decide) ?_
  refine kb_newa hx hb (hts (.arrayClass .int) (by decide +kernel)) 0 (ty := .int) rfl rfl (fun _ _ h => h) hK hP hS (n := 30) (N' := 30) rfl (by decide) (by decide) (Nat.le_of_ble_eq_true rfl) (Nat.le_of_ble_eq_true rfl) (Nat.le_of_ble_eq_true rfl) dX9_init_95 (fun H hP hS => ?_)
  obtain ⟨G23, eG23⟩ : ∃ q, q = kb_u G22 (z + 11) (.inl (cy 0, 30, .inl (fun _ => 0))) := ⟨_, rfl⟩
  rw [← eG23] at hP
  have hF : ∀ q : Nat, q ≠ h0 → q < z → G23 q = G q := fun q h1 h2 => by rw [eG23, kb_un (by omega)]; exact hF q h1 h2
  have o1 : G23 z = .inl (cy 0, 399, .inl (fun _ => 0)) := by rw [eG23, kb_un (by omega)]; exact o1
  have o3 : G23 (z + 1) = .inl (cy 0, 399, .inl (fun _ => 0)) := by rw [eG23, kb_un (by omega)]; exact o3
  have o5 : G23 (z + 2) = .inl (cy 0, 7, .inl (fun _ => 0)) := by rw [eG23, kb_un (by omega)]; exact o5
  have o7 : G23 (z + 3) = .inl (cy 0, 4, .inl (fun _ => 0)) := by rw [eG23, kb_un (by omega)]; exact o7
  have o9 : G23 (z + 4) = .inl (cy 0, 4, .inl (fun _ => 0)) := by rw [eG23, kb_un (by omega)]; exact o9
  have o11 : G23 (z + 5) = .inl (cy 0, 96, .inl (fun _ => 0)) := by rw [eG23, kb_un (by omega)]; exact o11
  have o13 : G23 (z + 6) = .inl (cy 0, 60, .inl (fun _ => 0)) := by rw [eG23, kb_un (by omega)]; exact o13
  have o15 : G23 (z + 7) = .inl (cy 0, 60, .inl (fun _ => 0)) := by rw [eG23, kb_un (by omega)]; exact o15
  have o17 : G23 (z + 8) = .inl (cy 0, 3, .inl (fun _ => 0)) := by rw [eG23, kb_un (by omega)]; exact o17
  have o19 : G23 (z + 9) = .inl (cy 0, 60, .inl (fun _ => 0)) := by rw [eG23, kb_un (by omega)]; exact o19
  have o21 : G23 (z + 10) = .inl (cy 0, 2160, .inl (fun _ => 0)) := by rw [eG23, kb_un (by omega)]; exact o21
  have oh : G23 h0 = .inr (9, [.ref z, .ref (z + 1), .int 0, .ref (z + 2), .ref (z + 3), .ref (z + 4), .ref (z + 5), .ref (z + 6), .ref (z + 7), .ref (z + 8), .ref (z + 9), .int 0, .int 0, .int 0, .int 0, .int 0, .ref (z + 10), .null, .int 0, .int 0]) := by rw [eG23, kb_un (by omega)]; exact oh
  have o23 : G23 (z + 11) = .inl (cy 0, 30, .inl (fun _ => 0)) := by rw [eG23]; exact kb_us
  have hP : kb_P D b G23 (z + 12) H := hP
  refine kb_putF (v := .ref (z + 11)) (ty := .array .int) hx hb hts hi9 tyX9 tyX9_ok nmX9 hown hK hP hS (by omega) (by omega) oh rfl 17 (by decide) (hts (.fieldLink RX9 43 "NoonLawModel" "trace" "[I") (by decide +kernel)) rfl rfl hin rfl (by decide +kernel) rfl rfl (Nat.le_of_ble_eq_true rfl) dX9_init_97 (fun H locs hP hS => ?_)
  have hP : kb_P D b (kb_u G23 h0 (.inr (9, [.ref z, .ref (z + 1), .int 0, .ref (z + 2), .ref (z + 3), .ref (z + 4), .ref (z + 5), .ref (z + 6), .ref (z + 7), .ref (z + 8), .ref (z + 9), .int 0, .int 0, .int 0, .int 0, .int 0, .ref (z + 10), .ref (z + 11), .int 0, .int 0]))) (z + 12) H := hP
  obtain ⟨G24, eG24⟩ : ∃ q, q = kb_u G23 h0 (.inr (9, [.ref z, .ref (z + 1), .int 0, .ref (z + 2), .ref (z + 3), .ref (z + 4), .ref (z + 5), .ref (z + 6), .ref (z + 7), .ref (z + 8), .ref (z + 9), .int 0, .int 0, .int 0, .int 0, .int 0, .ref (z + 10), .ref (z + 11), .int 0, .int 0])) := ⟨_, rfl⟩
  rw [← eG24] at hP
  have hF : ∀ q : Nat, q ≠ h0 → q < z → G24 q = G q := fun q h1 h2 => by rw [eG24, kb_un h1]; exact hF q h1 h2
  have o1 : G24 z = .inl (cy 0, 399, .inl (fun _ => 0)) := by rw [eG24, kb_un (by omega)]; exact o1
  have o3 : G24 (z + 1) = .inl (cy 0, 399, .inl (fun _ => 0)) := by rw [eG24, kb_un (by omega)]; exact o3
  have o5 : G24 (z + 2) = .inl (cy 0, 7, .inl (fun _ => 0)) := by rw [eG24, kb_un (by omega)]; exact o5
  have o7 : G24 (z + 3) = .inl (cy 0, 4, .inl (fun _ => 0)) := by rw [eG24, kb_un (by omega)]; exact o7
  have o9 : G24 (z + 4) = .inl (cy 0, 4, .inl (fun _ => 0)) := by rw [eG24, kb_un (by omega)]; exact o9
  have o11 : G24 (z + 5) = .inl (cy 0, 96, .inl (fun _ => 0)) := by rw [eG24, kb_un (by omega)]; exact o11
  have o13 : G24 (z + 6) = .inl (cy 0, 60, .inl (fun _ => 0)) := by rw [eG24, kb_un (by omega)]; exact o13
  have o15 : G24 (z + 7) = .inl (cy 0, 60, .inl (fun _ => 0)) := by rw [eG24, kb_un (by omega)]; exact o15
  have o17 : G24 (z + 8) = .inl (cy 0, 3, .inl (fun _ => 0)) := by rw [eG24, kb_un (by omega)]; exact o17
  have o19 : G24 (z + 9) = .inl (cy 0, 60, .inl (fun _ => 0)) := by rw [eG24, kb_un (by omega)]; exact o19
  have o21 : G24 (z + 10) = .inl (cy 0, 2160, .inl (fun _ => 0)) := by rw [eG24, kb_un (by omega)]; exact o21
  have o23 : G24 (z + 11) = .inl (cy 0, 30, .inl (fun _ => 0)) := by rw [eG24, kb_un (by omega)]; exact o23
  have oh : G24 h0 = .inr (9, [.ref z, .ref (z + 1), .int 0, .ref (z + 2), .ref (z + 3), .ref (z + 4), .ref (z + 5), .ref (z + 6), .ref (z + 7), .ref (z + 8), .ref (z + 9), .int 0, .int 0, .int 0, .int 0, .int 0, .ref (z + 10), .ref (z + 11), .int 0, .int 0]) := by rw [eG24]; exact kb_us
  refine lv_aload_n hx hb dX9_init_100 rfl (lv_at hl 0 rfl) ?_
  refine kb_get hx hb hts hi9 hown hK hP (by omega) (by omega) oh rfl 0 (by decide) (hts (.fieldLink RX9 9 "NoonLawModel" "row" "[I") (by decide +kernel)) rfl rfl dX9_init_101 ?_
  refine lv_iconst (v := 1) hx hb dX9_init_104 (by decide) ?_
  refine lv_iconst (v := 1) hx hb dX9_init_105 (by decide) ?_
  refine kb_iast hx hb hK hP hS (by omega) (by omega) o1 1 (by decide) (by decide) dX9_init_106 (fun H locs hP hS => ?_)
  obtain ⟨G25, eG25⟩ : ∃ q, q = kb_u G24 z (.inl (cy 0, 399, .inl (upd (fun _ => 0) 1 1))) := ⟨_, rfl⟩
  rw [← eG25] at hP
  have hF : ∀ q : Nat, q ≠ h0 → q < z → G25 q = G q := fun q h1 h2 => by rw [eG25, kb_un (by omega)]; exact hF q h1 h2
  have o3 : G25 (z + 1) = .inl (cy 0, 399, .inl (fun _ => 0)) := by rw [eG25, kb_un (by omega)]; exact o3
  have o5 : G25 (z + 2) = .inl (cy 0, 7, .inl (fun _ => 0)) := by rw [eG25, kb_un (by omega)]; exact o5
  have o7 : G25 (z + 3) = .inl (cy 0, 4, .inl (fun _ => 0)) := by rw [eG25, kb_un (by omega)]; exact o7
  have o9 : G25 (z + 4) = .inl (cy 0, 4, .inl (fun _ => 0)) := by rw [eG25, kb_un (by omega)]; exact o9
  have o11 : G25 (z + 5) = .inl (cy 0, 96, .inl (fun _ => 0)) := by rw [eG25, kb_un (by omega)]; exact o11
  have o13 : G25 (z + 6) = .inl (cy 0, 60, .inl (fun _ => 0)) := by rw [eG25, kb_un (by omega)]; exact o13
  have o15 : G25 (z + 7) = .inl (cy 0, 60, .inl (fun _ => 0)) := by rw [eG25, kb_un (by omega)]; exact o15
  have o17 : G25 (z + 8) = .inl (cy 0, 3, .inl (fun _ => 0)) := by rw [eG25, kb_un (by omega)]; exact o17
  have o19 : G25 (z + 9) = .inl (cy 0, 60, .inl (fun _ => 0)) := by rw [eG25, kb_un (by omega)]; exact o19
  have o21 : G25 (z + 10) = .inl (cy 0, 2160, .inl (fun _ => 0)) := by rw [eG25, kb_un (by omega)]; exact o21
  have o23 : G25 (z + 11) = .inl (cy 0, 30, .inl (fun _ => 0)) := by rw [eG25, kb_un (by omega)]; exact o23
  have oh : G25 h0 = .inr (9, [.ref z, .ref (z + 1), .int 0, .ref (z + 2), .ref (z + 3), .ref (z + 4), .ref (z + 5), .ref (z + 6), .ref (z + 7), .ref (z + 8), .ref (z + 9), .int 0, .int 0, .int 0, .int 0, .int 0, .ref (z + 10), .ref (z + 11), .int 0, .int 0]) := by rw [eG25, kb_un (by omega)]; exact oh
  have o1 : G25 z = .inl (cy 0, 399, .inl (upd (fun _ => 0) 1 1)) := by rw [eG25]; exact kb_us
  refine lv_aload_n hx hb dX9_init_107 rfl (lv_at hl 0 rfl) ?_
  refine kb_get hx hb hts hi9 hown hK hP (by omega) (by omega) oh rfl 0 (by decide) (hts (.fieldLink RX9 9 "NoonLawModel" "row" "[I") (by decide +kernel)) rfl rfl dX9_init_108 ?_
  refine lv_iconst (v := 4) hx hb dX9_init_111 (by decide) ?_
  refine lv_bipush (v := 22) hx hb dX9_init_112 (by decide) ?_
  refine kb_iast hx hb hK hP hS (by omega) (by omega) o1 4 (by decide) (by decide) dX9_init_114 (fun H locs hP hS => ?_)
  obtain ⟨G26, eG26⟩ : ∃ q, q = kb_u G25 z (.inl (cy 0, 399, .inl (upd (upd (fun _ => 0) 1 1) 4 22))) := ⟨_, rfl⟩
  rw [← eG26] at hP
  have hF : ∀ q : Nat, q ≠ h0 → q < z → G26 q = G q := fun q h1 h2 => by rw [eG26, kb_un (by omega)]; exact hF q h1 h2
  have o3 : G26 (z + 1) = .inl (cy 0, 399, .inl (fun _ => 0)) := by rw [eG26, kb_un (by omega)]; exact o3
  have o5 : G26 (z + 2) = .inl (cy 0, 7, .inl (fun _ => 0)) := by rw [eG26, kb_un (by omega)]; exact o5
  have o7 : G26 (z + 3) = .inl (cy 0, 4, .inl (fun _ => 0)) := by rw [eG26, kb_un (by omega)]; exact o7
  have o9 : G26 (z + 4) = .inl (cy 0, 4, .inl (fun _ => 0)) := by rw [eG26, kb_un (by omega)]; exact o9
  have o11 : G26 (z + 5) = .inl (cy 0, 96, .inl (fun _ => 0)) := by rw [eG26, kb_un (by omega)]; exact o11
  have o13 : G26 (z + 6) = .inl (cy 0, 60, .inl (fun _ => 0)) := by rw [eG26, kb_un (by omega)]; exact o13
  have o15 : G26 (z + 7) = .inl (cy 0, 60, .inl (fun _ => 0)) := by rw [eG26, kb_un (by omega)]; exact o15
  have o17 : G26 (z + 8) = .inl (cy 0, 3, .inl (fun _ => 0)) := by rw [eG26, kb_un (by omega)]; exact o17
  have o19 : G26 (z + 9) = .inl (cy 0, 60, .inl (fun _ => 0)) := by rw [eG26, kb_un (by omega)]; exact o19
  have o21 : G26 (z + 10) = .inl (cy 0, 2160, .inl (fun _ => 0)) := by rw [eG26, kb_un (by omega)]; exact o21
  have o23 : G26 (z + 11) = .inl (cy 0, 30, .inl (fun _ => 0)) := by rw [eG26, kb_un (by omega)]; exact o23
  have oh : G26 h0 = .inr (9, [.ref z, .ref (z + 1), .int 0, .ref (z + 2), .ref (z + 3), .ref (z + 4), .ref (z + 5), .ref (z + 6), .ref (z + 7), .ref (z + 8), .ref (z + 9), .int 0, .int 0, .int 0, .int 0, .int 0, .ref (z + 10), .ref (z + 11), .int 0, .int 0]) := by rw [eG26, kb_un (by omega)]; exact oh
  have o1 : G26 z = .inl (cy 0, 399, .inl (upd (upd (fun _ => 0) 1 1) 4 22)) := by rw [eG26]; exact kb_us
  exact kb_vret hx hb hr hlocks hK hP hS dX9_init_115 ⟨⟨oh, o1, o3, o5, o7, o9, o11, o13, o15, o17, o19, o21, o23⟩, hF⟩

/-- a realm at h whose cells lie from z on -/
def kb_R (cy : Nat → ClassId) (G : Nat → va_E) (h z : Nat) : Prop := G h = .inr (2, [.int 0, .int 22, .int 1, .ref z, .int 0, .ref (z + 1), .int 0, .ref (z + 2), .ref (z + 3), .int 0, .ref (z + 4), .int 0]) ∧ (∃ f, G z = .inl (cy 2, 9, .inr (.inr (.inr (.inr f)))) ∧ ∀ j : Nat, j < 9 → f j = some (z + 5 + j)) ∧ (∃ f, G (z + 1) = .inl (cy 3, 6, .inr (.inr (.inr (.inr f)))) ∧ ∀ j : Nat, j < 6 → f j = some (z + 14 + j)) ∧ (∃ f, G (z + 2) = .inl (cy 4, 2, .inr (.inr (.inr (.inr f)))) ∧ ∀ j : Nat, j < 2 → f j = some (z + 20 + 3 * j)) ∧ G (z + 3) = .inl (cy 1, 60, .inl (fun _ => 0)) ∧ G (z + 4) = .inl (cy 0, 24, .inl (fun _ => 0)) ∧ (∀ j : Nat, j < 9 → G (z + 5 + j) = .inr (0, [.int 0, .int 0, .int 0, .int 0, .int 0, .int 0])) ∧ (∀ j : Nat, j < 6 → G (z + 14 + j) = .inr (1, [.int 0, .int 0])) ∧ ∀ j : Nat, j < 2 → G (z + 20 + 3 * j) = .inr (6, [.int 0, .int 0, .ref (z + 20 + 3 * j + 1), .ref (z + 20 + 3 * j + 2)]) ∧ G (z + 20 + 3 * j + 1) = .inl (cy 0, 60, .inl (fun _ => 0)) ∧ G (z + 20 + 3 * j + 2) = .inl (cy 0, 60, .inl (fun _ => 0))
theorem kb_R.keep {cy : Nat → ClassId} {G G1 : Nat → va_E} {h z : Nat} (w : kb_R cy G h z) (e : ∀ q : Nat, q = h ∨ (z ≤ q ∧ q < z + 26) → G1 q = G q) : kb_R cy G1 h z := by
  obtain ⟨a0, ⟨f1, a1, b1⟩, ⟨f2, a2, b2⟩, ⟨f3, a3, b3⟩, a4, a5, a6, a7, a8⟩ := w
  refine ⟨by rw [e _ (Or.inl rfl)]; exact a0, ⟨f1, by rw [e _ (by omega)]; exact a1, b1⟩, ⟨f2, by rw [e _ (by omega)]; exact a2, b2⟩, ⟨f3, by rw [e _ (by omega)]; exact a3, b3⟩, by rw [e _ (by omega)]; exact a4, by rw [e _ (by omega)]; exact a5, fun j hj => by rw [e _ (by omega)]; exact a6 j hj, fun j hj => by rw [e _ (by omega)]; exact a7 j hj, fun j hj => ?_⟩
  obtain ⟨q1, q2, q3⟩ := a8 j hj
  exact ⟨by rw [e _ (by omega)]; exact q1, by rw [e _ (by omega)]; exact q2, by rw [e _ (by omega)]; exact q3⟩

set_option maxRecDepth 20000 in
theorem ggX2_init_X0_init : GoodIn wsX2_init wsX0_init := goodIn_r _ [23, 24, 2, 3] (by decide +kernel) (by decide +kernel)
set_option maxRecDepth 20000 in
theorem gX2_init_X0_init_n44 : GoodIn wsX2_init (wsX0_init) := ggX2_init_X0_init
set_option maxRecDepth 20000 in
theorem ggX2_init_X1_init : GoodIn wsX2_init wsX1_init := goodIn_r _ [26, 27, 2, 3] (by decide +kernel) (by decide +kernel)
set_option maxRecDepth 20000 in
theorem gX2_init_X1_init_n45 : GoodIn wsX2_init (wsX1_init) := ggX2_init_X1_init
set_option maxRecDepth 20000 in
theorem ggX2_init_X6_init : GoodIn wsX2_init wsX6_init := goodIn_r _ [29, 30, 2, 3, 14, 31, 32, 53, 54, 55, 56] (by decide +kernel) (by decide +kernel)
set_option maxRecDepth 20000 in
theorem gX2_init_X6_init_n46 : GoodIn wsX2_init (wsX6_init) := ggX2_init_X6_init
set_option maxHeartbeats 8000000 in
set_option maxRecDepth 100000 in
theorem c_X2_init (l : Launch) (D : va_G) (cy : Nat → ClassId) (b : Nat) (G : Nat → va_E) (z h0 : Nat) (hb0 : b ≤ h0) (hz0 : h0 < z) (oh : G h0 = .inr (2, [.int 0, .int 0, .int 0, .null, .int 0, .null, .int 0, .null, .null, .int 0, .null, .int 0])) : Met l yX2_init wsX2_init ({ frames := 2, cells := 26, slots := 415, locals := 32 }) (va_Pc [.ref h0] (kb_B D cy b G z)) (va_Qv (fun G1 => (kb_R cy G1 h0 z) ∧ ∀ q : Nat, q ≠ h0 → q < z → G1 q = G q) (fun G1 => kb_B D cy b G1 (z + 26)) (fun q : Nat => b ≤ q)) 26 415 (fun q : Nat => b ≤ q) := by
  refine kb_met (cc := cX2_init) (maxL := 2) (by decide) rfl (Nat.le_of_ble_eq_true rfl) ?_
  intro p e s m args below meth c ls hx hb hr hts hown hlocks hml hin hK hP hS hl
  have hl : lv_has ls 2 [(0, .ref h0)] := hl
  have hown : s.vm.findClass RX2 = some m.cls := hown
  have hin : meth.name = "<init>" := hin
  have hF : ∀ q : Nat, q ≠ h0 → q < z → G q = G q := fun _ _ _ => rfl
  generalize hlocs0 : ([] : List Loc) = locs at hS ⊢
  have hi0 : ∀ w ∈ wsX00, w ∈ wsX2_init := by decide +kernel
  have hi1 : ∀ w ∈ wsX10, w ∈ wsX2_init := by decide +kernel
  have hi2 : ∀ w ∈ wsX20, w ∈ wsX2_init := by decide +kernel
  have hi6 : ∀ w ∈ wsX60, w ∈ wsX2_init := by decide +kernel
  refine lv_aload_n hx hb dX2_init_0 rfl (lv_at hl 0 rfl) ?_
  refine W.objInit hx hb hown (hts (.methodLink RX2 3 objectInit) (by decide +kernel)) (hts (.instanceMethod objectInit) (by decide +kernel)) (hts (.code objectInit ⟨#[0xb1]⟩ 1 none) (by decide +kernel)) rfl (by rw [hml]; exact hl.1) rfl dX2_init_1 (Nat.le_of_ble_eq_true rfl) (Nat.le_of_ble_eq_true rfl) ?_
  refine W.eq (g2 := F0 m 4 ls []) rfl ?_
  refine lv_aload_n hx hb dX2_init_4 rfl (lv_at hl 0 rfl) ?_
  refine lv_bipush (v := 22) hx hb dX2_init_5 (by decide) ?_
  refine kb_puti (v := .int 22) (ty := .int) hx hb hts hi2 tyX2 tyX2_ok nmX2 hown hK hP hS (by omega) (by omega) oh rfl 1 (by decide) (hts (.fieldLink RX2 9 "NoonLaw$Realm" "sleep" "I") (by decide +kernel)) rfl rfl (by decide +kernel) rfl rfl (Nat.le_of_ble_eq_true rfl) dX2_init_7 (fun H locs hP hS => ?_)
  have hP : kb_P D b (kb_u G h0 (.inr (2, [.int 0, .int 22, .int 0, .null, .int 0, .null, .int 0, .null, .null, .int 0, .null, .int 0]))) (z) H := hP
  obtain ⟨G1, eG1⟩ : ∃ q, q = kb_u G h0 (.inr (2, [.int 0, .int 22, .int 0, .null, .int 0, .null, .int 0, .null, .null, .int 0, .null, .int 0])) := ⟨_, rfl⟩
  rw [← eG1] at hP
  have hF : ∀ q : Nat, q ≠ h0 → q < z → G1 q = G q := fun q h1 h2 => by rw [eG1, kb_un h1]; exact hF q h1 h2
  have oh : G1 h0 = .inr (2, [.int 0, .int 22, .int 0, .null, .int 0, .null, .int 0, .null, .null, .int 0, .null, .int 0]) := by rw [eG1]; exact kb_us
  refine lv_aload_n hx hb dX2_init_10 rfl (lv_at hl 0 rfl) ?_
  refine lv_iconst (v := 1) hx hb dX2_init_11 (by decide) ?_
  refine kb_puti (v := .int 1) (ty := .int) hx hb hts hi2 tyX2 tyX2_ok nmX2 hown hK hP hS (by omega) (by omega) oh rfl 2 (by decide) (hts (.fieldLink RX2 15 "NoonLaw$Realm" "z" "I") (by decide +kernel)) rfl rfl (by decide +kernel) rfl rfl (Nat.le_of_ble_eq_true rfl) dX2_init_12 (fun H locs hP hS => ?_)
  have hP : kb_P D b (kb_u G1 h0 (.inr (2, [.int 0, .int 22, .int 1, .null, .int 0, .null, .int 0, .null, .null, .int 0, .null, .int 0]))) (z) H := hP
  obtain ⟨G2, eG2⟩ : ∃ q, q = kb_u G1 h0 (.inr (2, [.int 0, .int 22, .int 1, .null, .int 0, .null, .int 0, .null, .null, .int 0, .null, .int 0])) := ⟨_, rfl⟩
  rw [← eG2] at hP
  have hF : ∀ q : Nat, q ≠ h0 → q < z → G2 q = G q := fun q h1 h2 => by rw [eG2, kb_un h1]; exact hF q h1 h2
  have oh : G2 h0 = .inr (2, [.int 0, .int 22, .int 1, .null, .int 0, .null, .int 0, .null, .null, .int 0, .null, .int 0]) := by rw [eG2]; exact kb_us
  refine lv_aload_n hx hb dX2_init_15 rfl (lv_at hl 0 rfl) ?_
  refine lv_bipush (v := 9) hx hb dX2_init_16 (by decide) ?_
  refine kb_newq (C := RX0) hx hb hown (hts (.classLink RX2 18 RX0) (by decide +kernel)) hK.2.1 2 rfl hK hP hS (n := 9) (N' := 9) (by decide) (by decide) (Nat.le_of_ble_eq_true rfl) (Nat.le_of_ble_eq_true rfl) (Nat.le_of_ble_eq_true rfl) dX2_init_18 (fun H hP hS => ?_)
  obtain ⟨G3, eG3⟩ : ∃ q, q = kb_u G2 z (.inl (cy 2, 9, .inr (.inr (.inr (.inr (fun _ => none)))))) := ⟨_, rfl⟩
  rw [← eG3] at hP
  have hF : ∀ q : Nat, q ≠ h0 → q < z → G3 q = G q := fun q h1 h2 => by rw [eG3, kb_un (by omega)]; exact hF q h1 h2
  have oh : G3 h0 = .inr (2, [.int 0, .int 22, .int 1, .null, .int 0, .null, .int 0, .null, .null, .int 0, .null, .int 0]) := by rw [eG3, kb_un (by omega)]; exact oh
  have o3 : G3 z = .inl (cy 2, 9, .inr (.inr (.inr (.inr (fun _ => none))))) := by rw [eG3]; exact kb_us
  have hP : kb_P D b G3 (z + 1) H := hP
  refine kb_putF (v := .ref z) (ty := .array (.object "NoonLaw$Dream")) hx hb hts hi2 tyX2 tyX2_ok nmX2 hown hK hP hS (by omega) (by omega) oh rfl 3 (by decide) (hts (.fieldLink RX2 20 "NoonLaw$Realm" "dreams" "[LNoonLaw$Dream;") (by decide +kernel)) rfl rfl hin rfl (by decide +kernel) rfl rfl (Nat.le_of_ble_eq_true rfl) dX2_init_21 (fun H locs hP hS => ?_)
  have hP : kb_P D b (kb_u G3 h0 (.inr (2, [.int 0, .int 22, .int 1, .ref z, .int 0, .null, .int 0, .null, .null, .int 0, .null, .int 0]))) (z + 1) H := hP
  obtain ⟨G4, eG4⟩ : ∃ q, q = kb_u G3 h0 (.inr (2, [.int 0, .int 22, .int 1, .ref z, .int 0, .null, .int 0, .null, .null, .int 0, .null, .int 0])) := ⟨_, rfl⟩
  rw [← eG4] at hP
  have hF : ∀ q : Nat, q ≠ h0 → q < z → G4 q = G q := fun q h1 h2 => by rw [eG4, kb_un h1]; exact hF q h1 h2
  have o3 : G4 z = .inl (cy 2, 9, .inr (.inr (.inr (.inr (fun _ => none))))) := by rw [eG4, kb_un (by omega)]; exact o3
  have oh : G4 h0 = .inr (2, [.int 0, .int 22, .int 1, .ref z, .int 0, .null, .int 0, .null, .null, .int 0, .null, .int 0]) := by rw [eG4]; exact kb_us
  refine lv_aload_n hx hb dX2_init_24 rfl (lv_at hl 0 rfl) ?_
  refine lv_bipush (v := 6) hx hb dX2_init_25 (by decide) ?_
  refine kb_newq (C := RX1) hx hb hown (hts (.classLink RX2 24 RX1) (by decide +kernel)) hK.2.2.1 3 rfl hK hP hS (n := 6) (N' := 6) (by decide) (by decide) (Nat.le_of_ble_eq_true rfl) (Nat.le_of_ble_eq_true rfl) (Nat.le_of_ble_eq_true rfl) dX2_init_27 (fun H hP hS => ?_)
  obtain ⟨G5, eG5⟩ : ∃ q, q = kb_u G4 (z + 1) (.inl (cy 3, 6, .inr (.inr (.inr (.inr (fun _ => none)))))) := ⟨_, rfl⟩
  rw [← eG5] at hP
  have hF : ∀ q : Nat, q ≠ h0 → q < z → G5 q = G q := fun q h1 h2 => by rw [eG5, kb_un (by omega)]; exact hF q h1 h2
  have o3 : G5 z = .inl (cy 2, 9, .inr (.inr (.inr (.inr (fun _ => none))))) := by rw [eG5, kb_un (by omega)]; exact o3
  have oh : G5 h0 = .inr (2, [.int 0, .int 22, .int 1, .ref z, .int 0, .null, .int 0, .null, .null, .int 0, .null, .int 0]) := by rw [eG5, kb_un (by omega)]; exact oh
  have o5 : G5 (z + 1) = .inl (cy 3, 6, .inr (.inr (.inr (.inr (fun _ => none))))) := by rw [eG5]; exact kb_us
  have hP : kb_P D b G5 (z + 2) H := hP
  refine kb_putF (v := .ref (z + 1)) (ty := .array (.object "NoonLaw$Person")) hx hb hts hi2 tyX2 tyX2_ok nmX2 hown hK hP hS (by omega) (by omega) oh rfl 5 (by decide) (hts (.fieldLink RX2 26 "NoonLaw$Realm" "people" "[LNoonLaw$Person;") (by decide +kernel)) rfl rfl hin rfl (by decide +kernel) rfl rfl (Nat.le_of_ble_eq_true rfl) dX2_init_30 (fun H locs hP hS => ?_)
  have hP : kb_P D b (kb_u G5 h0 (.inr (2, [.int 0, .int 22, .int 1, .ref z, .int 0, .ref (z + 1), .int 0, .null, .null, .int 0, .null, .int 0]))) (z + 2) H := hP
  obtain ⟨G6, eG6⟩ : ∃ q, q = kb_u G5 h0 (.inr (2, [.int 0, .int 22, .int 1, .ref z, .int 0, .ref (z + 1), .int 0, .null, .null, .int 0, .null, .int 0])) := ⟨_, rfl⟩
  rw [← eG6] at hP
  have hF : ∀ q : Nat, q ≠ h0 → q < z → G6 q = G q := fun q h1 h2 => by rw [eG6, kb_un h1]; exact hF q h1 h2
  have o3 : G6 z = .inl (cy 2, 9, .inr (.inr (.inr (.inr (fun _ => none))))) := by rw [eG6, kb_un (by omega)]; exact o3
  have o5 : G6 (z + 1) = .inl (cy 3, 6, .inr (.inr (.inr (.inr (fun _ => none))))) := by rw [eG6, kb_un (by omega)]; exact o5
  have oh : G6 h0 = .inr (2, [.int 0, .int 22, .int 1, .ref z, .int 0, .ref (z + 1), .int 0, .null, .null, .int 0, .null, .int 0]) := by rw [eG6]; exact kb_us
  refine lv_aload_n hx hb dX2_init_33 rfl (lv_at hl 0 rfl) ?_
  refine lv_iconst (v := 2) hx hb dX2_init_34 (by decide) ?_
  refine kb_newq (C := RX6) hx hb hown (hts (.classLink RX2 30 RX6) (by decide +kernel)) hK.2.2.2.1 4 rfl hK hP hS (n := 2) (N' := 2) (by decide) (by decide) (Nat.le_of_ble_eq_true rfl) (Nat.le_of_ble_eq_true rfl) (Nat.le_of_ble_eq_true rfl) dX2_init_35 (fun H hP hS => ?_)
  obtain ⟨G7, eG7⟩ : ∃ q, q = kb_u G6 (z + 2) (.inl (cy 4, 2, .inr (.inr (.inr (.inr (fun _ => none)))))) := ⟨_, rfl⟩
  rw [← eG7] at hP
  have hF : ∀ q : Nat, q ≠ h0 → q < z → G7 q = G q := fun q h1 h2 => by rw [eG7, kb_un (by omega)]; exact hF q h1 h2
  have o3 : G7 z = .inl (cy 2, 9, .inr (.inr (.inr (.inr (fun _ => none))))) := by rw [eG7, kb_un (by omega)]; exact o3
  have o5 : G7 (z + 1) = .inl (cy 3, 6, .inr (.inr (.inr (.inr (fun _ => none))))) := by rw [eG7, kb_un (by omega)]; exact o5
  have oh : G7 h0 = .inr (2, [.int 0, .int 22, .int 1, .ref z, .int 0, .ref (z + 1), .int 0, .null, .null, .int 0, .null, .int 0]) := by rw [eG7, kb_un (by omega)]; exact oh
  have o7 : G7 (z + 2) = .inl (cy 4, 2, .inr (.inr (.inr (.inr (fun _ => none))))) := by rw [eG7]; exact kb_us
  have hP : kb_P D b G7 (z + 3) H := hP
  refine kb_putF (v := .ref (z + 2)) (ty := .array (.object "NoonLaw$Text")) hx hb hts hi2 tyX2 tyX2_ok nmX2 hown hK hP hS (by omega) (by omega) oh rfl 7 (by decide) (hts (.fieldLink RX2 32 "NoonLaw$Realm" "texts" "[LNoonLaw$Text;") (by decide +kernel)) rfl rfl hin rfl (by decide +kernel) rfl rfl (Nat.le_of_ble_eq_true rfl) dX2_init_38 (fun H locs hP hS => ?_)
  have hP : kb_P D b (kb_u G7 h0 (.inr (2, [.int 0, .int 22, .int 1, .ref z, .int 0, .ref (z + 1), .int 0, .ref (z + 2), .null, .int 0, .null, .int 0]))) (z + 3) H := hP
  obtain ⟨G8, eG8⟩ : ∃ q, q = kb_u G7 h0 (.inr (2, [.int 0, .int 22, .int 1, .ref z, .int 0, .ref (z + 1), .int 0, .ref (z + 2), .null, .int 0, .null, .int 0])) := ⟨_, rfl⟩
  rw [← eG8] at hP
  have hF : ∀ q : Nat, q ≠ h0 → q < z → G8 q = G q := fun q h1 h2 => by rw [eG8, kb_un h1]; exact hF q h1 h2
  have o3 : G8 z = .inl (cy 2, 9, .inr (.inr (.inr (.inr (fun _ => none))))) := by rw [eG8, kb_un (by omega)]; exact o3
  have o5 : G8 (z + 1) = .inl (cy 3, 6, .inr (.inr (.inr (.inr (fun _ => none))))) := by rw [eG8, kb_un (by omega)]; exact o5
  have o7 : G8 (z + 2) = .inl (cy 4, 2, .inr (.inr (.inr (.inr (fun _ => none))))) := by rw [eG8, kb_un (by omega)]; exact o7
  have oh : G8 h0 = .inr (2, [.int 0, .int 22, .int 1, .ref z, .int 0, .ref (z + 1), .int 0, .ref (z + 2), .null, .int 0, .null, .int 0]) := by rw [eG8]; exact kb_us
  refine lv_aload_n hx hb dX2_init_41 rfl (lv_at hl 0 rfl) ?_
  refine lv_bipush (v := 60) hx hb dX2_init_42 (by decide) ?_
  refine kb_newa hx hb (hts (.arrayClass .byte) (by decide +kernel)) 1 (ty := .byte) rfl rfl (fun _ _ h => h) hK hP hS (n := 60) (N' := 60) rfl (by decide) (by decide) (Nat.le_of_ble_eq_true rfl) (Nat.le_of_ble_eq_true rfl) (Nat.le_of_ble_eq_true rfl) dX2_init_44 (fun H hP hS => ?_)
  obtain ⟨G9, eG9⟩ : ∃ q, q = kb_u G8 (z + 3) (.inl (cy 1, 60, .inl (fun _ => 0))) := ⟨_, rfl⟩
  rw [← eG9] at hP
  have hF : ∀ q : Nat, q ≠ h0 → q < z → G9 q = G q := fun q h1 h2 => by rw [eG9, kb_un (by omega)]; exact hF q h1 h2
  have o3 : G9 z = .inl (cy 2, 9, .inr (.inr (.inr (.inr (fun _ => none))))) := by rw [eG9, kb_un (by omega)]; exact o3
  have o5 : G9 (z + 1) = .inl (cy 3, 6, .inr (.inr (.inr (.inr (fun _ => none))))) := by rw [eG9, kb_un (by omega)]; exact o5
  have o7 : G9 (z + 2) = .inl (cy 4, 2, .inr (.inr (.inr (.inr (fun _ => none))))) := by rw [eG9, kb_un (by omega)]; exact o7
  have oh : G9 h0 = .inr (2, [.int 0, .int 22, .int 1, .ref z, .int 0, .ref (z + 1), .int 0, .ref (z + 2), .null, .int 0, .null, .int 0]) := by rw [eG9, kb_un (by omega)]; exact oh
  have o9 : G9 (z + 3) = .inl (cy 1, 60, .inl (fun _ => 0)) := by rw [eG9]; exact kb_us
  have hP : kb_P D b G9 (z + 4) H := hP
  refine kb_putF (v := .ref (z + 3)) (ty := .array .byte) hx hb hts hi2 tyX2 tyX2_ok nmX2 hown hK hP hS (by omega) (by omega) oh rfl 8 (by decide) (hts (.fieldLink RX2 36 "NoonLaw$Realm" "tape" "[B") (by decide +kernel)) rfl rfl hin rfl (by decide +kernel) rfl rfl (Nat.le_of_ble_eq_true rfl) dX2_init_46 (fun H locs hP hS => ?_)
  have hP : kb_P D b (kb_u G9 h0 (.inr (2, [.int 0, .int 22, .int 1, .ref z, .int 0, .ref (z + 1), .int 0, .ref (z + 2), .ref (z + 3), .int 0, .null, .int 0]))) (z + 4) H := hP
  obtain ⟨G10, eG10⟩ : ∃ q, q = kb_u G9 h0 (.inr (2, [.int 0, .int 22, .int 1, .ref z, .int 0, .ref (z + 1), .int 0, .ref (z + 2), .ref (z + 3), .int 0, .null, .int 0])) := ⟨_, rfl⟩
  rw [← eG10] at hP
  have hF : ∀ q : Nat, q ≠ h0 → q < z → G10 q = G q := fun q h1 h2 => by rw [eG10, kb_un h1]; exact hF q h1 h2
  have o3 : G10 z = .inl (cy 2, 9, .inr (.inr (.inr (.inr (fun _ => none))))) := by rw [eG10, kb_un (by omega)]; exact o3
  have o5 : G10 (z + 1) = .inl (cy 3, 6, .inr (.inr (.inr (.inr (fun _ => none))))) := by rw [eG10, kb_un (by omega)]; exact o5
  have o7 : G10 (z + 2) = .inl (cy 4, 2, .inr (.inr (.inr (.inr (fun _ => none))))) := by rw [eG10, kb_un (by omega)]; exact o7
  have o9 : G10 (z + 3) = .inl (cy 1, 60, .inl (fun _ => 0)) := by rw [eG10, kb_un (by omega)]; exact o9
  have oh : G10 h0 = .inr (2, [.int 0, .int 22, .int 1, .ref z, .int 0, .ref (z + 1), .int 0, .ref (z + 2), .ref (z + 3), .int 0, .null, .int 0]) := by rw [eG10]; exact kb_us
  refine lv_aload_n hx hb dX2_init_49 rfl (lv_at hl 0 rfl) ?_
  refine lv_bipush (v := 24) hx hb dX2_init_50 (by decide) ?_
  refine kb_newa hx hb (hts (.arrayClass .int) (by decide +kernel)) 0 (ty := .int) rfl rfl (fun _ _ h => h) hK hP hS (n := 24) (N' := 24) rfl (by decide) (by decide) (Nat.le_of_ble_eq_true rfl) (Nat.le_of_ble_eq_true rfl) (Nat.le_of_ble_eq_true rfl) dX2_init_52 (fun H hP hS => ?_)
  obtain ⟨G11, eG11⟩ : ∃ q, q = kb_u G10 (z + 4) (.inl (cy 0, 24, .inl (fun _ => 0))) := ⟨_, rfl⟩
  rw [← eG11] at hP
  have hF : ∀ q : Nat, q ≠ h0 → q < z → G11 q = G q := fun q h1 h2 => by rw [eG11, kb_un (by omega)]; exact hF q h1 h2
  have o3 : G11 z = .inl (cy 2, 9, .inr (.inr (.inr (.inr (fun _ => none))))) := by rw [eG11, kb_un (by omega)]; exact o3
  have o5 : G11 (z + 1) = .inl (cy 3, 6, .inr (.inr (.inr (.inr (fun _ => none))))) := by rw [eG11, kb_un (by omega)]; exact o5
  have o7 : G11 (z + 2) = .inl (cy 4, 2, .inr (.inr (.inr (.inr (fun _ => none))))) := by rw [eG11, kb_un (by omega)]; exact o7
  have o9 : G11 (z + 3) = .inl (cy 1, 60, .inl (fun _ => 0)) := by rw [eG11, kb_un (by omega)]; exact o9
  have oh : G11 h0 = .inr (2, [.int 0, .int 22, .int 1, .ref z, .int 0, .ref (z + 1), .int 0, .ref (z + 2), .ref (z + 3), .int 0, .null, .int 0]) := by rw [eG11, kb_un (by omega)]; exact oh
  have o11 : G11 (z + 4) = .inl (cy 0, 24, .inl (fun _ => 0)) := by rw [eG11]; exact kb_us
  have hP : kb_P D b G11 (z + 5) H := hP
  refine kb_putF (v := .ref (z + 4)) (ty := .array .int) hx hb hts hi2 tyX2 tyX2_ok nmX2 hown hK hP hS (by omega) (by omega) oh rfl 10 (by decide) (hts (.fieldLink RX2 40 "NoonLaw$Realm" "waiting" "[I") (by decide +kernel)) rfl rfl hin rfl (by decide +kernel) rfl rfl (Nat.le_of_ble_eq_true rfl) dX2_init_54 (fun H locs hP hS => ?_)
  have hP : kb_P D b (kb_u G11 h0 (.inr (2, [.int 0, .int 22, .int 1, .ref z, .int 0, .ref (z + 1), .int 0, .ref (z + 2), .ref (z + 3), .int 0, .ref (z + 4), .int 0]))) (z + 5) H := hP
  obtain ⟨G12, eG12⟩ : ∃ q, q = kb_u G11 h0 (.inr (2, [.int 0, .int 22, .int 1, .ref z, .int 0, .ref (z + 1), .int 0, .ref (z + 2), .ref (z + 3), .int 0, .ref (z + 4), .int 0])) := ⟨_, rfl⟩
  rw [← eG12] at hP
  have hF : ∀ q : Nat, q ≠ h0 → q < z → G12 q = G q := fun q h1 h2 => by rw [eG12, kb_un h1]; exact hF q h1 h2
  have o3 : G12 z = .inl (cy 2, 9, .inr (.inr (.inr (.inr (fun _ => none))))) := by rw [eG12, kb_un (by omega)]; exact o3
  have o5 : G12 (z + 1) = .inl (cy 3, 6, .inr (.inr (.inr (.inr (fun _ => none))))) := by rw [eG12, kb_un (by omega)]; exact o5
  have o7 : G12 (z + 2) = .inl (cy 4, 2, .inr (.inr (.inr (.inr (fun _ => none))))) := by rw [eG12, kb_un (by omega)]; exact o7
  have o9 : G12 (z + 3) = .inl (cy 1, 60, .inl (fun _ => 0)) := by rw [eG12, kb_un (by omega)]; exact o9
  have o11 : G12 (z + 4) = .inl (cy 0, 24, .inl (fun _ => 0)) := by rw [eG12, kb_un (by omega)]; exact o11
  have oh : G12 h0 = .inr (2, [.int 0, .int 22, .int 1, .ref z, .int 0, .ref (z + 1), .int 0, .ref (z + 2), .ref (z + 3), .int 0, .ref (z + 4), .int 0]) := by rw [eG12]; exact kb_us
  refine lv_iconst (v := 0) hx hb dX2_init_57 (by decide) ?_
  refine lv_istore_n (lv' := [(1, .int 0), (0, .ref h0)]) hx hb dX2_init_58 rfl hl (by decide) rfl (fun ls hl => ?_)
  refine lv_iload_n hx hb dX2_init_59 rfl (lv_at hl 0 rfl) ?_
  refine lv_bipush (v := 9) hx hb dX2_init_60 (by decide) ?_
  refine lv_icmp_ge (tgt := 84) hx hb dX2_init_62 (by decide) (fun c13 => absurd c13 (by decide)) (fun c13 => ?_)
  refine lv_aload_n hx hb dX2_init_65 rfl (lv_at hl 1 rfl) ?_
  refine kb_get hx hb hts hi2 hown hK hP (by omega) (by omega) oh rfl 3 (by decide) (hts (.fieldLink RX2 20 "NoonLaw$Realm" "dreams" "[LNoonLaw$Dream;") (by decide +kernel)) rfl rfl dX2_init_66 ?_
  refine lv_iload_n hx hb dX2_init_69 rfl (lv_at hl 0 rfl) ?_
  refine kb_new (C := RX0) (T := TX0) (N := 6) hx hb hts hi0 tyX0 tyX0_ok hown (hts (.classLink RX2 18 RX0) (by decide +kernel)) (hts (.instantiable RX0 6) (by decide +kernel)) (hts (.initialized RX0) (by decide +kernel)) hK hP hS (ci := 0) rfl [.int 0, .int 0, .int 0, .int 0, .int 0, .int 0] (fun j hj => by rcases (show j = 0 ∨ j = 1 ∨ j = 2 ∨ j = 3 ∨ j = 4 ∨ j = 5 by omega) with rfl | rfl | rfl | rfl | rfl | rfl <;> rfl) (Nat.le_of_ble_eq_true rfl) (Nat.le_of_ble_eq_true rfl) dX2_init_70 (fun H hP hS => ?_)
  obtain ⟨G14, eG14⟩ : ∃ q, q = kb_u G12 (z + 5) (.inr (0, [.int 0, .int 0, .int 0, .int 0, .int 0, .int 0])) := ⟨_, rfl⟩
  rw [← eG14] at hP
  have hF : ∀ q : Nat, q ≠ h0 → q < z → G14 q = G q := fun q h1 h2 => by rw [eG14, kb_un (by omega)]; exact hF q h1 h2
  have o3 : G14 z = .inl (cy 2, 9, .inr (.inr (.inr (.inr (fun _ => none))))) := by rw [eG14, kb_un (by omega)]; exact o3
  have o5 : G14 (z + 1) = .inl (cy 3, 6, .inr (.inr (.inr (.inr (fun _ => none))))) := by rw [eG14, kb_un (by omega)]; exact o5
  have o7 : G14 (z + 2) = .inl (cy 4, 2, .inr (.inr (.inr (.inr (fun _ => none))))) := by rw [eG14, kb_un (by omega)]; exact o7
  have o9 : G14 (z + 3) = .inl (cy 1, 60, .inl (fun _ => 0)) := by rw [eG14, kb_un (by omega)]; exact o9
  have o11 : G14 (z + 4) = .inl (cy 0, 24, .inl (fun _ => 0)) := by rw [eG14, kb_un (by omega)]; exact o11
  have oh : G14 h0 = .inr (2, [.int 0, .int 22, .int 1, .ref z, .int 0, .ref (z + 1), .int 0, .ref (z + 2), .ref (z + 3), .int 0, .ref (z + 4), .int 0]) := by rw [eG14, kb_un (by omega)]; exact oh
  have o14 : G14 (z + 5) = .inr (0, [.int 0, .int 0, .int 0, .int 0, .int 0, .int 0]) := by rw [eG14]; exact kb_us
  have hP : kb_P D b G14 (z + 6) H := hP
  refine lv_dup hx hb dX2_init_73 rfl ?_
  refine kb_callN (rest := [.ref (z + 5), .int 0, .ref z]) ⟨hx, hb, hml, hown, hts⟩ hK hP hS (c_X0_init l D cy b G14 (z + 6) (z + 5) (by omega) (by omega) o14) ⟨va_cnB 0 hts gX2_init_X0_init_n44 rfl rfl rfl (hK.2.2.2.2.2.1) (hts (.initialized RX0) (by decide +kernel)) (by decide +kernel) ⟨Nat.le_of_ble_eq_true rfl, Nat.le_of_ble_eq_true rfl⟩, rfl, hts (.instanceMethod yX0_init) (by decide +kernel)⟩ hl.1 (Nat.le_of_ble_eq_true rfl) dX2_init_74 ⟨Nat.le_of_ble_eq_true rfl, Nat.le_of_ble_eq_true rfl⟩ (fun G15 H locs w15 hP hS => ?_)
  obtain ⟨w15a, w15⟩ := w15
  have o3 : G15 z = .inl (cy 2, 9, .inr (.inr (.inr (.inr (fun _ => none))))) := (w15 _ (by omega) (by omega)).trans o3
  have o5 : G15 (z + 1) = .inl (cy 3, 6, .inr (.inr (.inr (.inr (fun _ => none))))) := (w15 _ (by omega) (by omega)).trans o5
  have o7 : G15 (z + 2) = .inl (cy 4, 2, .inr (.inr (.inr (.inr (fun _ => none))))) := (w15 _ (by omega) (by omega)).trans o7
  have o9 : G15 (z + 3) = .inl (cy 1, 60, .inl (fun _ => 0)) := (w15 _ (by omega) (by omega)).trans o9
  have o11 : G15 (z + 4) = .inl (cy 0, 24, .inl (fun _ => 0)) := (w15 _ (by omega) (by omega)).trans o11
  have oh : G15 h0 = .inr (2, [.int 0, .int 22, .int 1, .ref z, .int 0, .ref (z + 1), .int 0, .ref (z + 2), .ref (z + 3), .int 0, .ref (z + 4), .int 0]) := (w15 _ (by omega) (by omega)).trans oh
  have hF : ∀ q : Nat, q ≠ h0 → q < z → G15 q = G q := fun q h1 h2 => (w15 _ (by omega) (by omega)).trans (hF q h1 h2)
  obtain u15_0 := w15a
  have hP : kb_P D b G15 (z + 6) H := hP
  have k0 : (0 : Int32).toInt = 0 := by decide +kernel
  refine kb_aast hx hb hK hP hS (by omega) (by omega) 2 0 o3 rfl (by omega) (by omega) u15_0 rfl (by omega) (by omega) dX2_init_77 (fun j H locs ej hj hP hS => ?_)
  have ej : j = 0 := by omega
  subst ej
  obtain ⟨G16, eG16⟩ : ∃ q, q = kb_u G15 z (.inl (cy 2, 9, .inr (.inr (.inr (.inr (va_up (fun _ => none) 0 (some (z + 5)))))))) := ⟨_, rfl⟩
  rw [← eG16] at hP
  have hF : ∀ q : Nat, q ≠ h0 → q < z → G16 q = G q := fun q h1 h2 => by rw [eG16, kb_un (by omega)]; exact hF q h1 h2
  have o5 : G16 (z + 1) = .inl (cy 3, 6, .inr (.inr (.inr (.inr (fun _ => none))))) := by rw [eG16, kb_un (by omega)]; exact o5
  have o7 : G16 (z + 2) = .inl (cy 4, 2, .inr (.inr (.inr (.inr (fun _ => none))))) := by rw [eG16, kb_un (by omega)]; exact o7
  have o9 : G16 (z + 3) = .inl (cy 1, 60, .inl (fun _ => 0)) := by rw [eG16, kb_un (by omega)]; exact o9
  have o11 : G16 (z + 4) = .inl (cy 0, 24, .inl (fun _ => 0)) := by rw [eG16, kb_un (by omega)]; exact o11
  have oh : G16 h0 = .inr (2, [.int 0, .int 22, .int 1, .ref z, .int 0, .ref (z + 1), .int 0, .ref (z + 2), .ref (z + 3), .int 0, .ref (z + 4), .int 0]) := by rw [eG16, kb_un (by omega)]; exact oh
  have u15_0 : G16 (z + 5) = .inr (0, [.int 0, .int 0, .int 0, .int 0, .int 0, .int 0]) := by rw [eG16, kb_un (by omega)]; exact u15_0
  have o3 : G16 z = .inl (cy 2, 9, .inr (.inr (.inr (.inr (va_up (fun _ => none) 0 (some (z + 5))))))) := by rw [eG16]; exact kb_us
  refine lv_iinc (v := 1) (lv' := [(1, .int 1), (0, .ref h0)]) hx hb dX2_init_78 hl (k := 0) rfl (by decide) (by decide) rfl (fun ls hl => ?_)
  refine lv_goto (tgt := 59) hx hb dX2_init_81 (by decide) ?_
  refine lv_iload_n hx hb dX2_init_59 rfl (lv_at hl 0 rfl) ?_
  refine lv_bipush (v := 9) hx hb dX2_init_60 (by decide) ?_
  refine lv_icmp_ge (tgt := 84) hx hb dX2_init_62 (by decide) (fun c17 => absurd c17 (by decide)) (fun c17 => ?_)
  refine lv_aload_n hx hb dX2_init_65 rfl (lv_at hl 1 rfl) ?_
  refine kb_get hx hb hts hi2 hown hK hP (by omega) (by omega) oh rfl 3 (by decide) (hts (.fieldLink RX2 20 "NoonLaw$Realm" "dreams" "[LNoonLaw$Dream;") (by decide +kernel)) rfl rfl dX2_init_66 ?_
  refine lv_iload_n hx hb dX2_init_69 rfl (lv_at hl 0 rfl) ?_
  refine kb_new (C := RX0) (T := TX0) (N := 6) hx hb hts hi0 tyX0 tyX0_ok hown (hts (.classLink RX2 18 RX0) (by decide +kernel)) (hts (.instantiable RX0 6) (by decide +kernel)) (hts (.initialized RX0) (by decide +kernel)) hK hP hS (ci := 0) rfl [.int 0, .int 0, .int 0, .int 0, .int 0, .int 0] (fun j hj => by rcases (show j = 0 ∨ j = 1 ∨ j = 2 ∨ j = 3 ∨ j = 4 ∨ j = 5 by omega) with rfl | rfl | rfl | rfl | rfl | rfl <;> rfl) (Nat.le_of_ble_eq_true rfl) (Nat.le_of_ble_eq_true rfl) dX2_init_70 (fun H hP hS => ?_)
  obtain ⟨G18, eG18⟩ : ∃ q, q = kb_u G16 (z + 6) (.inr (0, [.int 0, .int 0, .int 0, .int 0, .int 0, .int 0])) := ⟨_, rfl⟩
  rw [← eG18] at hP
  have hF : ∀ q : Nat, q ≠ h0 → q < z → G18 q = G q := fun q h1 h2 => by rw [eG18, kb_un (by omega)]; exact hF q h1 h2
  have o5 : G18 (z + 1) = .inl (cy 3, 6, .inr (.inr (.inr (.inr (fun _ => none))))) := by rw [eG18, kb_un (by omega)]; exact o5
  have o7 : G18 (z + 2) = .inl (cy 4, 2, .inr (.inr (.inr (.inr (fun _ => none))))) := by rw [eG18, kb_un (by omega)]; exact o7
  have o9 : G18 (z + 3) = .inl (cy 1, 60, .inl (fun _ => 0)) := by rw [eG18, kb_un (by omega)]; exact o9
  have o11 : G18 (z + 4) = .inl (cy 0, 24, .inl (fun _ => 0)) := by rw [eG18, kb_un (by omega)]; exact o11
  have oh : G18 h0 = .inr (2, [.int 0, .int 22, .int 1, .ref z, .int 0, .ref (z + 1), .int 0, .ref (z + 2), .ref (z + 3), .int 0, .ref (z + 4), .int 0]) := by rw [eG18, kb_un (by omega)]; exact oh
  have u15_0 : G18 (z + 5) = .inr (0, [.int 0, .int 0, .int 0, .int 0, .int 0, .int 0]) := by rw [eG18, kb_un (by omega)]; exact u15_0
  have o3 : G18 z = .inl (cy 2, 9, .inr (.inr (.inr (.inr (va_up (fun _ => none) 0 (some (z + 5))))))) := by rw [eG18, kb_un (by omega)]; exact o3
  have o18 : G18 (z + 6) = .inr (0, [.int 0, .int 0, .int 0, .int 0, .int 0, .int 0]) := by rw [eG18]; exact kb_us
  have hP : kb_P D b G18 (z + 7) H := hP
  refine lv_dup hx hb dX2_init_73 rfl ?_
  refine kb_callN (rest := [.ref (z + 6), .int 1, .ref z]) ⟨hx, hb, hml, hown, hts⟩ hK hP hS (c_X0_init l D cy b G18 (z + 7) (z + 6) (by omega) (by omega) o18) ⟨va_cnB 0 hts gX2_init_X0_init_n44 rfl rfl rfl (hK.2.2.2.2.2.1) (hts (.initialized RX0) (by decide +kernel)) (by decide +kernel) ⟨Nat.le_of_ble_eq_true rfl, Nat.le_of_ble_eq_true rfl⟩, rfl, hts (.instanceMethod yX0_init) (by decide +kernel)⟩ hl.1 (Nat.le_of_ble_eq_true rfl) dX2_init_74 ⟨Nat.le_of_ble_eq_true rfl, Nat.le_of_ble_eq_true rfl⟩ (fun G19 H locs w19 hP hS => ?_)
  obtain ⟨w19a, w19⟩ := w19
  have o5 : G19 (z + 1) = .inl (cy 3, 6, .inr (.inr (.inr (.inr (fun _ => none))))) := (w19 _ (by omega) (by omega)).trans o5
  have o7 : G19 (z + 2) = .inl (cy 4, 2, .inr (.inr (.inr (.inr (fun _ => none))))) := (w19 _ (by omega) (by omega)).trans o7
  have o9 : G19 (z + 3) = .inl (cy 1, 60, .inl (fun _ => 0)) := (w19 _ (by omega) (by omega)).trans o9
  have o11 : G19 (z + 4) = .inl (cy 0, 24, .inl (fun _ => 0)) := (w19 _ (by omega) (by omega)).trans o11
  have oh : G19 h0 = .inr (2, [.int 0, .int 22, .int 1, .ref z, .int 0, .ref (z + 1), .int 0, .ref (z + 2), .ref (z + 3), .int 0, .ref (z + 4), .int 0]) := (w19 _ (by omega) (by omega)).trans oh
  have u15_0 : G19 (z + 5) = .inr (0, [.int 0, .int 0, .int 0, .int 0, .int 0, .int 0]) := (w19 _ (by omega) (by omega)).trans u15_0
  have o3 : G19 z = .inl (cy 2, 9, .inr (.inr (.inr (.inr (va_up (fun _ => none) 0 (some (z + 5))))))) := (w19 _ (by omega) (by omega)).trans o3
  have hF : ∀ q : Nat, q ≠ h0 → q < z → G19 q = G q := fun q h1 h2 => (w19 _ (by omega) (by omega)).trans (hF q h1 h2)
  obtain u19_0 := w19a
  have hP : kb_P D b G19 (z + 7) H := hP
  have k1 : (1 : Int32).toInt = 1 := by decide +kernel
  refine kb_aast hx hb hK hP hS (by omega) (by omega) 2 0 o3 rfl (by omega) (by omega) u19_0 rfl (by omega) (by omega) dX2_init_77 (fun j H locs ej hj hP hS => ?_)
  have ej : j = 1 := by omega
  subst ej
  obtain ⟨G20, eG20⟩ : ∃ q, q = kb_u G19 z (.inl (cy 2, 9, .inr (.inr (.inr (.inr (va_up (va_up (fun _ => none) 0 (some (z + 5))) 1 (some (z + 6)))))))) := ⟨_, rfl⟩
  rw [← eG20] at hP
  have hF : ∀ q : Nat, q ≠ h0 → q < z → G20 q = G q := fun q h1 h2 => by rw [eG20, kb_un (by omega)]; exact hF q h1 h2
  have o5 : G20 (z + 1) = .inl (cy 3, 6, .inr (.inr (.inr (.inr (fun _ => none))))) := by rw [eG20, kb_un (by omega)]; exact o5
  have o7 : G20 (z + 2) = .inl (cy 4, 2, .inr (.inr (.inr (.inr (fun _ => none))))) := by rw [eG20, kb_un (by omega)]; exact o7
  have o9 : G20 (z + 3) = .inl (cy 1, 60, .inl (fun _ => 0)) := by rw [eG20, kb_un (by omega)]; exact o9
  have o11 : G20 (z + 4) = .inl (cy 0, 24, .inl (fun _ => 0)) := by rw [eG20, kb_un (by omega)]; exact o11
  have oh : G20 h0 = .inr (2, [.int 0, .int 22, .int 1, .ref z, .int 0, .ref (z + 1), .int 0, .ref (z + 2), .ref (z + 3), .int 0, .ref (z + 4), .int 0]) := by rw [eG20, kb_un (by omega)]; exact oh
  have u15_0 : G20 (z + 5) = .inr (0, [.int 0, .int 0, .int 0, .int 0, .int 0, .int 0]) := by rw [eG20, kb_un (by omega)]; exact u15_0
  have u19_0 : G20 (z + 6) = .inr (0, [.int 0, .int 0, .int 0, .int 0, .int 0, .int 0]) := by rw [eG20, kb_un (by omega)]; exact u19_0
  have o3 : G20 z = .inl (cy 2, 9, .inr (.inr (.inr (.inr (va_up (va_up (fun _ => none) 0 (some (z + 5))) 1 (some (z + 6))))))) := by rw [eG20]; exact kb_us
  refine lv_iinc (v := 2) (lv' := [(1, .int 2), (0, .ref h0)]) hx hb dX2_init_78 hl (k := 0) rfl (by decide) (by decide) rfl (fun ls hl => ?_)
  refine lv_goto (tgt := 59) hx hb dX2_init_81 (by decide) ?_
  refine lv_iload_n hx hb dX2_init_59 rfl (lv_at hl 0 rfl) ?_
  refine lv_bipush (v := 9) hx hb dX2_init_60 (by decide) ?_
  refine lv_icmp_ge (tgt := 84) hx hb dX2_init_62 (by decide) (fun c21 => absurd c21 (by decide)) (fun c21 => ?_)
  refine lv_aload_n hx hb dX2_init_65 rfl (lv_at hl 1 rfl) ?_
  refine kb_get hx hb hts hi2 hown hK hP (by omega) (by omega) oh rfl 3 (by decide) (hts (.fieldLink RX2 20 "NoonLaw$Realm" "dreams" "[LNoonLaw$Dream;") (by decide +kernel)) rfl rfl dX2_init_66 ?_
  refine lv_iload_n hx hb dX2_init_69 rfl (lv_at hl 0 rfl) ?_
  refine kb_new (C := RX0) (T := TX0) (N := 6) hx hb hts hi0 tyX0 tyX0_ok hown (hts (.classLink RX2 18 RX0) (by decide +kernel)) (hts (.instantiable RX0 6) (by decide +kernel)) (hts (.initialized RX0) (by decide +kernel)) hK hP hS (ci := 0) rfl [.int 0, .int 0, .int 0, .int 0, .int 0, .int 0] (fun j hj => by rcases (show j = 0 ∨ j = 1 ∨ j = 2 ∨ j = 3 ∨ j = 4 ∨ j = 5 by omega) with rfl | rfl | rfl | rfl | rfl | rfl <;> rfl) (Nat.le_of_ble_eq_true rfl) (Nat.le_of_ble_eq_true rfl) dX2_init_70 (fun H hP hS => ?_)
  obtain ⟨G22, eG22⟩ : ∃ q, q = kb_u G20 (z + 7) (.inr (0, [.int 0, .int 0, .int 0, .int 0, .int 0, .int 0])) := ⟨_, rfl⟩
  rw [← eG22] at hP
  have hF : ∀ q : Nat, q ≠ h0 → q < z → G22 q = G q := fun q h1 h2 => by rw [eG22, kb_un (by omega)]; exact hF q h1 h2
  have o5 : G22 (z + 1) = .inl (cy 3, 6, .inr (.inr (.inr (.inr (fun _ => none))))) := by rw [eG22, kb_un (by omega)]; exact o5
  have o7 : G22 (z + 2) = .inl (cy 4, 2, .inr (.inr (.inr (.inr (fun _ => none))))) := by rw [eG22, kb_un (by omega)]; exact o7
  have o9 : G22 (z + 3) = .inl (cy 1, 60, .inl (fun _ => 0)) := by rw [eG22, kb_un (by omega)]; exact o9
  have o11 : G22 (z + 4) = .inl (cy 0, 24, .inl (fun _ => 0)) := by rw [eG22, kb_un (by omega)]; exact o11
  have oh : G22 h0 = .inr (2, [.int 0, .int 22, .int 1, .ref z, .int 0, .ref (z + 1), .int 0, .ref (z + 2), .ref (z + 3), .int 0, .ref (z + 4), .int 0]) := by rw [eG22, kb_un (by omega)]; exact oh
  have u15_0 : G22 (z + 5) = .inr (0, [.int 0, .int 0, .int 0, .int 0, .int 0, .int 0]) := by rw [eG22, kb_un (by omega)]; exact u15_0
  have u19_0 : G22 (z + 6) = .inr (0, [.int 0, .int 0, .int 0, .int 0, .int 0, .int 0]) := by rw [eG22, kb_un (by omega)]; exact u19_0
  have o3 : G22 z = .inl (cy 2, 9, .inr (.inr (.inr (.inr (va_up (va_up (fun _ => none) 0 (some (z + 5))) 1 (some (z + 6))))))) := by rw [eG22, kb_un (by omega)]; exact o3
  have o22 : G22 (z + 7) = .inr (0, [.int 0, .int 0, .int 0, .int 0, .int 0, .int 0]) := by rw [eG22]; exact kb_us
  have hP : kb_P D b G22 (z + 8) H := hP
  refine lv_dup hx hb dX2_init_73 rfl ?_
  refine kb_callN (rest := [.ref (z + 7), .int 2, .ref z]) ⟨hx, hb, hml, hown, hts⟩ hK hP hS (c_X0_init l D cy b G22 (z + 8) (z + 7) (by omega) (by omega) o22) ⟨va_cnB 0 hts gX2_init_X0_init_n44 rfl rfl rfl (hK.2.2.2.2.2.1) (hts (.initialized RX0) (by decide +kernel)) (by decide +kernel) ⟨Nat.le_of_ble_eq_true rfl, Nat.le_of_ble_eq_true rfl⟩, rfl, hts (.instanceMethod yX0_init) (by decide +kernel)⟩ hl.1 (Nat.le_of_ble_eq_true rfl) dX2_init_74 ⟨Nat.le_of_ble_eq_true rfl, Nat.le_of_ble_eq_true rfl⟩ (fun G23 H locs w23 hP hS => ?_)
  obtain ⟨w23a, w23⟩ := w23
  have o5 : G23 (z + 1) = .inl (cy 3, 6, .inr (.inr (.inr (.inr (fun _ => none))))) := (w23 _ (by omega) (by omega)).trans o5
  have o7 : G23 (z + 2) = .inl (cy 4, 2, .inr (.inr (.inr (.inr (fun _ => none))))) := (w23 _ (by omega) (by omega)).trans o7
  have o9 : G23 (z + 3) = .inl (cy 1, 60, .inl (fun _ => 0)) := (w23 _ (by omega) (by omega)).trans o9
  have o11 : G23 (z + 4) = .inl (cy 0, 24, .inl (fun _ => 0)) := (w23 _ (by omega) (by omega)).trans o11
  have oh : G23 h0 = .inr (2, [.int 0, .int 22, .int 1, .ref z, .int 0, .ref (z + 1), .int 0, .ref (z + 2), .ref (z + 3), .int 0, .ref (z + 4), .int 0]) := (w23 _ (by omega) (by omega)).trans oh
  have u15_0 : G23 (z + 5) = .inr (0, [.int 0, .int 0, .int 0, .int 0, .int 0, .int 0]) := (w23 _ (by omega) (by omega)).trans u15_0
  have u19_0 : G23 (z + 6) = .inr (0, [.int 0, .int 0, .int 0, .int 0, .int 0, .int 0]) := (w23 _ (by omega) (by omega)).trans u19_0
  have o3 : G23 z = .inl (cy 2, 9, .inr (.inr (.inr (.inr (va_up (va_up (fun _ => none) 0 (some (z + 5))) 1 (some (z + 6))))))) := (w23 _ (by omega) (by omega)).trans o3
  have hF : ∀ q : Nat, q ≠ h0 → q < z → G23 q = G q := fun q h1 h2 => (w23 _ (by omega) (by omega)).trans (hF q h1 h2)
  obtain u23_0 := w23a
  have hP : kb_P D b G23 (z + 8) H := hP
  have k2 : (2 : Int32).toInt = 2 := by decide +kernel
  refine kb_aast hx hb hK hP hS (by omega) (by omega) 2 0 o3 rfl (by omega) (by omega) u23_0 rfl (by omega) (by omega) dX2_init_77 (fun j H locs ej hj hP hS => ?_)
  have ej : j = 2 := by omega
  subst ej
  obtain ⟨G24, eG24⟩ : ∃ q, q = kb_u G23 z (.inl (cy 2, 9, .inr (.inr (.inr (.inr (va_up (va_up (va_up (fun _ => none) 0 (some (z + 5))) 1 (some (z + 6))) 2 (some (z + 7)))))))) := ⟨_, rfl⟩
  rw [← eG24] at hP
  have hF : ∀ q : Nat, q ≠ h0 → q < z → G24 q = G q := fun q h1 h2 => by rw [eG24, kb_un (by omega)]; exact hF q h1 h2
  have o5 : G24 (z + 1) = .inl (cy 3, 6, .inr (.inr (.inr (.inr (fun _ => none))))) := by rw [eG24, kb_un (by omega)]; exact o5
  have o7 : G24 (z + 2) = .inl (cy 4, 2, .inr (.inr (.inr (.inr (fun _ => none))))) := by rw [eG24, kb_un (by omega)]; exact o7
  have o9 : G24 (z + 3) = .inl (cy 1, 60, .inl (fun _ => 0)) := by rw [eG24, kb_un (by omega)]; exact o9
  have o11 : G24 (z + 4) = .inl (cy 0, 24, .inl (fun _ => 0)) := by rw [eG24, kb_un (by omega)]; exact o11
  have oh : G24 h0 = .inr (2, [.int 0, .int 22, .int 1, .ref z, .int 0, .ref (z + 1), .int 0, .ref (z + 2), .ref (z + 3), .int 0, .ref (z + 4), .int 0]) := by rw [eG24, kb_un (by omega)]; exact oh
  have u15_0 : G24 (z + 5) = .inr (0, [.int 0, .int 0, .int 0, .int 0, .int 0, .int 0]) := by rw [eG24, kb_un (by omega)]; exact u15_0
  have u19_0 : G24 (z + 6) = .inr (0, [.int 0, .int 0, .int 0, .int 0, .int 0, .int 0]) := by rw [eG24, kb_un (by omega)]; exact u19_0
  have u23_0 : G24 (z + 7) = .inr (0, [.int 0, .int 0, .int 0, .int 0, .int 0, .int 0]) := by rw [eG24, kb_un (by omega)]; exact u23_0
  have o3 : G24 z = .inl (cy 2, 9, .inr (.inr (.inr (.inr (va_up (va_up (va_up (fun _ => none) 0 (some (z + 5))) 1 (some (z + 6))) 2 (some (z + 7))))))) := by rw [eG24]; exact kb_us
  refine lv_iinc (v := 3) (lv' := [(1, .int 3), (0, .ref h0)]) hx hb dX2_init_78 hl (k := 0) rfl (by decide) (by decide) rfl (fun ls hl => ?_)
  refine lv_goto (tgt := 59) hx hb dX2_init_81 (by decide) ?_
  refine lv_iload_n hx hb dX2_init_59 rfl (lv_at hl 0 rfl) ?_
  refine lv_bipush (v := 9) hx hb dX2_init_60 (by decide) ?_
  refine lv_icmp_ge (tgt := 84) hx hb dX2_init_62 (by decide) (fun c25 => absurd c25 (by decide)) (fun c25 => ?_)
  refine lv_aload_n hx hb dX2_init_65 rfl (lv_at hl 1 rfl) ?_
  refine kb_get hx hb hts hi2 hown hK hP (by omega) (by omega) oh rfl 3 (by decide) (hts (.fieldLink RX2 20 "NoonLaw$Realm" "dreams" "[LNoonLaw$Dream;") (by decide +kernel)) rfl rfl dX2_init_66 ?_
  refine lv_iload_n hx hb dX2_init_69 rfl (lv_at hl 0 rfl) ?_
  refine kb_new (C := RX0) (T := TX0) (N := 6) hx hb hts hi0 tyX0 tyX0_ok hown (hts (.classLink RX2 18 RX0) (by decide +kernel)) (hts (.instantiable RX0 6) (by decide +kernel)) (hts (.initialized RX0) (by decide +kernel)) hK hP hS (ci := 0) rfl [.int 0, .int 0, .int 0, .int 0, .int 0, .int 0] (fun j hj => by rcases (show j = 0 ∨ j = 1 ∨ j = 2 ∨ j = 3 ∨ j = 4 ∨ j = 5 by omega) with rfl | rfl | rfl | rfl | rfl | rfl <;> rfl) (Nat.le_of_ble_eq_true rfl) (Nat.le_of_ble_eq_true rfl) dX2_init_70 (fun H hP hS => ?_)
  obtain ⟨G26, eG26⟩ : ∃ q, q = kb_u G24 (z + 8) (.inr (0, [.int 0, .int 0, .int 0, .int 0, .int 0, .int 0])) := ⟨_, rfl⟩
  rw [← eG26] at hP
  have hF : ∀ q : Nat, q ≠ h0 → q < z → G26 q = G q := fun q h1 h2 => by rw [eG26, kb_un (by omega)]; exact hF q h1 h2
  have o5 : G26 (z + 1) = .inl (cy 3, 6, .inr (.inr (.inr (.inr (fun _ => none))))) := by rw [eG26, kb_un (by omega)]; exact o5
  have o7 : G26 (z + 2) = .inl (cy 4, 2, .inr (.inr (.inr (.inr (fun _ => none))))) := by rw [eG26, kb_un (by omega)]; exact o7
  have o9 : G26 (z + 3) = .inl (cy 1, 60, .inl (fun _ => 0)) := by rw [eG26, kb_un (by omega)]; exact o9
  have o11 : G26 (z + 4) = .inl (cy 0, 24, .inl (fun _ => 0)) := by rw [eG26, kb_un (by omega)]; exact o11
  have oh : G26 h0 = .inr (2, [.int 0, .int 22, .int 1, .ref z, .int 0, .ref (z + 1), .int 0, .ref (z + 2), .ref (z + 3), .int 0, .ref (z + 4), .int 0]) := by rw [eG26, kb_un (by omega)]; exact oh
  have u15_0 : G26 (z + 5) = .inr (0, [.int 0, .int 0, .int 0, .int 0, .int 0, .int 0]) := by rw [eG26, kb_un (by omega)]; exact u15_0
  have u19_0 : G26 (z + 6) = .inr (0, [.int 0, .int 0, .int 0, .int 0, .int 0, .int 0]) := by rw [eG26, kb_un (by omega)]; exact u19_0
  have u23_0 : G26 (z + 7) = .inr (0, [.int 0, .int 0, .int 0, .int 0, .int 0, .int 0]) := by rw [eG26, kb_un (by omega)]; exact u23_0
  have o3 : G26 z = .inl (cy 2, 9, .inr (.inr (.inr (.inr (va_up (va_up (va_up (fun _ => none) 0 (some (z + 5))) 1 (some (z + 6))) 2 (some (z + 7))))))) := by rw [eG26, kb_un (by omega)]; exact o3
  have o26 : G26 (z + 8) = .inr (0, [.int 0, .int 0, .int 0, .int 0, .int 0, .int 0]) := by rw [eG26]; exact kb_us
  have hP : kb_P D b G26 (z + 9) H := hP
  refine lv_dup hx hb dX2_init_73 rfl ?_
  refine kb_callN (rest := [.ref (z + 8), .int 3, .ref z]) ⟨hx, hb, hml, hown, hts⟩ hK hP hS (c_X0_init l D cy b G26 (z + 9) (z + 8) (by omega) (by omega) o26) ⟨va_cnB 0 hts gX2_init_X0_init_n44 rfl rfl rfl (hK.2.2.2.2.2.1) (hts (.initialized RX0) (by decide +kernel)) (by decide +kernel) ⟨Nat.le_of_ble_eq_true rfl, Nat.le_of_ble_eq_true rfl⟩, rfl, hts (.instanceMethod yX0_init) (by decide +kernel)⟩ hl.1 (Nat.le_of_ble_eq_true rfl) dX2_init_74 ⟨Nat.le_of_ble_eq_true rfl, Nat.le_of_ble_eq_true rfl⟩ (fun G27 H locs w27 hP hS => ?_)
  obtain ⟨w27a, w27⟩ := w27
  have o5 : G27 (z + 1) = .inl (cy 3, 6, .inr (.inr (.inr (.inr (fun _ => none))))) := (w27 _ (by omega) (by omega)).trans o5
  have o7 : G27 (z + 2) = .inl (cy 4, 2, .inr (.inr (.inr (.inr (fun _ => none))))) := (w27 _ (by omega) (by omega)).trans o7
  have o9 : G27 (z + 3) = .inl (cy 1, 60, .inl (fun _ => 0)) := (w27 _ (by omega) (by omega)).trans o9
  have o11 : G27 (z + 4) = .inl (cy 0, 24, .inl (fun _ => 0)) := (w27 _ (by omega) (by omega)).trans o11
  have oh : G27 h0 = .inr (2, [.int 0, .int 22, .int 1, .ref z, .int 0, .ref (z + 1), .int 0, .ref (z + 2), .ref (z + 3), .int 0, .ref (z + 4), .int 0]) := (w27 _ (by omega) (by omega)).trans oh
  have u15_0 : G27 (z + 5) = .inr (0, [.int 0, .int 0, .int 0, .int 0, .int 0, .int 0]) := (w27 _ (by omega) (by omega)).trans u15_0
  have u19_0 : G27 (z + 6) = .inr (0, [.int 0, .int 0, .int 0, .int 0, .int 0, .int 0]) := (w27 _ (by omega) (by omega)).trans u19_0
  have u23_0 : G27 (z + 7) = .inr (0, [.int 0, .int 0, .int 0, .int 0, .int 0, .int 0]) := (w27 _ (by omega) (by omega)).trans u23_0
  have o3 : G27 z = .inl (cy 2, 9, .inr (.inr (.inr (.inr (va_up (va_up (va_up (fun _ => none) 0 (some (z + 5))) 1 (some (z + 6))) 2 (some (z + 7))))))) := (w27 _ (by omega) (by omega)).trans o3
  have hF : ∀ q : Nat, q ≠ h0 → q < z → G27 q = G q := fun q h1 h2 => (w27 _ (by omega) (by omega)).trans (hF q h1 h2)
  obtain u27_0 := w27a
  have hP : kb_P D b G27 (z + 9) H := hP
  have k3 : (3 : Int32).toInt = 3 := by decide +kernel
  refine kb_aast hx hb hK hP hS (by omega) (by omega) 2 0 o3 rfl (by omega) (by omega) u27_0 rfl (by omega) (by omega) dX2_init_77 (fun j H locs ej hj hP hS => ?_)
  have ej : j = 3 := by omega
  subst ej
  obtain ⟨G28, eG28⟩ : ∃ q, q = kb_u G27 z (.inl (cy 2, 9, .inr (.inr (.inr (.inr (va_up (va_up (va_up (va_up (fun _ => none) 0 (some (z + 5))) 1 (some (z + 6))) 2 (some (z + 7))) 3 (some (z + 8)))))))) := ⟨_, rfl⟩
  rw [← eG28] at hP
  have hF : ∀ q : Nat, q ≠ h0 → q < z → G28 q = G q := fun q h1 h2 => by rw [eG28, kb_un (by omega)]; exact hF q h1 h2
  have o5 : G28 (z + 1) = .inl (cy 3, 6, .inr (.inr (.inr (.inr (fun _ => none))))) := by rw [eG28, kb_un (by omega)]; exact o5
  have o7 : G28 (z + 2) = .inl (cy 4, 2, .inr (.inr (.inr (.inr (fun _ => none))))) := by rw [eG28, kb_un (by omega)]; exact o7
  have o9 : G28 (z + 3) = .inl (cy 1, 60, .inl (fun _ => 0)) := by rw [eG28, kb_un (by omega)]; exact o9
  have o11 : G28 (z + 4) = .inl (cy 0, 24, .inl (fun _ => 0)) := by rw [eG28, kb_un (by omega)]; exact o11
  have oh : G28 h0 = .inr (2, [.int 0, .int 22, .int 1, .ref z, .int 0, .ref (z + 1), .int 0, .ref (z + 2), .ref (z + 3), .int 0, .ref (z + 4), .int 0]) := by rw [eG28, kb_un (by omega)]; exact oh
  have u15_0 : G28 (z + 5) = .inr (0, [.int 0, .int 0, .int 0, .int 0, .int 0, .int 0]) := by rw [eG28, kb_un (by omega)]; exact u15_0
  have u19_0 : G28 (z + 6) = .inr (0, [.int 0, .int 0, .int 0, .int 0, .int 0, .int 0]) := by rw [eG28, kb_un (by omega)]; exact u19_0
  have u23_0 : G28 (z + 7) = .inr (0, [.int 0, .int 0, .int 0, .int 0, .int 0, .int 0]) := by rw [eG28, kb_un (by omega)]; exact u23_0
  have u27_0 : G28 (z + 8) = .inr (0, [.int 0, .int 0, .int 0, .int 0, .int 0, .int 0]) := by rw [eG28, kb_un (by omega)]; exact u27_0
  have o3 : G28 z = .inl (cy 2, 9, .inr (.inr (.inr (.inr (va_up (va_up (va_up (va_up (fun _ => none) 0 (some (z + 5))) 1 (some (z + 6))) 2 (some (z + 7))) 3 (some (z + 8))))))) := by rw [eG28]; exact kb_us
  refine lv_iinc (v := 4) (lv' := [(1, .int 4), (0, .ref h0)]) hx hb dX2_init_78 hl (k := 0) rfl (by decide) (by decide) rfl (fun ls hl => ?_)
  refine lv_goto (tgt := 59) hx hb dX2_init_81 (by decide) ?_
  refine lv_iload_n hx hb dX2_init_59 rfl (lv_at hl 0 rfl) ?_
  refine lv_bipush (v := 9) hx hb dX2_init_60 (by decide) ?_
  refine lv_icmp_ge (tgt := 84) hx hb dX2_init_62 (by decide) (fun c29 => absurd c29 (by decide)) (fun c29 => ?_)
  refine lv_aload_n hx hb dX2_init_65 rfl (lv_at hl 1 rfl) ?_
  refine kb_get hx hb hts hi2 hown hK hP (by omega) (by omega) oh rfl 3 (by decide) (hts (.fieldLink RX2 20 "NoonLaw$Realm" "dreams" "[LNoonLaw$Dream;") (by decide +kernel)) rfl rfl dX2_init_66 ?_
  refine lv_iload_n hx hb dX2_init_69 rfl (lv_at hl 0 rfl) ?_
  refine kb_new (C := RX0) (T := TX0) (N := 6) hx hb hts hi0 tyX0 tyX0_ok hown (hts (.classLink RX2 18 RX0) (by decide +kernel)) (hts (.instantiable RX0 6) (by decide +kernel)) (hts (.initialized RX0) (by decide +kernel)) hK hP hS (ci := 0) rfl [.int 0, .int 0, .int 0, .int 0, .int 0, .int 0] (fun j hj => by rcases (show j = 0 ∨ j = 1 ∨ j = 2 ∨ j = 3 ∨ j = 4 ∨ j = 5 by omega) with rfl | rfl | rfl | rfl | rfl | rfl <;> rfl) (Nat.le_of_ble_eq_true rfl) (Nat.le_of_ble_eq_true rfl) dX2_init_70 (fun H hP hS => ?_)
  obtain ⟨G30, eG30⟩ : ∃ q, q = kb_u G28 (z + 9) (.inr (0, [.int 0, .int 0, .int 0, .int 0, .int 0, .int 0])) := ⟨_, rfl⟩
  rw [← eG30] at hP
  have hF : ∀ q : Nat, q ≠ h0 → q < z → G30 q = G q := fun q h1 h2 => by rw [eG30, kb_un (by omega)]; exact hF q h1 h2
  have o5 : G30 (z + 1) = .inl (cy 3, 6, .inr (.inr (.inr (.inr (fun _ => none))))) := by rw [eG30, kb_un (by omega)]; exact o5
  have o7 : G30 (z + 2) = .inl (cy 4, 2, .inr (.inr (.inr (.inr (fun _ => none))))) := by rw [eG30, kb_un (by omega)]; exact o7
  have o9 : G30 (z + 3) = .inl (cy 1, 60, .inl (fun _ => 0)) := by rw [eG30, kb_un (by omega)]; exact o9
  have o11 : G30 (z + 4) = .inl (cy 0, 24, .inl (fun _ => 0)) := by rw [eG30, kb_un (by omega)]; exact o11
  have oh : G30 h0 = .inr (2, [.int 0, .int 22, .int 1, .ref z, .int 0, .ref (z + 1), .int 0, .ref (z + 2), .ref (z + 3), .int 0, .ref (z + 4), .int 0]) := by rw [eG30, kb_un (by omega)]; exact oh
  have u15_0 : G30 (z + 5) = .inr (0, [.int 0, .int 0, .int 0, .int 0, .int 0, .int 0]) := by rw [eG30, kb_un (by omega)]; exact u15_0
  have u19_0 : G30 (z + 6) = .inr (0, [.int 0, .int 0, .int 0, .int 0, .int 0, .int 0]) := by rw [eG30, kb_un (by omega)]; exact u19_0
  have u23_0 : G30 (z + 7) = .inr (0, [.int 0, .int 0, .int 0, .int 0, .int 0, .int 0]) := by rw [eG30, kb_un (by omega)]; exact u23_0
  have u27_0 : G30 (z + 8) = .inr (0, [.int 0, .int 0, .int 0, .int 0, .int 0, .int 0]) := by rw [eG30, kb_un (by omega)]; exact u27_0
  have o3 : G30 z = .inl (cy 2, 9, .inr (.inr (.inr (.inr (va_up (va_up (va_up (va_up (fun _ => none) 0 (some (z + 5))) 1 (some (z + 6))) 2 (some (z + 7))) 3 (some (z + 8))))))) := by rw [eG30, kb_un (by omega)]; exact o3
  have o30 : G30 (z + 9) = .inr (0, [.int 0, .int 0, .int 0, .int 0, .int 0, .int 0]) := by rw [eG30]; exact kb_us
  have hP : kb_P D b G30 (z + 10) H := hP
  refine lv_dup hx hb dX2_init_73 rfl ?_
  refine kb_callN (rest := [.ref (z + 9), .int 4, .ref z]) ⟨hx, hb, hml, hown, hts⟩ hK hP hS (c_X0_init l D cy b G30 (z + 10) (z + 9) (by omega) (by omega) o30) ⟨va_cnB 0 hts gX2_init_X0_init_n44 rfl rfl rfl (hK.2.2.2.2.2.1) (hts (.initialized RX0) (by decide +kernel)) (by decide +kernel) ⟨Nat.le_of_ble_eq_true rfl, Nat.le_of_ble_eq_true rfl⟩, rfl, hts (.instanceMethod yX0_init) (by decide +kernel)⟩ hl.1 (Nat.le_of_ble_eq_true rfl) dX2_init_74 ⟨Nat.le_of_ble_eq_true rfl, Nat.le_of_ble_eq_true rfl⟩ (fun G31 H locs w31 hP hS => ?_)
  obtain ⟨w31a, w31⟩ := w31
  have o5 : G31 (z + 1) = .inl (cy 3, 6, .inr (.inr (.inr (.inr (fun _ => none))))) := (w31 _ (by omega) (by omega)).trans o5
  have o7 : G31 (z + 2) = .inl (cy 4, 2, .inr (.inr (.inr (.inr (fun _ => none))))) := (w31 _ (by omega) (by omega)).trans o7
  have o9 : G31 (z + 3) = .inl (cy 1, 60, .inl (fun _ => 0)) := (w31 _ (by omega) (by omega)).trans o9
  have o11 : G31 (z + 4) = .inl (cy 0, 24, .inl (fun _ => 0)) := (w31 _ (by omega) (by omega)).trans o11
  have oh : G31 h0 = .inr (2, [.int 0, .int 22, .int 1, .ref z, .int 0, .ref (z + 1), .int 0, .ref (z + 2), .ref (z + 3), .int 0, .ref (z + 4), .int 0]) := (w31 _ (by omega) (by omega)).trans oh
  have u15_0 : G31 (z + 5) = .inr (0, [.int 0, .int 0, .int 0, .int 0, .int 0, .int 0]) := (w31 _ (by omega) (by omega)).trans u15_0
  have u19_0 : G31 (z + 6) = .inr (0, [.int 0, .int 0, .int 0, .int 0, .int 0, .int 0]) := (w31 _ (by omega) (by omega)).trans u19_0
  have u23_0 : G31 (z + 7) = .inr (0, [.int 0, .int 0, .int 0, .int 0, .int 0, .int 0]) := (w31 _ (by omega) (by omega)).trans u23_0
  have u27_0 : G31 (z + 8) = .inr (0, [.int 0, .int 0, .int 0, .int 0, .int 0, .int 0]) := (w31 _ (by omega) (by omega)).trans u27_0
  have o3 : G31 z = .inl (cy 2, 9, .inr (.inr (.inr (.inr (va_up (va_up (va_up (va_up (fun _ => none) 0 (some (z + 5))) 1 (some (z + 6))) 2 (some (z + 7))) 3 (some (z + 8))))))) := (w31 _ (by omega) (by omega)).trans o3
  have hF : ∀ q : Nat, q ≠ h0 → q < z → G31 q = G q := fun q h1 h2 => (w31 _ (by omega) (by omega)).trans (hF q h1 h2)
  obtain u31_0 := w31a
  have hP : kb_P D b G31 (z + 10) H := hP
  have k4 : (4 : Int32).toInt = 4 := by decide +kernel
  refine kb_aast hx hb hK hP hS (by omega) (by omega) 2 0 o3 rfl (by omega) (by omega) u31_0 rfl (by omega) (by omega) dX2_init_77 (fun j H locs ej hj hP hS => ?_)
  have ej : j = 4 := by omega
  subst ej
  obtain ⟨G32, eG32⟩ : ∃ q, q = kb_u G31 z (.inl (cy 2, 9, .inr (.inr (.inr (.inr (va_up (va_up (va_up (va_up (va_up (fun _ => none) 0 (some (z + 5))) 1 (some (z + 6))) 2 (some (z + 7))) 3 (some (z + 8))) 4 (some (z + 9)))))))) := ⟨_, rfl⟩
  rw [← eG32] at hP
  have hF : ∀ q : Nat, q ≠ h0 → q < z → G32 q = G q := fun q h1 h2 => by rw [eG32, kb_un (by omega)]; exact hF q h1 h2
  have o5 : G32 (z + 1) = .inl (cy 3, 6, .inr (.inr (.inr (.inr (fun _ => none))))) := by rw [eG32, kb_un (by omega)]; exact o5
  have o7 : G32 (z + 2) = .inl (cy 4, 2, .inr (.inr (.inr (.inr (fun _ => none))))) := by rw [eG32, kb_un (by omega)]; exact o7
  have o9 : G32 (z + 3) = .inl (cy 1, 60, .inl (fun _ => 0)) := by rw [eG32, kb_un (by omega)]; exact o9
  have o11 : G32 (z + 4) = .inl (cy 0, 24, .inl (fun _ => 0)) := by rw [eG32, kb_un (by omega)]; exact o11
  have oh : G32 h0 = .inr (2, [.int 0, .int 22, .int 1, .ref z, .int 0, .ref (z + 1), .int 0, .ref (z + 2), .ref (z + 3), .int 0, .ref (z + 4), .int 0]) := by rw [eG32, kb_un (by omega)]; exact oh
  have u15_0 : G32 (z + 5) = .inr (0, [.int 0, .int 0, .int 0, .int 0, .int 0, .int 0]) := by rw [eG32, kb_un (by omega)]; exact u15_0
  have u19_0 : G32 (z + 6) = .inr (0, [.int 0, .int 0, .int 0, .int 0, .int 0, .int 0]) := by rw [eG32, kb_un (by omega)]; exact u19_0
  have u23_0 : G32 (z + 7) = .inr (0, [.int 0, .int 0, .int 0, .int 0, .int 0, .int 0]) := by rw [eG32, kb_un (by omega)]; exact u23_0
  have u27_0 : G32 (z + 8) = .inr (0, [.int 0, .int 0, .int 0, .int 0, .int 0, .int 0]) := by rw [eG32, kb_un (by omega)]; exact u27_0
  have u31_0 : G32 (z + 9) = .inr (0, [.int 0, .int 0, .int 0, .int 0, .int 0, .int 0]) := by rw [eG32, kb_un (by omega)]; exact u31_0
  have o3 : G32 z = .inl (cy 2, 9, .inr (.inr (.inr (.inr (va_up (va_up (va_up (va_up (va_up (fun _ => none) 0 (some (z + 5))) 1 (some (z + 6))) 2 (some (z + 7))) 3 (some (z + 8))) 4 (some (z + 9))))))) := by rw [eG32]; exact kb_us
  refine lv_iinc (v := 5) (lv' := [(1, .int 5), (0, .ref h0)]) hx hb dX2_init_78 hl (k := 0) rfl (by decide) (by decide) rfl (fun ls hl => ?_)
  refine lv_goto (tgt := 59) hx hb dX2_init_81 (by decide) ?_
  refine lv_iload_n hx hb dX2_init_59 rfl (lv_at hl 0 rfl) ?_
  refine lv_bipush (v := 9) hx hb dX2_init_60 (by decide) ?_
  refine lv_icmp_ge (tgt := 84) hx hb dX2_init_62 (by decide) (fun c33 => absurd c33 (by decide)) (fun c33 => ?_)
  refine lv_aload_n hx hb dX2_init_65 rfl (lv_at hl 1 rfl) ?_
  refine kb_get hx hb hts hi2 hown hK hP (by omega) (by omega) oh rfl 3 (by decide) (hts (.fieldLink RX2 20 "NoonLaw$Realm" "dreams" "[LNoonLaw$Dream;") (by decide +kernel)) rfl rfl dX2_init_66 ?_
  refine lv_iload_n hx hb dX2_init_69 rfl (lv_at hl 0 rfl) ?_
  refine kb_new (C := RX0) (T := TX0) (N := 6) hx hb hts hi0 tyX0 tyX0_ok hown (hts (.classLink RX2 18 RX0) (by decide +kernel)) (hts (.instantiable RX0 6) (by decide +kernel)) (hts (.initialized RX0) (by decide +kernel)) hK hP hS (ci := 0) rfl [.int 0, .int 0, .int 0, .int 0, .int 0, .int 0] (fun j hj => by rcases (show j = 0 ∨ j = 1 ∨ j = 2 ∨ j = 3 ∨ j = 4 ∨ j = 5 by omega) with rfl | rfl | rfl | rfl | rfl | rfl <;> rfl) (Nat.le_of_ble_eq_true rfl) (Nat.le_of_ble_eq_true rfl) dX2_init_70 (fun H hP hS => ?_)
  obtain ⟨G34, eG34⟩ : ∃ q, q = kb_u G32 (z + 10) (.inr (0, [.int 0, .int 0, .int 0, .int 0, .int 0, .int 0])) := ⟨_, rfl⟩
  rw [← eG34] at hP
  have hF : ∀ q : Nat, q ≠ h0 → q < z → G34 q = G q := fun q h1 h2 => by rw [eG34, kb_un (by omega)]; exact hF q h1 h2
  have o5 : G34 (z + 1) = .inl (cy 3, 6, .inr (.inr (.inr (.inr (fun _ => none))))) := by rw [eG34, kb_un (by omega)]; exact o5
  have o7 : G34 (z + 2) = .inl (cy 4, 2, .inr (.inr (.inr (.inr (fun _ => none))))) := by rw [eG34, kb_un (by omega)]; exact o7
  have o9 : G34 (z + 3) = .inl (cy 1, 60, .inl (fun _ => 0)) := by rw [eG34, kb_un (by omega)]; exact o9
  have o11 : G34 (z + 4) = .inl (cy 0, 24, .inl (fun _ => 0)) := by rw [eG34, kb_un (by omega)]; exact o11
  have oh : G34 h0 = .inr (2, [.int 0, .int 22, .int 1, .ref z, .int 0, .ref (z + 1), .int 0, .ref (z + 2), .ref (z + 3), .int 0, .ref (z + 4), .int 0]) := by rw [eG34, kb_un (by omega)]; exact oh
  have u15_0 : G34 (z + 5) = .inr (0, [.int 0, .int 0, .int 0, .int 0, .int 0, .int 0]) := by rw [eG34, kb_un (by omega)]; exact u15_0
  have u19_0 : G34 (z + 6) = .inr (0, [.int 0, .int 0, .int 0, .int 0, .int 0, .int 0]) := by rw [eG34, kb_un (by omega)]; exact u19_0
  have u23_0 : G34 (z + 7) = .inr (0, [.int 0, .int 0, .int 0, .int 0, .int 0, .int 0]) := by rw [eG34, kb_un (by omega)]; exact u23_0
  have u27_0 : G34 (z + 8) = .inr (0, [.int 0, .int 0, .int 0, .int 0, .int 0, .int 0]) := by rw [eG34, kb_un (by omega)]; exact u27_0
  have u31_0 : G34 (z + 9) = .inr (0, [.int 0, .int 0, .int 0, .int 0, .int 0, .int 0]) := by rw [eG34, kb_un (by omega)]; exact u31_0
  have o3 : G34 z = .inl (cy 2, 9, .inr (.inr (.inr (.inr (va_up (va_up (va_up (va_up (va_up (fun _ => none) 0 (some (z + 5))) 1 (some (z + 6))) 2 (some (z + 7))) 3 (some (z + 8))) 4 (some (z + 9))))))) := by rw [eG34, kb_un (by omega)]; exact o3
  have o34 : G34 (z + 10) = .inr (0, [.int 0, .int 0, .int 0, .int 0, .int 0, .int 0]) := by rw [eG34]; exact kb_us
  have hP : kb_P D b G34 (z + 11) H := hP
  refine lv_dup hx hb dX2_init_73 rfl ?_
  refine kb_callN (rest := [.ref (z + 10), .int 5, .ref z]) ⟨hx, hb, hml, hown, hts⟩ hK hP hS (c_X0_init l D cy b G34 (z + 11) (z + 10) (by omega) (by omega) o34) ⟨va_cnB 0 hts gX2_init_X0_init_n44 rfl rfl rfl (hK.2.2.2.2.2.1) (hts (.initialized RX0) (by decide +kernel)) (by decide +kernel) ⟨Nat.le_of_ble_eq_true rfl, Nat.le_of_ble_eq_true rfl⟩, rfl, hts (.instanceMethod yX0_init) (by decide +kernel)⟩ hl.1 (Nat.le_of_ble_eq_true rfl) dX2_init_74 ⟨Nat.le_of_ble_eq_true rfl, Nat.le_of_ble_eq_true rfl⟩ (fun G35 H locs w35 hP hS => ?_)
  obtain ⟨w35a, w35⟩ := w35
  have o5 : G35 (z + 1) = .inl (cy 3, 6, .inr (.inr (.inr (.inr (fun _ => none))))) := (w35 _ (by omega) (by omega)).trans o5
  have o7 : G35 (z + 2) = .inl (cy 4, 2, .inr (.inr (.inr (.inr (fun _ => none))))) := (w35 _ (by omega) (by omega)).trans o7
  have o9 : G35 (z + 3) = .inl (cy 1, 60, .inl (fun _ => 0)) := (w35 _ (by omega) (by omega)).trans o9
  have o11 : G35 (z + 4) = .inl (cy 0, 24, .inl (fun _ => 0)) := (w35 _ (by omega) (by omega)).trans o11
  have oh : G35 h0 = .inr (2, [.int 0, .int 22, .int 1, .ref z, .int 0, .ref (z + 1), .int 0, .ref (z + 2), .ref (z + 3), .int 0, .ref (z + 4), .int 0]) := (w35 _ (by omega) (by omega)).trans oh
  have u15_0 : G35 (z + 5) = .inr (0, [.int 0, .int 0, .int 0, .int 0, .int 0, .int 0]) := (w35 _ (by omega) (by omega)).trans u15_0
  have u19_0 : G35 (z + 6) = .inr (0, [.int 0, .int 0, .int 0, .int 0, .int 0, .int 0]) := (w35 _ (by omega) (by omega)).trans u19_0
  have u23_0 : G35 (z + 7) = .inr (0, [.int 0, .int 0, .int 0, .int 0, .int 0, .int 0]) := (w35 _ (by omega) (by omega)).trans u23_0
  have u27_0 : G35 (z + 8) = .inr (0, [.int 0, .int 0, .int 0, .int 0, .int 0, .int 0]) := (w35 _ (by omega) (by omega)).trans u27_0
  have u31_0 : G35 (z + 9) = .inr (0, [.int 0, .int 0, .int 0, .int 0, .int 0, .int 0]) := (w35 _ (by omega) (by omega)).trans u31_0
  have o3 : G35 z = .inl (cy 2, 9, .inr (.inr (.inr (.inr (va_up (va_up (va_up (va_up (va_up (fun _ => none) 0 (some (z + 5))) 1 (some (z + 6))) 2 (some (z + 7))) 3 (some (z + 8))) 4 (some (z + 9))))))) := (w35 _ (by omega) (by omega)).trans o3
  have hF : ∀ q : Nat, q ≠ h0 → q < z → G35 q = G q := fun q h1 h2 => (w35 _ (by omega) (by omega)).trans (hF q h1 h2)
  obtain u35_0 := w35a
  have hP : kb_P D b G35 (z + 11) H := hP
  have k5 : (5 : Int32).toInt = 5 := by decide +kernel
  refine kb_aast hx hb hK hP hS (by omega) (by omega) 2 0 o3 rfl (by omega) (by omega) u35_0 rfl (by omega) (by omega) dX2_init_77 (fun j H locs ej hj hP hS => ?_)
  have ej : j = 5 := by omega
  subst ej
  obtain ⟨G36, eG36⟩ : ∃ q, q = kb_u G35 z (.inl (cy 2, 9, .inr (.inr (.inr (.inr (va_up (va_up (va_up (va_up (va_up (va_up (fun _ => none) 0 (some (z + 5))) 1 (some (z + 6))) 2 (some (z + 7))) 3 (some (z + 8))) 4 (some (z + 9))) 5 (some (z + 10)))))))) := ⟨_, rfl⟩
  rw [← eG36] at hP
  have hF : ∀ q : Nat, q ≠ h0 → q < z → G36 q = G q := fun q h1 h2 => by rw [eG36, kb_un (by omega)]; exact hF q h1 h2
  have o5 : G36 (z + 1) = .inl (cy 3, 6, .inr (.inr (.inr (.inr (fun _ => none))))) := by rw [eG36, kb_un (by omega)]; exact o5
  have o7 : G36 (z + 2) = .inl (cy 4, 2, .inr (.inr (.inr (.inr (fun _ => none))))) := by rw [eG36, kb_un (by omega)]; exact o7
  have o9 : G36 (z + 3) = .inl (cy 1, 60, .inl (fun _ => 0)) := by rw [eG36, kb_un (by omega)]; exact o9
  have o11 : G36 (z + 4) = .inl (cy 0, 24, .inl (fun _ => 0)) := by rw [eG36, kb_un (by omega)]; exact o11
  have oh : G36 h0 = .inr (2, [.int 0, .int 22, .int 1, .ref z, .int 0, .ref (z + 1), .int 0, .ref (z + 2), .ref (z + 3), .int 0, .ref (z + 4), .int 0]) := by rw [eG36, kb_un (by omega)]; exact oh
  have u15_0 : G36 (z + 5) = .inr (0, [.int 0, .int 0, .int 0, .int 0, .int 0, .int 0]) := by rw [eG36, kb_un (by omega)]; exact u15_0
  have u19_0 : G36 (z + 6) = .inr (0, [.int 0, .int 0, .int 0, .int 0, .int 0, .int 0]) := by rw [eG36, kb_un (by omega)]; exact u19_0
  have u23_0 : G36 (z + 7) = .inr (0, [.int 0, .int 0, .int 0, .int 0, .int 0, .int 0]) := by rw [eG36, kb_un (by omega)]; exact u23_0
  have u27_0 : G36 (z + 8) = .inr (0, [.int 0, .int 0, .int 0, .int 0, .int 0, .int 0]) := by rw [eG36, kb_un (by omega)]; exact u27_0
  have u31_0 : G36 (z + 9) = .inr (0, [.int 0, .int 0, .int 0, .int 0, .int 0, .int 0]) := by rw [eG36, kb_un (by omega)]; exact u31_0
  have u35_0 : G36 (z + 10) = .inr (0, [.int 0, .int 0, .int 0, .int 0, .int 0, .int 0]) := by rw [eG36, kb_un (by omega)]; exact u35_0
  have o3 : G36 z = .inl (cy 2, 9, .inr (.inr (.inr (.inr (va_up (va_up (va_up (va_up (va_up (va_up (fun _ => none) 0 (some (z + 5))) 1 (some (z + 6))) 2 (some (z + 7))) 3 (some (z + 8))) 4 (some (z + 9))) 5 (some (z + 10))))))) := by rw [eG36]; exact kb_us
  refine lv_iinc (v := 6) (lv' := [(1, .int 6), (0, .ref h0)]) hx hb dX2_init_78 hl (k := 0) rfl (by decide) (by decide) rfl (fun ls hl => ?_)
  refine lv_goto (tgt := 59) hx hb dX2_init_81 (by decide) ?_
  refine lv_iload_n hx hb dX2_init_59 rfl (lv_at hl 0 rfl) ?_
  refine lv_bipush (v := 9) hx hb dX2_init_60 (by decide) ?_
  refine lv_icmp_ge (tgt := 84) hx hb dX2_init_62 (by decide) (fun c37 => absurd c37 (by decide)) (fun c37 => ?_)
  refine lv_aload_n hx hb dX2_init_65 rfl (lv_at hl 1 rfl) ?_
  refine kb_get hx hb hts hi2 hown hK hP (by omega) (by omega) oh rfl 3 (by decide) (hts (.fieldLink RX2 20 "NoonLaw$Realm" "dreams" "[LNoonLaw$Dream;") (by decide +kernel)) rfl rfl dX2_init_66 ?_
  refine lv_iload_n hx hb dX2_init_69 rfl (lv_at hl 0 rfl) ?_
  refine kb_new (C := RX0) (T := TX0) (N := 6) hx hb hts hi0 tyX0 tyX0_ok hown (hts (.classLink RX2 18 RX0) (by decide +kernel)) (hts (.instantiable RX0 6) (by decide +kernel)) (hts (.initialized RX0) (by decide +kernel)) hK hP hS (ci := 0) rfl [.int 0, .int 0, .int 0, .int 0, .int 0, .int 0] (fun j hj => by rcases (show j = 0 ∨ j = 1 ∨ j = 2 ∨ j = 3 ∨ j = 4 ∨ j = 5 by omega) with rfl | rfl | rfl | rfl | rfl | rfl <;> rfl) (Nat.le_of_ble_eq_true rfl) (Nat.le_of_ble_eq_true rfl) dX2_init_70 (fun H hP hS => ?_)
  obtain ⟨G38, eG38⟩ : ∃ q, q = kb_u G36 (z + 11) (.inr (0, [.int 0, .int 0, .int 0, .int 0, .int 0, .int 0])) := ⟨_, rfl⟩
  rw [← eG38] at hP
  have hF : ∀ q : Nat, q ≠ h0 → q < z → G38 q = G q := fun q h1 h2 => by rw [eG38, kb_un (by omega)]; exact hF q h1 h2
  have o5 : G38 (z + 1) = .inl (cy 3, 6, .inr (.inr (.inr (.inr (fun _ => none))))) := by rw [eG38, kb_un (by omega)]; exact o5
  have o7 : G38 (z + 2) = .inl (cy 4, 2, .inr (.inr (.inr (.inr (fun _ => none))))) := by rw [eG38, kb_un (by omega)]; exact o7
  have o9 : G38 (z + 3) = .inl (cy 1, 60, .inl (fun _ => 0)) := by rw [eG38, kb_un (by omega)]; exact o9
  have o11 : G38 (z + 4) = .inl (cy 0, 24, .inl (fun _ => 0)) := by rw [eG38, kb_un (by omega)]; exact o11
  have oh : G38 h0 = .inr (2, [.int 0, .int 22, .int 1, .ref z, .int 0, .ref (z + 1), .int 0, .ref (z + 2), .ref (z + 3), .int 0, .ref (z + 4), .int 0]) := by rw [eG38, kb_un (by omega)]; exact oh
  have u15_0 : G38 (z + 5) = .inr (0, [.int 0, .int 0, .int 0, .int 0, .int 0, .int 0]) := by rw [eG38, kb_un (by omega)]; exact u15_0
  have u19_0 : G38 (z + 6) = .inr (0, [.int 0, .int 0, .int 0, .int 0, .int 0, .int 0]) := by rw [eG38, kb_un (by omega)]; exact u19_0
  have u23_0 : G38 (z + 7) = .inr (0, [.int 0, .int 0, .int 0, .int 0, .int 0, .int 0]) := by rw [eG38, kb_un (by omega)]; exact u23_0
  have u27_0 : G38 (z + 8) = .inr (0, [.int 0, .int 0, .int 0, .int 0, .int 0, .int 0]) := by rw [eG38, kb_un (by omega)]; exact u27_0
  have u31_0 : G38 (z + 9) = .inr (0, [.int 0, .int 0, .int 0, .int 0, .int 0, .int 0]) := by rw [eG38, kb_un (by omega)]; exact u31_0
  have u35_0 : G38 (z + 10) = .inr (0, [.int 0, .int 0, .int 0, .int 0, .int 0, .int 0]) := by rw [eG38, kb_un (by omega)]; exact u35_0
  have o3 : G38 z = .inl (cy 2, 9, .inr (.inr (.inr (.inr (va_up (va_up (va_up (va_up (va_up (va_up (fun _ => none) 0 (some (z + 5))) 1 (some (z + 6))) 2 (some (z + 7))) 3 (some (z + 8))) 4 (some (z + 9))) 5 (some (z + 10))))))) := by rw [eG38, kb_un (by omega)]; exact o3
  have o38 : G38 (z + 11) = .inr (0, [.int 0, .int 0, .int 0, .int 0, .int 0, .int 0]) := by rw [eG38]; exact kb_us
  have hP : kb_P D b G38 (z + 12) H := hP
  refine lv_dup hx hb dX2_init_73 rfl ?_
  refine kb_callN (rest := [.ref (z + 11), .int 6, .ref z]) ⟨hx, hb, hml, hown, hts⟩ hK hP hS (c_X0_init l D cy b G38 (z + 12) (z + 11) (by omega) (by omega) o38) ⟨va_cnB 0 hts gX2_init_X0_init_n44 rfl rfl rfl (hK.2.2.2.2.2.1) (hts (.initialized RX0) (by decide +kernel)) (by decide +kernel) ⟨Nat.le_of_ble_eq_true rfl, Nat.le_of_ble_eq_true rfl⟩, rfl, hts (.instanceMethod yX0_init) (by decide +kernel)⟩ hl.1 (Nat.le_of_ble_eq_true rfl) dX2_init_74 ⟨Nat.le_of_ble_eq_true rfl, Nat.le_of_ble_eq_true rfl⟩ (fun G39 H locs w39 hP hS => ?_)
  obtain ⟨w39a, w39⟩ := w39
  have o5 : G39 (z + 1) = .inl (cy 3, 6, .inr (.inr (.inr (.inr (fun _ => none))))) := (w39 _ (by omega) (by omega)).trans o5
  have o7 : G39 (z + 2) = .inl (cy 4, 2, .inr (.inr (.inr (.inr (fun _ => none))))) := (w39 _ (by omega) (by omega)).trans o7
  have o9 : G39 (z + 3) = .inl (cy 1, 60, .inl (fun _ => 0)) := (w39 _ (by omega) (by omega)).trans o9
  have o11 : G39 (z + 4) = .inl (cy 0, 24, .inl (fun _ => 0)) := (w39 _ (by omega) (by omega)).trans o11
  have oh : G39 h0 = .inr (2, [.int 0, .int 22, .int 1, .ref z, .int 0, .ref (z + 1), .int 0, .ref (z + 2), .ref (z + 3), .int 0, .ref (z + 4), .int 0]) := (w39 _ (by omega) (by omega)).trans oh
  have u15_0 : G39 (z + 5) = .inr (0, [.int 0, .int 0, .int 0, .int 0, .int 0, .int 0]) := (w39 _ (by omega) (by omega)).trans u15_0
  have u19_0 : G39 (z + 6) = .inr (0, [.int 0, .int 0, .int 0, .int 0, .int 0, .int 0]) := (w39 _ (by omega) (by omega)).trans u19_0
  have u23_0 : G39 (z + 7) = .inr (0, [.int 0, .int 0, .int 0, .int 0, .int 0, .int 0]) := (w39 _ (by omega) (by omega)).trans u23_0
  have u27_0 : G39 (z + 8) = .inr (0, [.int 0, .int 0, .int 0, .int 0, .int 0, .int 0]) := (w39 _ (by omega) (by omega)).trans u27_0
  have u31_0 : G39 (z + 9) = .inr (0, [.int 0, .int 0, .int 0, .int 0, .int 0, .int 0]) := (w39 _ (by omega) (by omega)).trans u31_0
  have u35_0 : G39 (z + 10) = .inr (0, [.int 0, .int 0, .int 0, .int 0, .int 0, .int 0]) := (w39 _ (by omega) (by omega)).trans u35_0
  have o3 : G39 z = .inl (cy 2, 9, .inr (.inr (.inr (.inr (va_up (va_up (va_up (va_up (va_up (va_up (fun _ => none) 0 (some (z + 5))) 1 (some (z + 6))) 2 (some (z + 7))) 3 (some (z + 8))) 4 (some (z + 9))) 5 (some (z + 10))))))) := (w39 _ (by omega) (by omega)).trans o3
  have hF : ∀ q : Nat, q ≠ h0 → q < z → G39 q = G q := fun q h1 h2 => (w39 _ (by omega) (by omega)).trans (hF q h1 h2)
  obtain u39_0 := w39a
  have hP : kb_P D b G39 (z + 12) H := hP
  have k6 : (6 : Int32).toInt = 6 := by decide +kernel
  refine kb_aast hx hb hK hP hS (by omega) (by omega) 2 0 o3 rfl (by omega) (by omega) u39_0 rfl (by omega) (by omega) dX2_init_77 (fun j H locs ej hj hP hS => ?_)
  have ej : j = 6 := by omega
  subst ej
  obtain ⟨G40, eG40⟩ : ∃ q, q = kb_u G39 z (.inl (cy 2, 9, .inr (.inr (.inr (.inr (va_up (va_up (va_up (va_up (va_up (va_up (va_up (fun _ => none) 0 (some (z + 5))) 1 (some (z + 6))) 2 (some (z + 7))) 3 (some (z + 8))) 4 (some (z + 9))) 5 (some (z + 10))) 6 (some (z + 11)))))))) := ⟨_, rfl⟩
  rw [← eG40] at hP
  have hF : ∀ q : Nat, q ≠ h0 → q < z → G40 q = G q := fun q h1 h2 => by rw [eG40, kb_un (by omega)]; exact hF q h1 h2
  have o5 : G40 (z + 1) = .inl (cy 3, 6, .inr (.inr (.inr (.inr (fun _ => none))))) := by rw [eG40, kb_un (by omega)]; exact o5
  have o7 : G40 (z + 2) = .inl (cy 4, 2, .inr (.inr (.inr (.inr (fun _ => none))))) := by rw [eG40, kb_un (by omega)]; exact o7
  have o9 : G40 (z + 3) = .inl (cy 1, 60, .inl (fun _ => 0)) := by rw [eG40, kb_un (by omega)]; exact o9
  have o11 : G40 (z + 4) = .inl (cy 0, 24, .inl (fun _ => 0)) := by rw [eG40, kb_un (by omega)]; exact o11
  have oh : G40 h0 = .inr (2, [.int 0, .int 22, .int 1, .ref z, .int 0, .ref (z + 1), .int 0, .ref (z + 2), .ref (z + 3), .int 0, .ref (z + 4), .int 0]) := by rw [eG40, kb_un (by omega)]; exact oh
  have u15_0 : G40 (z + 5) = .inr (0, [.int 0, .int 0, .int 0, .int 0, .int 0, .int 0]) := by rw [eG40, kb_un (by omega)]; exact u15_0
  have u19_0 : G40 (z + 6) = .inr (0, [.int 0, .int 0, .int 0, .int 0, .int 0, .int 0]) := by rw [eG40, kb_un (by omega)]; exact u19_0
  have u23_0 : G40 (z + 7) = .inr (0, [.int 0, .int 0, .int 0, .int 0, .int 0, .int 0]) := by rw [eG40, kb_un (by omega)]; exact u23_0
  have u27_0 : G40 (z + 8) = .inr (0, [.int 0, .int 0, .int 0, .int 0, .int 0, .int 0]) := by rw [eG40, kb_un (by omega)]; exact u27_0
  have u31_0 : G40 (z + 9) = .inr (0, [.int 0, .int 0, .int 0, .int 0, .int 0, .int 0]) := by rw [eG40, kb_un (by omega)]; exact u31_0
  have u35_0 : G40 (z + 10) = .inr (0, [.int 0, .int 0, .int 0, .int 0, .int 0, .int 0]) := by rw [eG40, kb_un (by omega)]; exact u35_0
  have u39_0 : G40 (z + 11) = .inr (0, [.int 0, .int 0, .int 0, .int 0, .int 0, .int 0]) := by rw [eG40, kb_un (by omega)]; exact u39_0
  have o3 : G40 z = .inl (cy 2, 9, .inr (.inr (.inr (.inr (va_up (va_up (va_up (va_up (va_up (va_up (va_up (fun _ => none) 0 (some (z + 5))) 1 (some (z + 6))) 2 (some (z + 7))) 3 (some (z + 8))) 4 (some (z + 9))) 5 (some (z + 10))) 6 (some (z + 11))))))) := by rw [eG40]; exact kb_us
  refine lv_iinc (v := 7) (lv' := [(1, .int 7), (0, .ref h0)]) hx hb dX2_init_78 hl (k := 0) rfl (by decide) (by decide) rfl (fun ls hl => ?_)
  refine lv_goto (tgt := 59) hx hb dX2_init_81 (by decide) ?_
  refine lv_iload_n hx hb dX2_init_59 rfl (lv_at hl 0 rfl) ?_
  refine lv_bipush (v := 9) hx hb dX2_init_60 (by decide) ?_
  refine lv_icmp_ge (tgt := 84) hx hb dX2_init_62 (by decide) (fun c41 => absurd c41 (by decide)) (fun c41 => ?_)
  refine lv_aload_n hx hb dX2_init_65 rfl (lv_at hl 1 rfl) ?_
  refine kb_get hx hb hts hi2 hown hK hP (by omega) (by omega) oh rfl 3 (by decide) (hts (.fieldLink RX2 20 "NoonLaw$Realm" "dreams" "[LNoonLaw$Dream;") (by decide +kernel)) rfl rfl dX2_init_66 ?_
  refine lv_iload_n hx hb dX2_init_69 rfl (lv_at hl 0 rfl) ?_
  refine kb_new (C := RX0) (T := TX0) (N := 6) hx hb hts hi0 tyX0 tyX0_ok hown (hts (.classLink RX2 18 RX0) (by decide +kernel)) (hts (.instantiable RX0 6) (by decide +kernel)) (hts (.initialized RX0) (by decide +kernel)) hK hP hS (ci := 0) rfl [.int 0, .int 0, .int 0, .int 0, .int 0, .int 0] (fun j hj => by rcases (show j = 0 ∨ j = 1 ∨ j = 2 ∨ j = 3 ∨ j = 4 ∨ j = 5 by omega) with rfl | rfl | rfl | rfl | rfl | rfl <;> rfl) (Nat.le_of_ble_eq_true rfl) (Nat.le_of_ble_eq_true rfl) dX2_init_70 (fun H hP hS => ?_)
  obtain ⟨G42, eG42⟩ : ∃ q, q = kb_u G40 (z + 12) (.inr (0, [.int 0, .int 0, .int 0, .int 0, .int 0, .int 0])) := ⟨_, rfl⟩
  rw [← eG42] at hP
  have hF : ∀ q : Nat, q ≠ h0 → q < z → G42 q = G q := fun q h1 h2 => by rw [eG42, kb_un (by omega)]; exact hF q h1 h2
  have o5 : G42 (z + 1) = .inl (cy 3, 6, .inr (.inr (.inr (.inr (fun _ => none))))) := by rw [eG42, kb_un (by omega)]; exact o5
  have o7 : G42 (z + 2) = .inl (cy 4, 2, .inr (.inr (.inr (.inr (fun _ => none))))) := by rw [eG42, kb_un (by omega)]; exact o7
  have o9 : G42 (z + 3) = .inl (cy 1, 60, .inl (fun _ => 0)) := by rw [eG42, kb_un (by omega)]; exact o9
  have o11 : G42 (z + 4) = .inl (cy 0, 24, .inl (fun _ => 0)) := by rw [eG42, kb_un (by omega)]; exact o11
  have oh : G42 h0 = .inr (2, [.int 0, .int 22, .int 1, .ref z, .int 0, .ref (z + 1), .int 0, .ref (z + 2), .ref (z + 3), .int 0, .ref (z + 4), .int 0]) := by rw [eG42, kb_un (by omega)]; exact oh
  have u15_0 : G42 (z + 5) = .inr (0, [.int 0, .int 0, .int 0, .int 0, .int 0, .int 0]) := by rw [eG42, kb_un (by omega)]; exact u15_0
  have u19_0 : G42 (z + 6) = .inr (0, [.int 0, .int 0, .int 0, .int 0, .int 0, .int 0]) := by rw [eG42, kb_un (by omega)]; exact u19_0
  have u23_0 : G42 (z + 7) = .inr (0, [.int 0, .int 0, .int 0, .int 0, .int 0, .int 0]) := by rw [eG42, kb_un (by omega)]; exact u23_0
  have u27_0 : G42 (z + 8) = .inr (0, [.int 0, .int 0, .int 0, .int 0, .int 0, .int 0]) := by rw [eG42, kb_un (by omega)]; exact u27_0
  have u31_0 : G42 (z + 9) = .inr (0, [.int 0, .int 0, .int 0, .int 0, .int 0, .int 0]) := by rw [eG42, kb_un (by omega)]; exact u31_0
  have u35_0 : G42 (z + 10) = .inr (0, [.int 0, .int 0, .int 0, .int 0, .int 0, .int 0]) := by rw [eG42, kb_un (by omega)]; exact u35_0
  have u39_0 : G42 (z + 11) = .inr (0, [.int 0, .int 0, .int 0, .int 0, .int 0, .int 0]) := by rw [eG42, kb_un (by omega)]; exact u39_0
  have o3 : G42 z = .inl (cy 2, 9, .inr (.inr (.inr (.inr (va_up (va_up (va_up (va_up (va_up (va_up (va_up (fun _ => none) 0 (some (z + 5))) 1 (some (z + 6))) 2 (some (z + 7))) 3 (some (z + 8))) 4 (some (z + 9))) 5 (some (z + 10))) 6 (some (z + 11))))))) := by rw [eG42, kb_un (by omega)]; exact o3
  have o42 : G42 (z + 12) = .inr (0, [.int 0, .int 0, .int 0, .int 0, .int 0, .int 0]) := by rw [eG42]; exact kb_us
  have hP : kb_P D b G42 (z + 13) H := hP
  refine lv_dup hx hb dX2_init_73 rfl ?_
  refine kb_callN (rest := [.ref (z + 12), .int 7, .ref z]) ⟨hx, hb, hml, hown, hts⟩ hK hP hS (c_X0_init l D cy b G42 (z + 13) (z + 12) (by omega) (by omega) o42) ⟨va_cnB 0 hts gX2_init_X0_init_n44 rfl rfl rfl (hK.2.2.2.2.2.1) (hts (.initialized RX0) (by decide +kernel)) (by decide +kernel) ⟨Nat.le_of_ble_eq_true rfl, Nat.le_of_ble_eq_true rfl⟩, rfl, hts (.instanceMethod yX0_init) (by decide +kernel)⟩ hl.1 (Nat.le_of_ble_eq_true rfl) dX2_init_74 ⟨Nat.le_of_ble_eq_true rfl, Nat.le_of_ble_eq_true rfl⟩ (fun G43 H locs w43 hP hS => ?_)
  obtain ⟨w43a, w43⟩ := w43
  have o5 : G43 (z + 1) = .inl (cy 3, 6, .inr (.inr (.inr (.inr (fun _ => none))))) := (w43 _ (by omega) (by omega)).trans o5
  have o7 : G43 (z + 2) = .inl (cy 4, 2, .inr (.inr (.inr (.inr (fun _ => none))))) := (w43 _ (by omega) (by omega)).trans o7
  have o9 : G43 (z + 3) = .inl (cy 1, 60, .inl (fun _ => 0)) := (w43 _ (by omega) (by omega)).trans o9
  have o11 : G43 (z + 4) = .inl (cy 0, 24, .inl (fun _ => 0)) := (w43 _ (by omega) (by omega)).trans o11
  have oh : G43 h0 = .inr (2, [.int 0, .int 22, .int 1, .ref z, .int 0, .ref (z + 1), .int 0, .ref (z + 2), .ref (z + 3), .int 0, .ref (z + 4), .int 0]) := (w43 _ (by omega) (by omega)).trans oh
  have u15_0 : G43 (z + 5) = .inr (0, [.int 0, .int 0, .int 0, .int 0, .int 0, .int 0]) := (w43 _ (by omega) (by omega)).trans u15_0
  have u19_0 : G43 (z + 6) = .inr (0, [.int 0, .int 0, .int 0, .int 0, .int 0, .int 0]) := (w43 _ (by omega) (by omega)).trans u19_0
  have u23_0 : G43 (z + 7) = .inr (0, [.int 0, .int 0, .int 0, .int 0, .int 0, .int 0]) := (w43 _ (by omega) (by omega)).trans u23_0
  have u27_0 : G43 (z + 8) = .inr (0, [.int 0, .int 0, .int 0, .int 0, .int 0, .int 0]) := (w43 _ (by omega) (by omega)).trans u27_0
  have u31_0 : G43 (z + 9) = .inr (0, [.int 0, .int 0, .int 0, .int 0, .int 0, .int 0]) := (w43 _ (by omega) (by omega)).trans u31_0
  have u35_0 : G43 (z + 10) = .inr (0, [.int 0, .int 0, .int 0, .int 0, .int 0, .int 0]) := (w43 _ (by omega) (by omega)).trans u35_0
  have u39_0 : G43 (z + 11) = .inr (0, [.int 0, .int 0, .int 0, .int 0, .int 0, .int 0]) := (w43 _ (by omega) (by omega)).trans u39_0
  have o3 : G43 z = .inl (cy 2, 9, .inr (.inr (.inr (.inr (va_up (va_up (va_up (va_up (va_up (va_up (va_up (fun _ => none) 0 (some (z + 5))) 1 (some (z + 6))) 2 (some (z + 7))) 3 (some (z + 8))) 4 (some (z + 9))) 5 (some (z + 10))) 6 (some (z + 11))))))) := (w43 _ (by omega) (by omega)).trans o3
  have hF : ∀ q : Nat, q ≠ h0 → q < z → G43 q = G q := fun q h1 h2 => (w43 _ (by omega) (by omega)).trans (hF q h1 h2)
  obtain u43_0 := w43a
  have hP : kb_P D b G43 (z + 13) H := hP
  have k7 : (7 : Int32).toInt = 7 := by decide +kernel
  refine kb_aast hx hb hK hP hS (by omega) (by omega) 2 0 o3 rfl (by omega) (by omega) u43_0 rfl (by omega) (by omega) dX2_init_77 (fun j H locs ej hj hP hS => ?_)
  have ej : j = 7 := by omega
  subst ej
  obtain ⟨G44, eG44⟩ : ∃ q, q = kb_u G43 z (.inl (cy 2, 9, .inr (.inr (.inr (.inr (va_up (va_up (va_up (va_up (va_up (va_up (va_up (va_up (fun _ => none) 0 (some (z + 5))) 1 (some (z + 6))) 2 (some (z + 7))) 3 (some (z + 8))) 4 (some (z + 9))) 5 (some (z + 10))) 6 (some (z + 11))) 7 (some (z + 12)))))))) := ⟨_, rfl⟩
  rw [← eG44] at hP
  have hF : ∀ q : Nat, q ≠ h0 → q < z → G44 q = G q := fun q h1 h2 => by rw [eG44, kb_un (by omega)]; exact hF q h1 h2
  have o5 : G44 (z + 1) = .inl (cy 3, 6, .inr (.inr (.inr (.inr (fun _ => none))))) := by rw [eG44, kb_un (by omega)]; exact o5
  have o7 : G44 (z + 2) = .inl (cy 4, 2, .inr (.inr (.inr (.inr (fun _ => none))))) := by rw [eG44, kb_un (by omega)]; exact o7
  have o9 : G44 (z + 3) = .inl (cy 1, 60, .inl (fun _ => 0)) := by rw [eG44, kb_un (by omega)]; exact o9
  have o11 : G44 (z + 4) = .inl (cy 0, 24, .inl (fun _ => 0)) := by rw [eG44, kb_un (by omega)]; exact o11
  have oh : G44 h0 = .inr (2, [.int 0, .int 22, .int 1, .ref z, .int 0, .ref (z + 1), .int 0, .ref (z + 2), .ref (z + 3), .int 0, .ref (z + 4), .int 0]) := by rw [eG44, kb_un (by omega)]; exact oh
  have u15_0 : G44 (z + 5) = .inr (0, [.int 0, .int 0, .int 0, .int 0, .int 0, .int 0]) := by rw [eG44, kb_un (by omega)]; exact u15_0
  have u19_0 : G44 (z + 6) = .inr (0, [.int 0, .int 0, .int 0, .int 0, .int 0, .int 0]) := by rw [eG44, kb_un (by omega)]; exact u19_0
  have u23_0 : G44 (z + 7) = .inr (0, [.int 0, .int 0, .int 0, .int 0, .int 0, .int 0]) := by rw [eG44, kb_un (by omega)]; exact u23_0
  have u27_0 : G44 (z + 8) = .inr (0, [.int 0, .int 0, .int 0, .int 0, .int 0, .int 0]) := by rw [eG44, kb_un (by omega)]; exact u27_0
  have u31_0 : G44 (z + 9) = .inr (0, [.int 0, .int 0, .int 0, .int 0, .int 0, .int 0]) := by rw [eG44, kb_un (by omega)]; exact u31_0
  have u35_0 : G44 (z + 10) = .inr (0, [.int 0, .int 0, .int 0, .int 0, .int 0, .int 0]) := by rw [eG44, kb_un (by omega)]; exact u35_0
  have u39_0 : G44 (z + 11) = .inr (0, [.int 0, .int 0, .int 0, .int 0, .int 0, .int 0]) := by rw [eG44, kb_un (by omega)]; exact u39_0
  have u43_0 : G44 (z + 12) = .inr (0, [.int 0, .int 0, .int 0, .int 0, .int 0, .int 0]) := by rw [eG44, kb_un (by omega)]; exact u43_0
  have o3 : G44 z = .inl (cy 2, 9, .inr (.inr (.inr (.inr (va_up (va_up (va_up (va_up (va_up (va_up (va_up (va_up (fun _ => none) 0 (some (z + 5))) 1 (some (z + 6))) 2 (some (z + 7))) 3 (some (z + 8))) 4 (some (z + 9))) 5 (some (z + 10))) 6 (some (z + 11))) 7 (some (z + 12))))))) := by rw [eG44]; exact kb_us
  refine lv_iinc (v := 8) (lv' := [(1, .int 8), (0, .ref h0)]) hx hb dX2_init_78 hl (k := 0) rfl (by decide) (by decide) rfl (fun ls hl => ?_)
  refine lv_goto (tgt := 59) hx hb dX2_init_81 (by decide) ?_
  refine lv_iload_n hx hb dX2_init_59 rfl (lv_at hl 0 rfl) ?_
  refine lv_bipush (v := 9) hx hb dX2_init_60 (by decide) ?_
  refine lv_icmp_ge (tgt := 84) hx hb dX2_init_62 (by decide) (fun c45 => absurd c45 (by decide)) (fun c45 => ?_)
  refine lv_aload_n hx hb dX2_init_65 rfl (lv_at hl 1 rfl) ?_
  refine kb_get hx hb hts hi2 hown hK hP (by omega) (by omega) oh rfl 3 (by decide) (hts (.fieldLink RX2 20 "NoonLaw$Realm" "dreams" "[LNoonLaw$Dream;") (by decide +kernel)) rfl rfl dX2_init_66 ?_
  refine lv_iload_n hx hb dX2_init_69 rfl (lv_at hl 0 rfl) ?_
  refine kb_new (C := RX0) (T := TX0) (N := 6) hx hb hts hi0 tyX0 tyX0_ok hown (hts (.classLink RX2 18 RX0) (by decide +kernel)) (hts (.instantiable RX0 6) (by decide +kernel)) (hts (.initialized RX0) (by decide +kernel)) hK hP hS (ci := 0) rfl [.int 0, .int 0, .int 0, .int 0, .int 0, .int 0] (fun j hj => by rcases (show j = 0 ∨ j = 1 ∨ j = 2 ∨ j = 3 ∨ j = 4 ∨ j = 5 by omega) with rfl | rfl | rfl | rfl | rfl | rfl <;> rfl) (Nat.le_of_ble_eq_true rfl) (Nat.le_of_ble_eq_true rfl) dX2_init_70 (fun H hP hS => ?_)
  obtain ⟨G46, eG46⟩ : ∃ q, q = kb_u G44 (z + 13) (.inr (0, [.int 0, .int 0, .int 0, .int 0, .int 0, .int 0])) := ⟨_, rfl⟩
  rw [← eG46] at hP
  have hF : ∀ q : Nat, q ≠ h0 → q < z → G46 q = G q := fun q h1 h2 => by rw [eG46, kb_un (by omega)]; exact hF q h1 h2
  have o5 : G46 (z + 1) = .inl (cy 3, 6, .inr (.inr (.inr (.inr (fun _ => none))))) := by rw [eG46, kb_un (by omega)]; exact o5
  have o7 : G46 (z + 2) = .inl (cy 4, 2, .inr (.inr (.inr (.inr (fun _ => none))))) := by rw [eG46, kb_un (by omega)]; exact o7
  have o9 : G46 (z + 3) = .inl (cy 1, 60, .inl (fun _ => 0)) := by rw [eG46, kb_un (by omega)]; exact o9
  have o11 : G46 (z + 4) = .inl (cy 0, 24, .inl (fun _ => 0)) := by rw [eG46, kb_un (by omega)]; exact o11
  have oh : G46 h0 = .inr (2, [.int 0, .int 22, .int 1, .ref z, .int 0, .ref (z + 1), .int 0, .ref (z + 2), .ref (z + 3), .int 0, .ref (z + 4), .int 0]) := by rw [eG46, kb_un (by omega)]; exact oh
  have u15_0 : G46 (z + 5) = .inr (0, [.int 0, .int 0, .int 0, .int 0, .int 0, .int 0]) := by rw [eG46, kb_un (by omega)]; exact u15_0
  have u19_0 : G46 (z + 6) = .inr (0, [.int 0, .int 0, .int 0, .int 0, .int 0, .int 0]) := by rw [eG46, kb_un (by omega)]; exact u19_0
  have u23_0 : G46 (z + 7) = .inr (0, [.int 0, .int 0, .int 0, .int 0, .int 0, .int 0]) := by rw [eG46, kb_un (by omega)]; exact u23_0
  have u27_0 : G46 (z + 8) = .inr (0, [.int 0, .int 0, .int 0, .int 0, .int 0, .int 0]) := by rw [eG46, kb_un (by omega)]; exact u27_0
  have u31_0 : G46 (z + 9) = .inr (0, [.int 0, .int 0, .int 0, .int 0, .int 0, .int 0]) := by rw [eG46, kb_un (by omega)]; exact u31_0
  have u35_0 : G46 (z + 10) = .inr (0, [.int 0, .int 0, .int 0, .int 0, .int 0, .int 0]) := by rw [eG46, kb_un (by omega)]; exact u35_0
  have u39_0 : G46 (z + 11) = .inr (0, [.int 0, .int 0, .int 0, .int 0, .int 0, .int 0]) := by rw [eG46, kb_un (by omega)]; exact u39_0
  have u43_0 : G46 (z + 12) = .inr (0, [.int 0, .int 0, .int 0, .int 0, .int 0, .int 0]) := by rw [eG46, kb_un (by omega)]; exact u43_0
  have o3 : G46 z = .inl (cy 2, 9, .inr (.inr (.inr (.inr (va_up (va_up (va_up (va_up (va_up (va_up (va_up (va_up (fun _ => none) 0 (some (z + 5))) 1 (some (z + 6))) 2 (some (z + 7))) 3 (some (z + 8))) 4 (some (z + 9))) 5 (some (z + 10))) 6 (some (z + 11))) 7 (some (z + 12))))))) := by rw [eG46, kb_un (by omega)]; exact o3
  have o46 : G46 (z + 13) = .inr (0, [.int 0, .int 0, .int 0, .int 0, .int 0, .int 0]) := by rw [eG46]; exact kb_us
  have hP : kb_P D b G46 (z + 14) H := hP
  refine lv_dup hx hb dX2_init_73 rfl ?_
  refine kb_callN (rest := [.ref (z + 13), .int 8, .ref z]) ⟨hx, hb, hml, hown, hts⟩ hK hP hS (c_X0_init l D cy b G46 (z + 14) (z + 13) (by omega) (by omega) o46) ⟨va_cnB 0 hts gX2_init_X0_init_n44 rfl rfl rfl (hK.2.2.2.2.2.1) (hts (.initialized RX0) (by decide +kernel)) (by decide +kernel) ⟨Nat.le_of_ble_eq_true rfl, Nat.le_of_ble_eq_true rfl⟩, rfl, hts (.instanceMethod yX0_init) (by decide +kernel)⟩ hl.1 (Nat.le_of_ble_eq_true rfl) dX2_init_74 ⟨Nat.le_of_ble_eq_true rfl, Nat.le_of_ble_eq_true rfl⟩ (fun G47 H locs w47 hP hS => ?_)
  obtain ⟨w47a, w47⟩ := w47
  have o5 : G47 (z + 1) = .inl (cy 3, 6, .inr (.inr (.inr (.inr (fun _ => none))))) := (w47 _ (by omega) (by omega)).trans o5
  have o7 : G47 (z + 2) = .inl (cy 4, 2, .inr (.inr (.inr (.inr (fun _ => none))))) := (w47 _ (by omega) (by omega)).trans o7
  have o9 : G47 (z + 3) = .inl (cy 1, 60, .inl (fun _ => 0)) := (w47 _ (by omega) (by omega)).trans o9
  have o11 : G47 (z + 4) = .inl (cy 0, 24, .inl (fun _ => 0)) := (w47 _ (by omega) (by omega)).trans o11
  have oh : G47 h0 = .inr (2, [.int 0, .int 22, .int 1, .ref z, .int 0, .ref (z + 1), .int 0, .ref (z + 2), .ref (z + 3), .int 0, .ref (z + 4), .int 0]) := (w47 _ (by omega) (by omega)).trans oh
  have u15_0 : G47 (z + 5) = .inr (0, [.int 0, .int 0, .int 0, .int 0, .int 0, .int 0]) := (w47 _ (by omega) (by omega)).trans u15_0
  have u19_0 : G47 (z + 6) = .inr (0, [.int 0, .int 0, .int 0, .int 0, .int 0, .int 0]) := (w47 _ (by omega) (by omega)).trans u19_0
  have u23_0 : G47 (z + 7) = .inr (0, [.int 0, .int 0, .int 0, .int 0, .int 0, .int 0]) := (w47 _ (by omega) (by omega)).trans u23_0
  have u27_0 : G47 (z + 8) = .inr (0, [.int 0, .int 0, .int 0, .int 0, .int 0, .int 0]) := (w47 _ (by omega) (by omega)).trans u27_0
  have u31_0 : G47 (z + 9) = .inr (0, [.int 0, .int 0, .int 0, .int 0, .int 0, .int 0]) := (w47 _ (by omega) (by omega)).trans u31_0
  have u35_0 : G47 (z + 10) = .inr (0, [.int 0, .int 0, .int 0, .int 0, .int 0, .int 0]) := (w47 _ (by omega) (by omega)).trans u35_0
  have u39_0 : G47 (z + 11) = .inr (0, [.int 0, .int 0, .int 0, .int 0, .int 0, .int 0]) := (w47 _ (by omega) (by omega)).trans u39_0
  have u43_0 : G47 (z + 12) = .inr (0, [.int 0, .int 0, .int 0, .int 0, .int 0, .int 0]) := (w47 _ (by omega) (by omega)).trans u43_0
  have o3 : G47 z = .inl (cy 2, 9, .inr (.inr (.inr (.inr (va_up (va_up (va_up (va_up (va_up (va_up (va_up (va_up (fun _ => none) 0 (some (z + 5))) 1 (some (z + 6))) 2 (some (z + 7))) 3 (some (z + 8))) 4 (some (z + 9))) 5 (some (z + 10))) 6 (some (z + 11))) 7 (some (z + 12))))))) := (w47 _ (by omega) (by omega)).trans o3
  have hF : ∀ q : Nat, q ≠ h0 → q < z → G47 q = G q := fun q h1 h2 => (w47 _ (by omega) (by omega)).trans (hF q h1 h2)
  obtain u47_0 := w47a
  have hP : kb_P D b G47 (z + 14) H := hP
  have k8 : (8 : Int32).toInt = 8 := by decide +kernel
  refine kb_aast hx hb hK hP hS (by omega) (by omega) 2 0 o3 rfl (by omega) (by omega) u47_0 rfl (by omega) (by omega) dX2_init_77 (fun j H locs ej hj hP hS => ?_)
  have ej : j = 8 := by omega
  subst ej
  obtain ⟨G48, eG48⟩ : ∃ q, q = kb_u G47 z (.inl (cy 2, 9, .inr (.inr (.inr (.inr (va_up (va_up (va_up (va_up (va_up (va_up (va_up (va_up (va_up (fun _ => none) 0 (some (z + 5))) 1 (some (z + 6))) 2 (some (z + 7))) 3 (some (z + 8))) 4 (some (z + 9))) 5 (some (z + 10))) 6 (some (z + 11))) 7 (some (z + 12))) 8 (some (z + 13)))))))) := ⟨_, rfl⟩
  rw [← eG48] at hP
  have hF : ∀ q : Nat, q ≠ h0 → q < z → G48 q = G q := fun q h1 h2 => by rw [eG48, kb_un (by omega)]; exact hF q h1 h2
  have o5 : G48 (z + 1) = .inl (cy 3, 6, .inr (.inr (.inr (.inr (fun _ => none))))) := by rw [eG48, kb_un (by omega)]; exact o5
  have o7 : G48 (z + 2) = .inl (cy 4, 2, .inr (.inr (.inr (.inr (fun _ => none))))) := by rw [eG48, kb_un (by omega)]; exact o7
  have o9 : G48 (z + 3) = .inl (cy 1, 60, .inl (fun _ => 0)) := by rw [eG48, kb_un (by omega)]; exact o9
  have o11 : G48 (z + 4) = .inl (cy 0, 24, .inl (fun _ => 0)) := by rw [eG48, kb_un (by omega)]; exact o11
  have oh : G48 h0 = .inr (2, [.int 0, .int 22, .int 1, .ref z, .int 0, .ref (z + 1), .int 0, .ref (z + 2), .ref (z + 3), .int 0, .ref (z + 4), .int 0]) := by rw [eG48, kb_un (by omega)]; exact oh
  have u15_0 : G48 (z + 5) = .inr (0, [.int 0, .int 0, .int 0, .int 0, .int 0, .int 0]) := by rw [eG48, kb_un (by omega)]; exact u15_0
  have u19_0 : G48 (z + 6) = .inr (0, [.int 0, .int 0, .int 0, .int 0, .int 0, .int 0]) := by rw [eG48, kb_un (by omega)]; exact u19_0
  have u23_0 : G48 (z + 7) = .inr (0, [.int 0, .int 0, .int 0, .int 0, .int 0, .int 0]) := by rw [eG48, kb_un (by omega)]; exact u23_0
  have u27_0 : G48 (z + 8) = .inr (0, [.int 0, .int 0, .int 0, .int 0, .int 0, .int 0]) := by rw [eG48, kb_un (by omega)]; exact u27_0
  have u31_0 : G48 (z + 9) = .inr (0, [.int 0, .int 0, .int 0, .int 0, .int 0, .int 0]) := by rw [eG48, kb_un (by omega)]; exact u31_0
  have u35_0 : G48 (z + 10) = .inr (0, [.int 0, .int 0, .int 0, .int 0, .int 0, .int 0]) := by rw [eG48, kb_un (by omega)]; exact u35_0
  have u39_0 : G48 (z + 11) = .inr (0, [.int 0, .int 0, .int 0, .int 0, .int 0, .int 0]) := by rw [eG48, kb_un (by omega)]; exact u39_0
  have u43_0 : G48 (z + 12) = .inr (0, [.int 0, .int 0, .int 0, .int 0, .int 0, .int 0]) := by rw [eG48, kb_un (by omega)]; exact u43_0
  have u47_0 : G48 (z + 13) = .inr (0, [.int 0, .int 0, .int 0, .int 0, .int 0, .int 0]) := by rw [eG48, kb_un (by omega)]; exact u47_0
  have o3 : G48 z = .inl (cy 2, 9, .inr (.inr (.inr (.inr (va_up (va_up (va_up (va_up (va_up (va_up (va_up (va_up (va_up (fun _ => none) 0 (some (z + 5))) 1 (some (z + 6))) 2 (some (z + 7))) 3 (some (z + 8))) 4 (some (z + 9))) 5 (some (z + 10))) 6 (some (z + 11))) 7 (some (z + 12))) 8 (some (z + 13))))))) := by rw [eG48]; exact kb_us
  refine lv_iinc (v := 9) (lv' := [(1, .int 9), (0, .ref h0)]) hx hb dX2_init_78 hl (k := 0) rfl (by decide) (by decide) rfl (fun ls hl => ?_)
  refine lv_goto (tgt := 59) hx hb dX2_init_81 (by decide) ?_
  refine lv_iload_n hx hb dX2_init_59 rfl (lv_at hl 0 rfl) ?_
  refine lv_bipush (v := 9) hx hb dX2_init_60 (by decide) ?_
  refine lv_icmp_ge (tgt := 84) hx hb dX2_init_62 (by decide) (fun c49 => ?_) (fun c49 => absurd (by decide) c49)
  refine lv_iconst (v := 0) hx hb dX2_init_84 (by decide) ?_
  refine lv_istore_n (lv' := [(1, .int 0), (0, .ref h0)]) hx hb dX2_init_85 rfl hl (by decide) rfl (fun ls hl => ?_)
  refine lv_iload_n hx hb dX2_init_86 rfl (lv_at hl 0 rfl) ?_
  refine lv_bipush (v := 6) hx hb dX2_init_87 (by decide) ?_
  refine lv_icmp_ge (tgt := 111) hx hb dX2_init_89 (by decide) (fun c50 => absurd c50 (by decide)) (fun c50 => ?_)
  refine lv_aload_n hx hb dX2_init_92 rfl (lv_at hl 1 rfl) ?_
  refine kb_get hx hb hts hi2 hown hK hP (by omega) (by omega) oh rfl 5 (by decide) (hts (.fieldLink RX2 26 "NoonLaw$Realm" "people" "[LNoonLaw$Person;") (by decide +kernel)) rfl rfl dX2_init_93 ?_
  refine lv_iload_n hx hb dX2_init_96 rfl (lv_at hl 0 rfl) ?_
  refine kb_new (C := RX1) (T := TX1) (N := 2) hx hb hts hi1 tyX1 tyX1_ok hown (hts (.classLink RX2 24 RX1) (by decide +kernel)) (hts (.instantiable RX1 2) (by decide +kernel)) (hts (.initialized RX1) (by decide +kernel)) hK hP hS (ci := 1) rfl [.int 0, .int 0] (fun j hj => by rcases (show j = 0 ∨ j = 1 by omega) with rfl | rfl <;> rfl) (Nat.le_of_ble_eq_true rfl) (Nat.le_of_ble_eq_true rfl) dX2_init_97 (fun H hP hS => ?_)
  obtain ⟨G51, eG51⟩ : ∃ q, q = kb_u G48 (z + 14) (.inr (1, [.int 0, .int 0])) := ⟨_, rfl⟩
  rw [← eG51] at hP
  have hF : ∀ q : Nat, q ≠ h0 → q < z → G51 q = G q := fun q h1 h2 => by rw [eG51, kb_un (by omega)]; exact hF q h1 h2
  have o5 : G51 (z + 1) = .inl (cy 3, 6, .inr (.inr (.inr (.inr (fun _ => none))))) := by rw [eG51, kb_un (by omega)]; exact o5
  have o7 : G51 (z + 2) = .inl (cy 4, 2, .inr (.inr (.inr (.inr (fun _ => none))))) := by rw [eG51, kb_un (by omega)]; exact o7
  have o9 : G51 (z + 3) = .inl (cy 1, 60, .inl (fun _ => 0)) := by rw [eG51, kb_un (by omega)]; exact o9
  have o11 : G51 (z + 4) = .inl (cy 0, 24, .inl (fun _ => 0)) := by rw [eG51, kb_un (by omega)]; exact o11
  have oh : G51 h0 = .inr (2, [.int 0, .int 22, .int 1, .ref z, .int 0, .ref (z + 1), .int 0, .ref (z + 2), .ref (z + 3), .int 0, .ref (z + 4), .int 0]) := by rw [eG51, kb_un (by omega)]; exact oh
  have u15_0 : G51 (z + 5) = .inr (0, [.int 0, .int 0, .int 0, .int 0, .int 0, .int 0]) := by rw [eG51, kb_un (by omega)]; exact u15_0
  have u19_0 : G51 (z + 6) = .inr (0, [.int 0, .int 0, .int 0, .int 0, .int 0, .int 0]) := by rw [eG51, kb_un (by omega)]; exact u19_0
  have u23_0 : G51 (z + 7) = .inr (0, [.int 0, .int 0, .int 0, .int 0, .int 0, .int 0]) := by rw [eG51, kb_un (by omega)]; exact u23_0
  have u27_0 : G51 (z + 8) = .inr (0, [.int 0, .int 0, .int 0, .int 0, .int 0, .int 0]) := by rw [eG51, kb_un (by omega)]; exact u27_0
  have u31_0 : G51 (z + 9) = .inr (0, [.int 0, .int 0, .int 0, .int 0, .int 0, .int 0]) := by rw [eG51, kb_un (by omega)]; exact u31_0
  have u35_0 : G51 (z + 10) = .inr (0, [.int 0, .int 0, .int 0, .int 0, .int 0, .int 0]) := by rw [eG51, kb_un (by omega)]; exact u35_0
  have u39_0 : G51 (z + 11) = .inr (0, [.int 0, .int 0, .int 0, .int 0, .int 0, .int 0]) := by rw [eG51, kb_un (by omega)]; exact u39_0
  have u43_0 : G51 (z + 12) = .inr (0, [.int 0, .int 0, .int 0, .int 0, .int 0, .int 0]) := by rw [eG51, kb_un (by omega)]; exact u43_0
  have u47_0 : G51 (z + 13) = .inr (0, [.int 0, .int 0, .int 0, .int 0, .int 0, .int 0]) := by rw [eG51, kb_un (by omega)]; exact u47_0
  have o3 : G51 z = .inl (cy 2, 9, .inr (.inr (.inr (.inr (va_up (va_up (va_up (va_up (va_up (va_up (va_up (va_up (va_up (fun _ => none) 0 (some (z + 5))) 1 (some (z + 6))) 2 (some (z + 7))) 3 (some (z + 8))) 4 (some (z + 9))) 5 (some (z + 10))) 6 (some (z + 11))) 7 (some (z + 12))) 8 (some (z + 13))))))) := by rw [eG51, kb_un (by omega)]; exact o3
  have o51 : G51 (z + 14) = .inr (1, [.int 0, .int 0]) := by rw [eG51]; exact kb_us
  have hP : kb_P D b G51 (z + 15) H := hP
  refine lv_dup hx hb dX2_init_100 rfl ?_
  refine kb_callN (rest := [.ref (z + 14), .int 0, .ref (z + 1)]) ⟨hx, hb, hml, hown, hts⟩ hK hP hS (c_X1_init l D cy b G51 (z + 15) (z + 14) (by omega) (by omega) o51) ⟨va_cnB 0 hts gX2_init_X1_init_n45 rfl rfl rfl (hK.2.2.2.2.2.2.1) (hts (.initialized RX1) (by decide +kernel)) (by decide +kernel) ⟨Nat.le_of_ble_eq_true rfl, Nat.le_of_ble_eq_true rfl⟩, rfl, hts (.instanceMethod yX1_init) (by decide +kernel)⟩ hl.1 (Nat.le_of_ble_eq_true rfl) dX2_init_101 ⟨Nat.le_of_ble_eq_true rfl, Nat.le_of_ble_eq_true rfl⟩ (fun G52 H locs w52 hP hS => ?_)
  obtain ⟨w52a, w52⟩ := w52
  have o5 : G52 (z + 1) = .inl (cy 3, 6, .inr (.inr (.inr (.inr (fun _ => none))))) := (w52 _ (by omega) (by omega)).trans o5
  have o7 : G52 (z + 2) = .inl (cy 4, 2, .inr (.inr (.inr (.inr (fun _ => none))))) := (w52 _ (by omega) (by omega)).trans o7
  have o9 : G52 (z + 3) = .inl (cy 1, 60, .inl (fun _ => 0)) := (w52 _ (by omega) (by omega)).trans o9
  have o11 : G52 (z + 4) = .inl (cy 0, 24, .inl (fun _ => 0)) := (w52 _ (by omega) (by omega)).trans o11
  have oh : G52 h0 = .inr (2, [.int 0, .int 22, .int 1, .ref z, .int 0, .ref (z + 1), .int 0, .ref (z + 2), .ref (z + 3), .int 0, .ref (z + 4), .int 0]) := (w52 _ (by omega) (by omega)).trans oh
  have u15_0 : G52 (z + 5) = .inr (0, [.int 0, .int 0, .int 0, .int 0, .int 0, .int 0]) := (w52 _ (by omega) (by omega)).trans u15_0
  have u19_0 : G52 (z + 6) = .inr (0, [.int 0, .int 0, .int 0, .int 0, .int 0, .int 0]) := (w52 _ (by omega) (by omega)).trans u19_0
  have u23_0 : G52 (z + 7) = .inr (0, [.int 0, .int 0, .int 0, .int 0, .int 0, .int 0]) := (w52 _ (by omega) (by omega)).trans u23_0
  have u27_0 : G52 (z + 8) = .inr (0, [.int 0, .int 0, .int 0, .int 0, .int 0, .int 0]) := (w52 _ (by omega) (by omega)).trans u27_0
  have u31_0 : G52 (z + 9) = .inr (0, [.int 0, .int 0, .int 0, .int 0, .int 0, .int 0]) := (w52 _ (by omega) (by omega)).trans u31_0
  have u35_0 : G52 (z + 10) = .inr (0, [.int 0, .int 0, .int 0, .int 0, .int 0, .int 0]) := (w52 _ (by omega) (by omega)).trans u35_0
  have u39_0 : G52 (z + 11) = .inr (0, [.int 0, .int 0, .int 0, .int 0, .int 0, .int 0]) := (w52 _ (by omega) (by omega)).trans u39_0
  have u43_0 : G52 (z + 12) = .inr (0, [.int 0, .int 0, .int 0, .int 0, .int 0, .int 0]) := (w52 _ (by omega) (by omega)).trans u43_0
  have u47_0 : G52 (z + 13) = .inr (0, [.int 0, .int 0, .int 0, .int 0, .int 0, .int 0]) := (w52 _ (by omega) (by omega)).trans u47_0
  have o3 : G52 z = .inl (cy 2, 9, .inr (.inr (.inr (.inr (va_up (va_up (va_up (va_up (va_up (va_up (va_up (va_up (va_up (fun _ => none) 0 (some (z + 5))) 1 (some (z + 6))) 2 (some (z + 7))) 3 (some (z + 8))) 4 (some (z + 9))) 5 (some (z + 10))) 6 (some (z + 11))) 7 (some (z + 12))) 8 (some (z + 13))))))) := (w52 _ (by omega) (by omega)).trans o3
  have hF : ∀ q : Nat, q ≠ h0 → q < z → G52 q = G q := fun q h1 h2 => (w52 _ (by omega) (by omega)).trans (hF q h1 h2)
  obtain u52_0 := w52a
  have hP : kb_P D b G52 (z + 15) H := hP
  have k0 : (0 : Int32).toInt = 0 := by decide +kernel
  refine kb_aast hx hb hK hP hS (by omega) (by omega) 3 1 o5 rfl (by omega) (by omega) u52_0 rfl (by omega) (by omega) dX2_init_104 (fun j H locs ej hj hP hS => ?_)
  have ej : j = 0 := by omega
  subst ej
  obtain ⟨G53, eG53⟩ : ∃ q, q = kb_u G52 (z + 1) (.inl (cy 3, 6, .inr (.inr (.inr (.inr (va_up (fun _ => none) 0 (some (z + 14)))))))) := ⟨_, rfl⟩
  rw [← eG53] at hP
  have hF : ∀ q : Nat, q ≠ h0 → q < z → G53 q = G q := fun q h1 h2 => by rw [eG53, kb_un (by omega)]; exact hF q h1 h2
  have o7 : G53 (z + 2) = .inl (cy 4, 2, .inr (.inr (.inr (.inr (fun _ => none))))) := by rw [eG53, kb_un (by omega)]; exact o7
  have o9 : G53 (z + 3) = .inl (cy 1, 60, .inl (fun _ => 0)) := by rw [eG53, kb_un (by omega)]; exact o9
  have o11 : G53 (z + 4) = .inl (cy 0, 24, .inl (fun _ => 0)) := by rw [eG53, kb_un (by omega)]; exact o11
  have oh : G53 h0 = .inr (2, [.int 0, .int 22, .int 1, .ref z, .int 0, .ref (z + 1), .int 0, .ref (z + 2), .ref (z + 3), .int 0, .ref (z + 4), .int 0]) := by rw [eG53, kb_un (by omega)]; exact oh
  have u15_0 : G53 (z + 5) = .inr (0, [.int 0, .int 0, .int 0, .int 0, .int 0, .int 0]) := by rw [eG53, kb_un (by omega)]; exact u15_0
  have u19_0 : G53 (z + 6) = .inr (0, [.int 0, .int 0, .int 0, .int 0, .int 0, .int 0]) := by rw [eG53, kb_un (by omega)]; exact u19_0
  have u23_0 : G53 (z + 7) = .inr (0, [.int 0, .int 0, .int 0, .int 0, .int 0, .int 0]) := by rw [eG53, kb_un (by omega)]; exact u23_0
  have u27_0 : G53 (z + 8) = .inr (0, [.int 0, .int 0, .int 0, .int 0, .int 0, .int 0]) := by rw [eG53, kb_un (by omega)]; exact u27_0
  have u31_0 : G53 (z + 9) = .inr (0, [.int 0, .int 0, .int 0, .int 0, .int 0, .int 0]) := by rw [eG53, kb_un (by omega)]; exact u31_0
  have u35_0 : G53 (z + 10) = .inr (0, [.int 0, .int 0, .int 0, .int 0, .int 0, .int 0]) := by rw [eG53, kb_un (by omega)]; exact u35_0
  have u39_0 : G53 (z + 11) = .inr (0, [.int 0, .int 0, .int 0, .int 0, .int 0, .int 0]) := by rw [eG53, kb_un (by omega)]; exact u39_0
  have u43_0 : G53 (z + 12) = .inr (0, [.int 0, .int 0, .int 0, .int 0, .int 0, .int 0]) := by rw [eG53, kb_un (by omega)]; exact u43_0
  have u47_0 : G53 (z + 13) = .inr (0, [.int 0, .int 0, .int 0, .int 0, .int 0, .int 0]) := by rw [eG53, kb_un (by omega)]; exact u47_0
  have o3 : G53 z = .inl (cy 2, 9, .inr (.inr (.inr (.inr (va_up (va_up (va_up (va_up (va_up (va_up (va_up (va_up (va_up (fun _ => none) 0 (some (z + 5))) 1 (some (z + 6))) 2 (some (z + 7))) 3 (some (z + 8))) 4 (some (z + 9))) 5 (some (z + 10))) 6 (some (z + 11))) 7 (some (z + 12))) 8 (some (z + 13))))))) := by rw [eG53, kb_un (by omega)]; exact o3
  have u52_0 : G53 (z + 14) = .inr (1, [.int 0, .int 0]) := by rw [eG53, kb_un (by omega)]; exact u52_0
  have o5 : G53 (z + 1) = .inl (cy 3, 6, .inr (.inr (.inr (.inr (va_up (fun _ => none) 0 (some (z + 14))))))) := by rw [eG53]; exact kb_us
  refine lv_iinc (v := 1) (lv' := [(1, .int 1), (0, .ref h0)]) hx hb dX2_init_105 hl (k := 0) rfl (by decide) (by decide) rfl (fun ls hl => ?_)
  refine lv_goto (tgt := 86) hx hb dX2_init_108 (by decide) ?_
  refine lv_iload_n hx hb dX2_init_86 rfl (lv_at hl 0 rfl) ?_
  refine lv_bipush (v := 6) hx hb dX2_init_87 (by decide) ?_
  refine lv_icmp_ge (tgt := 111) hx hb dX2_init_89 (by decide) (fun c54 => absurd c54 (by decide)) (fun c54 => ?_)
  refine lv_aload_n hx hb dX2_init_92 rfl (lv_at hl 1 rfl) ?_
  refine kb_get hx hb hts hi2 hown hK hP (by omega) (by omega) oh rfl 5 (by decide) (hts (.fieldLink RX2 26 "NoonLaw$Realm" "people" "[LNoonLaw$Person;") (by decide +kernel)) rfl rfl dX2_init_93 ?_
  refine lv_iload_n hx hb dX2_init_96 rfl (lv_at hl 0 rfl) ?_
  refine kb_new (C := RX1) (T := TX1) (N := 2) hx hb hts hi1 tyX1 tyX1_ok hown (hts (.classLink RX2 24 RX1) (by decide +kernel)) (hts (.instantiable RX1 2) (by decide +kernel)) (hts (.initialized RX1) (by decide +kernel)) hK hP hS (ci := 1) rfl [.int 0, .int 0] (fun j hj => by rcases (show j = 0 ∨ j = 1 by omega) with rfl | rfl <;> rfl) (Nat.le_of_ble_eq_true rfl) (Nat.le_of_ble_eq_true rfl) dX2_init_97 (fun H hP hS => ?_)
  obtain ⟨G55, eG55⟩ : ∃ q, q = kb_u G53 (z + 15) (.inr (1, [.int 0, .int 0])) := ⟨_, rfl⟩
  rw [← eG55] at hP
  have hF : ∀ q : Nat, q ≠ h0 → q < z → G55 q = G q := fun q h1 h2 => by rw [eG55, kb_un (by omega)]; exact hF q h1 h2
  have o7 : G55 (z + 2) = .inl (cy 4, 2, .inr (.inr (.inr (.inr (fun _ => none))))) := by rw [eG55, kb_un (by omega)]; exact o7
  have o9 : G55 (z + 3) = .inl (cy 1, 60, .inl (fun _ => 0)) := by rw [eG55, kb_un (by omega)]; exact o9
  have o11 : G55 (z + 4) = .inl (cy 0, 24, .inl (fun _ => 0)) := by rw [eG55, kb_un (by omega)]; exact o11
  have oh : G55 h0 = .inr (2, [.int 0, .int 22, .int 1, .ref z, .int 0, .ref (z + 1), .int 0, .ref (z + 2), .ref (z + 3), .int 0, .ref (z + 4), .int 0]) := by rw [eG55, kb_un (by omega)]; exact oh
  have u15_0 : G55 (z + 5) = .inr (0, [.int 0, .int 0, .int 0, .int 0, .int 0, .int 0]) := by rw [eG55, kb_un (by omega)]; exact u15_0
  have u19_0 : G55 (z + 6) = .inr (0, [.int 0, .int 0, .int 0, .int 0, .int 0, .int 0]) := by rw [eG55, kb_un (by omega)]; exact u19_0
  have u23_0 : G55 (z + 7) = .inr (0, [.int 0, .int 0, .int 0, .int 0, .int 0, .int 0]) := by rw [eG55, kb_un (by omega)]; exact u23_0
  have u27_0 : G55 (z + 8) = .inr (0, [.int 0, .int 0, .int 0, .int 0, .int 0, .int 0]) := by rw [eG55, kb_un (by omega)]; exact u27_0
  have u31_0 : G55 (z + 9) = .inr (0, [.int 0, .int 0, .int 0, .int 0, .int 0, .int 0]) := by rw [eG55, kb_un (by omega)]; exact u31_0
  have u35_0 : G55 (z + 10) = .inr (0, [.int 0, .int 0, .int 0, .int 0, .int 0, .int 0]) := by rw [eG55, kb_un (by omega)]; exact u35_0
  have u39_0 : G55 (z + 11) = .inr (0, [.int 0, .int 0, .int 0, .int 0, .int 0, .int 0]) := by rw [eG55, kb_un (by omega)]; exact u39_0
  have u43_0 : G55 (z + 12) = .inr (0, [.int 0, .int 0, .int 0, .int 0, .int 0, .int 0]) := by rw [eG55, kb_un (by omega)]; exact u43_0
  have u47_0 : G55 (z + 13) = .inr (0, [.int 0, .int 0, .int 0, .int 0, .int 0, .int 0]) := by rw [eG55, kb_un (by omega)]; exact u47_0
  have o3 : G55 z = .inl (cy 2, 9, .inr (.inr (.inr (.inr (va_up (va_up (va_up (va_up (va_up (va_up (va_up (va_up (va_up (fun _ => none) 0 (some (z + 5))) 1 (some (z + 6))) 2 (some (z + 7))) 3 (some (z + 8))) 4 (some (z + 9))) 5 (some (z + 10))) 6 (some (z + 11))) 7 (some (z + 12))) 8 (some (z + 13))))))) := by rw [eG55, kb_un (by omega)]; exact o3
  have u52_0 : G55 (z + 14) = .inr (1, [.int 0, .int 0]) := by rw [eG55, kb_un (by omega)]; exact u52_0
  have o5 : G55 (z + 1) = .inl (cy 3, 6, .inr (.inr (.inr (.inr (va_up (fun _ => none) 0 (some (z + 14))))))) := by rw [eG55, kb_un (by omega)]; exact o5
  have o55 : G55 (z + 15) = .inr (1, [.int 0, .int 0]) := by rw [eG55]; exact kb_us
  have hP : kb_P D b G55 (z + 16) H := hP
  refine lv_dup hx hb dX2_init_100 rfl ?_
  refine kb_callN (rest := [.ref (z + 15), .int 1, .ref (z + 1)]) ⟨hx, hb, hml, hown, hts⟩ hK hP hS (c_X1_init l D cy b G55 (z + 16) (z + 15) (by omega) (by omega) o55) ⟨va_cnB 0 hts gX2_init_X1_init_n45 rfl rfl rfl (hK.2.2.2.2.2.2.1) (hts (.initialized RX1) (by decide +kernel)) (by decide +kernel) ⟨Nat.le_of_ble_eq_true rfl, Nat.le_of_ble_eq_true rfl⟩, rfl, hts (.instanceMethod yX1_init) (by decide +kernel)⟩ hl.1 (Nat.le_of_ble_eq_true rfl) dX2_init_101 ⟨Nat.le_of_ble_eq_true rfl, Nat.le_of_ble_eq_true rfl⟩ (fun G56 H locs w56 hP hS => ?_)
  obtain ⟨w56a, w56⟩ := w56
  have o7 : G56 (z + 2) = .inl (cy 4, 2, .inr (.inr (.inr (.inr (fun _ => none))))) := (w56 _ (by omega) (by omega)).trans o7
  have o9 : G56 (z + 3) = .inl (cy 1, 60, .inl (fun _ => 0)) := (w56 _ (by omega) (by omega)).trans o9
  have o11 : G56 (z + 4) = .inl (cy 0, 24, .inl (fun _ => 0)) := (w56 _ (by omega) (by omega)).trans o11
  have oh : G56 h0 = .inr (2, [.int 0, .int 22, .int 1, .ref z, .int 0, .ref (z + 1), .int 0, .ref (z + 2), .ref (z + 3), .int 0, .ref (z + 4), .int 0]) := (w56 _ (by omega) (by omega)).trans oh
  have u15_0 : G56 (z + 5) = .inr (0, [.int 0, .int 0, .int 0, .int 0, .int 0, .int 0]) := (w56 _ (by omega) (by omega)).trans u15_0
  have u19_0 : G56 (z + 6) = .inr (0, [.int 0, .int 0, .int 0, .int 0, .int 0, .int 0]) := (w56 _ (by omega) (by omega)).trans u19_0
  have u23_0 : G56 (z + 7) = .inr (0, [.int 0, .int 0, .int 0, .int 0, .int 0, .int 0]) := (w56 _ (by omega) (by omega)).trans u23_0
  have u27_0 : G56 (z + 8) = .inr (0, [.int 0, .int 0, .int 0, .int 0, .int 0, .int 0]) := (w56 _ (by omega) (by omega)).trans u27_0
  have u31_0 : G56 (z + 9) = .inr (0, [.int 0, .int 0, .int 0, .int 0, .int 0, .int 0]) := (w56 _ (by omega) (by omega)).trans u31_0
  have u35_0 : G56 (z + 10) = .inr (0, [.int 0, .int 0, .int 0, .int 0, .int 0, .int 0]) := (w56 _ (by omega) (by omega)).trans u35_0
  have u39_0 : G56 (z + 11) = .inr (0, [.int 0, .int 0, .int 0, .int 0, .int 0, .int 0]) := (w56 _ (by omega) (by omega)).trans u39_0
  have u43_0 : G56 (z + 12) = .inr (0, [.int 0, .int 0, .int 0, .int 0, .int 0, .int 0]) := (w56 _ (by omega) (by omega)).trans u43_0
  have u47_0 : G56 (z + 13) = .inr (0, [.int 0, .int 0, .int 0, .int 0, .int 0, .int 0]) := (w56 _ (by omega) (by omega)).trans u47_0
  have o3 : G56 z = .inl (cy 2, 9, .inr (.inr (.inr (.inr (va_up (va_up (va_up (va_up (va_up (va_up (va_up (va_up (va_up (fun _ => none) 0 (some (z + 5))) 1 (some (z + 6))) 2 (some (z + 7))) 3 (some (z + 8))) 4 (some (z + 9))) 5 (some (z + 10))) 6 (some (z + 11))) 7 (some (z + 12))) 8 (some (z + 13))))))) := (w56 _ (by omega) (by omega)).trans o3
  have u52_0 : G56 (z + 14) = .inr (1, [.int 0, .int 0]) := (w56 _ (by omega) (by omega)).trans u52_0
  have o5 : G56 (z + 1) = .inl (cy 3, 6, .inr (.inr (.inr (.inr (va_up (fun _ => none) 0 (some (z + 14))))))) := (w56 _ (by omega) (by omega)).trans o5
  have hF : ∀ q : Nat, q ≠ h0 → q < z → G56 q = G q := fun q h1 h2 => (w56 _ (by omega) (by omega)).trans (hF q h1 h2)
  obtain u56_0 := w56a
  have hP : kb_P D b G56 (z + 16) H := hP
  have k1 : (1 : Int32).toInt = 1 := by decide +kernel
  refine kb_aast hx hb hK hP hS (by omega) (by omega) 3 1 o5 rfl (by omega) (by omega) u56_0 rfl (by omega) (by omega) dX2_init_104 (fun j H locs ej hj hP hS => ?_)
  have ej : j = 1 := by omega
  subst ej
  obtain ⟨G57, eG57⟩ : ∃ q, q = kb_u G56 (z + 1) (.inl (cy 3, 6, .inr (.inr (.inr (.inr (va_up (va_up (fun _ => none) 0 (some (z + 14))) 1 (some (z + 15)))))))) := ⟨_, rfl⟩
  rw [← eG57] at hP
  have hF : ∀ q : Nat, q ≠ h0 → q < z → G57 q = G q := fun q h1 h2 => by rw [eG57, kb_un (by omega)]; exact hF q h1 h2
  have o7 : G57 (z + 2) = .inl (cy 4, 2, .inr (.inr (.inr (.inr (fun _ => none))))) := by rw [eG57, kb_un (by omega)]; exact o7
  have o9 : G57 (z + 3) = .inl (cy 1, 60, .inl (fun _ => 0)) := by rw [eG57, kb_un (by omega)]; exact o9
  have o11 : G57 (z + 4) = .inl (cy 0, 24, .inl (fun _ => 0)) := by rw [eG57, kb_un (by omega)]; exact o11
  have oh : G57 h0 = .inr (2, [.int 0, .int 22, .int 1, .ref z, .int 0, .ref (z + 1), .int 0, .ref (z + 2), .ref (z + 3), .int 0, .ref (z + 4), .int 0]) := by rw [eG57, kb_un (by omega)]; exact oh
  have u15_0 : G57 (z + 5) = .inr (0, [.int 0, .int 0, .int 0, .int 0, .int 0, .int 0]) := by rw [eG57, kb_un (by omega)]; exact u15_0
  have u19_0 : G57 (z + 6) = .inr (0, [.int 0, .int 0, .int 0, .int 0, .int 0, .int 0]) := by rw [eG57, kb_un (by omega)]; exact u19_0
  have u23_0 : G57 (z + 7) = .inr (0, [.int 0, .int 0, .int 0, .int 0, .int 0, .int 0]) := by rw [eG57, kb_un (by omega)]; exact u23_0
  have u27_0 : G57 (z + 8) = .inr (0, [.int 0, .int 0, .int 0, .int 0, .int 0, .int 0]) := by rw [eG57, kb_un (by omega)]; exact u27_0
  have u31_0 : G57 (z + 9) = .inr (0, [.int 0, .int 0, .int 0, .int 0, .int 0, .int 0]) := by rw [eG57, kb_un (by omega)]; exact u31_0
  have u35_0 : G57 (z + 10) = .inr (0, [.int 0, .int 0, .int 0, .int 0, .int 0, .int 0]) := by rw [eG57, kb_un (by omega)]; exact u35_0
  have u39_0 : G57 (z + 11) = .inr (0, [.int 0, .int 0, .int 0, .int 0, .int 0, .int 0]) := by rw [eG57, kb_un (by omega)]; exact u39_0
  have u43_0 : G57 (z + 12) = .inr (0, [.int 0, .int 0, .int 0, .int 0, .int 0, .int 0]) := by rw [eG57, kb_un (by omega)]; exact u43_0
  have u47_0 : G57 (z + 13) = .inr (0, [.int 0, .int 0, .int 0, .int 0, .int 0, .int 0]) := by rw [eG57, kb_un (by omega)]; exact u47_0
  have o3 : G57 z = .inl (cy 2, 9, .inr (.inr (.inr (.inr (va_up (va_up (va_up (va_up (va_up (va_up (va_up (va_up (va_up (fun _ => none) 0 (some (z + 5))) 1 (some (z + 6))) 2 (some (z + 7))) 3 (some (z + 8))) 4 (some (z + 9))) 5 (some (z + 10))) 6 (some (z + 11))) 7 (some (z + 12))) 8 (some (z + 13))))))) := by rw [eG57, kb_un (by omega)]; exact o3
  have u52_0 : G57 (z + 14) = .inr (1, [.int 0, .int 0]) := by rw [eG57, kb_un (by omega)]; exact u52_0
  have u56_0 : G57 (z + 15) = .inr (1, [.int 0, .int 0]) := by rw [eG57, kb_un (by omega)]; exact u56_0
  have o5 : G57 (z + 1) = .inl (cy 3, 6, .inr (.inr (.inr (.inr (va_up (va_up (fun _ => none) 0 (some (z + 14))) 1 (some (z + 15))))))) := by rw [eG57]; exact kb_us
  refine lv_iinc (v := 2) (lv' := [(1, .int 2), (0, .ref h0)]) hx hb dX2_init_105 hl (k := 0) rfl (by decide) (by decide) rfl (fun ls hl => ?_)
  refine lv_goto (tgt := 86) hx hb dX2_init_108 (by decide) ?_
  refine lv_iload_n hx hb dX2_init_86 rfl (lv_at hl 0 rfl) ?_
  refine lv_bipush (v := 6) hx hb dX2_init_87 (by decide) ?_
  refine lv_icmp_ge (tgt := 111) hx hb dX2_init_89 (by decide) (fun c58 => absurd c58 (by decide)) (fun c58 => ?_)
  refine lv_aload_n hx hb dX2_init_92 rfl (lv_at hl 1 rfl) ?_
  refine kb_get hx hb hts hi2 hown hK hP (by omega) (by omega) oh rfl 5 (by decide) (hts (.fieldLink RX2 26 "NoonLaw$Realm" "people" "[LNoonLaw$Person;") (by decide +kernel)) rfl rfl dX2_init_93 ?_
  refine lv_iload_n hx hb dX2_init_96 rfl (lv_at hl 0 rfl) ?_
  refine kb_new (C := RX1) (T := TX1) (N := 2) hx hb hts hi1 tyX1 tyX1_ok hown (hts (.classLink RX2 24 RX1) (by decide +kernel)) (hts (.instantiable RX1 2) (by decide +kernel)) (hts (.initialized RX1) (by decide +kernel)) hK hP hS (ci := 1) rfl [.int 0, .int 0] (fun j hj => by rcases (show j = 0 ∨ j = 1 by omega) with rfl | rfl <;> rfl) (Nat.le_of_ble_eq_true rfl) (Nat.le_of_ble_eq_true rfl) dX2_init_97 (fun H hP hS => ?_)
  obtain ⟨G59, eG59⟩ : ∃ q, q = kb_u G57 (z + 16) (.inr (1, [.int 0, .int 0])) := ⟨_, rfl⟩
  rw [← eG59] at hP
  have hF : ∀ q : Nat, q ≠ h0 → q < z → G59 q = G q := fun q h1 h2 => by rw [eG59, kb_un (by omega)]; exact hF q h1 h2
  have o7 : G59 (z + 2) = .inl (cy 4, 2, .inr (.inr (.inr (.inr (fun _ => none))))) := by rw [eG59, kb_un (by omega)]; exact o7
  have o9 : G59 (z + 3) = .inl (cy 1, 60, .inl (fun _ => 0)) := by rw [eG59, kb_un (by omega)]; exact o9
  have o11 : G59 (z + 4) = .inl (cy 0, 24, .inl (fun _ => 0)) := by rw [eG59, kb_un (by omega)]; exact o11
  have oh : G59 h0 = .inr (2, [.int 0, .int 22, .int 1, .ref z, .int 0, .ref (z + 1), .int 0, .ref (z + 2), .ref (z + 3), .int 0, .ref (z + 4), .int 0]) := by rw [eG59, kb_un (by omega)]; exact oh
  have u15_0 : G59 (z + 5) = .inr (0, [.int 0, .int 0, .int 0, .int 0, .int 0, .int 0]) := by rw [eG59, kb_un (by omega)]; exact u15_0
  have u19_0 : G59 (z + 6) = .inr (0, [.int 0, .int 0, .int 0, .int 0, .int 0, .int 0]) := by rw [eG59, kb_un (by omega)]; exact u19_0
  have u23_0 : G59 (z + 7) = .inr (0, [.int 0, .int 0, .int 0, .int 0, .int 0, .int 0]) := by rw [eG59, kb_un (by omega)]; exact u23_0
  have u27_0 : G59 (z + 8) = .inr (0, [.int 0, .int 0, .int 0, .int 0, .int 0, .int 0]) := by rw [eG59, kb_un (by omega)]; exact u27_0
  have u31_0 : G59 (z + 9) = .inr (0, [.int 0, .int 0, .int 0, .int 0, .int 0, .int 0]) := by rw [eG59, kb_un (by omega)]; exact u31_0
  have u35_0 : G59 (z + 10) = .inr (0, [.int 0, .int 0, .int 0, .int 0, .int 0, .int 0]) := by rw [eG59, kb_un (by omega)]; exact u35_0
  have u39_0 : G59 (z + 11) = .inr (0, [.int 0, .int 0, .int 0, .int 0, .int 0, .int 0]) := by rw [eG59, kb_un (by omega)]; exact u39_0
  have u43_0 : G59 (z + 12) = .inr (0, [.int 0, .int 0, .int 0, .int 0, .int 0, .int 0]) := by rw [eG59, kb_un (by omega)]; exact u43_0
  have u47_0 : G59 (z + 13) = .inr (0, [.int 0, .int 0, .int 0, .int 0, .int 0, .int 0]) := by rw [eG59, kb_un (by omega)]; exact u47_0
  have o3 : G59 z = .inl (cy 2, 9, .inr (.inr (.inr (.inr (va_up (va_up (va_up (va_up (va_up (va_up (va_up (va_up (va_up (fun _ => none) 0 (some (z + 5))) 1 (some (z + 6))) 2 (some (z + 7))) 3 (some (z + 8))) 4 (some (z + 9))) 5 (some (z + 10))) 6 (some (z + 11))) 7 (some (z + 12))) 8 (some (z + 13))))))) := by rw [eG59, kb_un (by omega)]; exact o3
  have u52_0 : G59 (z + 14) = .inr (1, [.int 0, .int 0]) := by rw [eG59, kb_un (by omega)]; exact u52_0
  have u56_0 : G59 (z + 15) = .inr (1, [.int 0, .int 0]) := by rw [eG59, kb_un (by omega)]; exact u56_0
  have o5 : G59 (z + 1) = .inl (cy 3, 6, .inr (.inr (.inr (.inr (va_up (va_up (fun _ => none) 0 (some (z + 14))) 1 (some (z + 15))))))) := by rw [eG59, kb_un (by omega)]; exact o5
  have o59 : G59 (z + 16) = .inr (1, [.int 0, .int 0]) := by rw [eG59]; exact kb_us
  have hP : kb_P D b G59 (z + 17) H := hP
  refine lv_dup hx hb dX2_init_100 rfl ?_
  refine kb_callN (rest := [.ref (z + 16), .int 2, .ref (z + 1)]) ⟨hx, hb, hml, hown, hts⟩ hK hP hS (c_X1_init l D cy b G59 (z + 17) (z + 16) (by omega) (by omega) o59) ⟨va_cnB 0 hts gX2_init_X1_init_n45 rfl rfl rfl (hK.2.2.2.2.2.2.1) (hts (.initialized RX1) (by decide +kernel)) (by decide +kernel) ⟨Nat.le_of_ble_eq_true rfl, Nat.le_of_ble_eq_true rfl⟩, rfl, hts (.instanceMethod yX1_init) (by decide +kernel)⟩ hl.1 (Nat.le_of_ble_eq_true rfl) dX2_init_101 ⟨Nat.le_of_ble_eq_true rfl, Nat.le_of_ble_eq_true rfl⟩ (fun G60 H locs w60 hP hS => ?_)
  obtain ⟨w60a, w60⟩ := w60
  have o7 : G60 (z + 2) = .inl (cy 4, 2, .inr (.inr (.inr (.inr (fun _ => none))))) := (w60 _ (by omega) (by omega)).trans o7
  have o9 : G60 (z + 3) = .inl (cy 1, 60, .inl (fun _ => 0)) := (w60 _ (by omega) (by omega)).trans o9
  have o11 : G60 (z + 4) = .inl (cy 0, 24, .inl (fun _ => 0)) := (w60 _ (by omega) (by omega)).trans o11
  have oh : G60 h0 = .inr (2, [.int 0, .int 22, .int 1, .ref z, .int 0, .ref (z + 1), .int 0, .ref (z + 2), .ref (z + 3), .int 0, .ref (z + 4), .int 0]) := (w60 _ (by omega) (by omega)).trans oh
  have u15_0 : G60 (z + 5) = .inr (0, [.int 0, .int 0, .int 0, .int 0, .int 0, .int 0]) := (w60 _ (by omega) (by omega)).trans u15_0
  have u19_0 : G60 (z + 6) = .inr (0, [.int 0, .int 0, .int 0, .int 0, .int 0, .int 0]) := (w60 _ (by omega) (by omega)).trans u19_0
  have u23_0 : G60 (z + 7) = .inr (0, [.int 0, .int 0, .int 0, .int 0, .int 0, .int 0]) := (w60 _ (by omega) (by omega)).trans u23_0
  have u27_0 : G60 (z + 8) = .inr (0, [.int 0, .int 0, .int 0, .int 0, .int 0, .int 0]) := (w60 _ (by omega) (by omega)).trans u27_0
  have u31_0 : G60 (z + 9) = .inr (0, [.int 0, .int 0, .int 0, .int 0, .int 0, .int 0]) := (w60 _ (by omega) (by omega)).trans u31_0
  have u35_0 : G60 (z + 10) = .inr (0, [.int 0, .int 0, .int 0, .int 0, .int 0, .int 0]) := (w60 _ (by omega) (by omega)).trans u35_0
  have u39_0 : G60 (z + 11) = .inr (0, [.int 0, .int 0, .int 0, .int 0, .int 0, .int 0]) := (w60 _ (by omega) (by omega)).trans u39_0
  have u43_0 : G60 (z + 12) = .inr (0, [.int 0, .int 0, .int 0, .int 0, .int 0, .int 0]) := (w60 _ (by omega) (by omega)).trans u43_0
  have u47_0 : G60 (z + 13) = .inr (0, [.int 0, .int 0, .int 0, .int 0, .int 0, .int 0]) := (w60 _ (by omega) (by omega)).trans u47_0
  have o3 : G60 z = .inl (cy 2, 9, .inr (.inr (.inr (.inr (va_up (va_up (va_up (va_up (va_up (va_up (va_up (va_up (va_up (fun _ => none) 0 (some (z + 5))) 1 (some (z + 6))) 2 (some (z + 7))) 3 (some (z + 8))) 4 (some (z + 9))) 5 (some (z + 10))) 6 (some (z + 11))) 7 (some (z + 12))) 8 (some (z + 13))))))) := (w60 _ (by omega) (by omega)).trans o3
  have u52_0 : G60 (z + 14) = .inr (1, [.int 0, .int 0]) := (w60 _ (by omega) (by omega)).trans u52_0
  have u56_0 : G60 (z + 15) = .inr (1, [.int 0, .int 0]) := (w60 _ (by omega) (by omega)).trans u56_0
  have o5 : G60 (z + 1) = .inl (cy 3, 6, .inr (.inr (.inr (.inr (va_up (va_up (fun _ => none) 0 (some (z + 14))) 1 (some (z + 15))))))) := (w60 _ (by omega) (by omega)).trans o5
  have hF : ∀ q : Nat, q ≠ h0 → q < z → G60 q = G q := fun q h1 h2 => (w60 _ (by omega) (by omega)).trans (hF q h1 h2)
  obtain u60_0 := w60a
  have hP : kb_P D b G60 (z + 17) H := hP
  have k2 : (2 : Int32).toInt = 2 := by decide +kernel
  refine kb_aast hx hb hK hP hS (by omega) (by omega) 3 1 o5 rfl (by omega) (by omega) u60_0 rfl (by omega) (by omega) dX2_init_104 (fun j H locs ej hj hP hS => ?_)
  have ej : j = 2 := by omega
  subst ej
  obtain ⟨G61, eG61⟩ : ∃ q, q = kb_u G60 (z + 1) (.inl (cy 3, 6, .inr (.inr (.inr (.inr (va_up (va_up (va_up (fun _ => none) 0 (some (z + 14))) 1 (some (z + 15))) 2 (some (z + 16)))))))) := ⟨_, rfl⟩
  rw [← eG61] at hP
  have hF : ∀ q : Nat, q ≠ h0 → q < z → G61 q = G q := fun q h1 h2 => by rw [eG61, kb_un (by omega)]; exact hF q h1 h2
  have o7 : G61 (z + 2) = .inl (cy 4, 2, .inr (.inr (.inr (.inr (fun _ => none))))) := by rw [eG61, kb_un (by omega)]; exact o7
  have o9 : G61 (z + 3) = .inl (cy 1, 60, .inl (fun _ => 0)) := by rw [eG61, kb_un (by omega)]; exact o9
  have o11 : G61 (z + 4) = .inl (cy 0, 24, .inl (fun _ => 0)) := by rw [eG61, kb_un (by omega)]; exact o11
  have oh : G61 h0 = .inr (2, [.int 0, .int 22, .int 1, .ref z, .int 0, .ref (z + 1), .int 0, .ref (z + 2), .ref (z + 3), .int 0, .ref (z + 4), .int 0]) := by rw [eG61, kb_un (by omega)]; exact oh
  have u15_0 : G61 (z + 5) = .inr (0, [.int 0, .int 0, .int 0, .int 0, .int 0, .int 0]) := by rw [eG61, kb_un (by omega)]; exact u15_0
  have u19_0 : G61 (z + 6) = .inr (0, [.int 0, .int 0, .int 0, .int 0, .int 0, .int 0]) := by rw [eG61, kb_un (by omega)]; exact u19_0
  have u23_0 : G61 (z + 7) = .inr (0, [.int 0, .int 0, .int 0, .int 0, .int 0, .int 0]) := by rw [eG61, kb_un (by omega)]; exact u23_0
  have u27_0 : G61 (z + 8) = .inr (0, [.int 0, .int 0, .int 0, .int 0, .int 0, .int 0]) := by rw [eG61, kb_un (by omega)]; exact u27_0
  have u31_0 : G61 (z + 9) = .inr (0, [.int 0, .int 0, .int 0, .int 0, .int 0, .int 0]) := by rw [eG61, kb_un (by omega)]; exact u31_0
  have u35_0 : G61 (z + 10) = .inr (0, [.int 0, .int 0, .int 0, .int 0, .int 0, .int 0]) := by rw [eG61, kb_un (by omega)]; exact u35_0
  have u39_0 : G61 (z + 11) = .inr (0, [.int 0, .int 0, .int 0, .int 0, .int 0, .int 0]) := by rw [eG61, kb_un (by omega)]; exact u39_0
  have u43_0 : G61 (z + 12) = .inr (0, [.int 0, .int 0, .int 0, .int 0, .int 0, .int 0]) := by rw [eG61, kb_un (by omega)]; exact u43_0
  have u47_0 : G61 (z + 13) = .inr (0, [.int 0, .int 0, .int 0, .int 0, .int 0, .int 0]) := by rw [eG61, kb_un (by omega)]; exact u47_0
  have o3 : G61 z = .inl (cy 2, 9, .inr (.inr (.inr (.inr (va_up (va_up (va_up (va_up (va_up (va_up (va_up (va_up (va_up (fun _ => none) 0 (some (z + 5))) 1 (some (z + 6))) 2 (some (z + 7))) 3 (some (z + 8))) 4 (some (z + 9))) 5 (some (z + 10))) 6 (some (z + 11))) 7 (some (z + 12))) 8 (some (z + 13))))))) := by rw [eG61, kb_un (by omega)]; exact o3
  have u52_0 : G61 (z + 14) = .inr (1, [.int 0, .int 0]) := by rw [eG61, kb_un (by omega)]; exact u52_0
  have u56_0 : G61 (z + 15) = .inr (1, [.int 0, .int 0]) := by rw [eG61, kb_un (by omega)]; exact u56_0
  have u60_0 : G61 (z + 16) = .inr (1, [.int 0, .int 0]) := by rw [eG61, kb_un (by omega)]; exact u60_0
  have o5 : G61 (z + 1) = .inl (cy 3, 6, .inr (.inr (.inr (.inr (va_up (va_up (va_up (fun _ => none) 0 (some (z + 14))) 1 (some (z + 15))) 2 (some (z + 16))))))) := by rw [eG61]; exact kb_us
  refine lv_iinc (v := 3) (lv' := [(1, .int 3), (0, .ref h0)]) hx hb dX2_init_105 hl (k := 0) rfl (by decide) (by decide) rfl (fun ls hl => ?_)
  refine lv_goto (tgt := 86) hx hb dX2_init_108 (by decide) ?_
  refine lv_iload_n hx hb dX2_init_86 rfl (lv_at hl 0 rfl) ?_
  refine lv_bipush (v := 6) hx hb dX2_init_87 (by decide) ?_
  refine lv_icmp_ge (tgt := 111) hx hb dX2_init_89 (by decide) (fun c62 => absurd c62 (by decide)) (fun c62 => ?_)
  refine lv_aload_n hx hb dX2_init_92 rfl (lv_at hl 1 rfl) ?_
  refine kb_get hx hb hts hi2 hown hK hP (by omega) (by omega) oh rfl 5 (by decide) (hts (.fieldLink RX2 26 "NoonLaw$Realm" "people" "[LNoonLaw$Person;") (by decide +kernel)) rfl rfl dX2_init_93 ?_
  refine lv_iload_n hx hb dX2_init_96 rfl (lv_at hl 0 rfl) ?_
  refine kb_new (C := RX1) (T := TX1) (N := 2) hx hb hts hi1 tyX1 tyX1_ok hown (hts (.classLink RX2 24 RX1) (by decide +kernel)) (hts (.instantiable RX1 2) (by decide +kernel)) (hts (.initialized RX1) (by decide +kernel)) hK hP hS (ci := 1) rfl [.int 0, .int 0] (fun j hj => by rcases (show j = 0 ∨ j = 1 by omega) with rfl | rfl <;> rfl) (Nat.le_of_ble_eq_true rfl) (Nat.le_of_ble_eq_true rfl) dX2_init_97 (fun H hP hS => ?_)
  obtain ⟨G63, eG63⟩ : ∃ q, q = kb_u G61 (z + 17) (.inr (1, [.int 0, .int 0])) := ⟨_, rfl⟩
  rw [← eG63] at hP
  have hF : ∀ q : Nat, q ≠ h0 → q < z → G63 q = G q := fun q h1 h2 => by rw [eG63, kb_un (by omega)]; exact hF q h1 h2
  have o7 : G63 (z + 2) = .inl (cy 4, 2, .inr (.inr (.inr (.inr (fun _ => none))))) := by rw [eG63, kb_un (by omega)]; exact o7
  have o9 : G63 (z + 3) = .inl (cy 1, 60, .inl (fun _ => 0)) := by rw [eG63, kb_un (by omega)]; exact o9
  have o11 : G63 (z + 4) = .inl (cy 0, 24, .inl (fun _ => 0)) := by rw [eG63, kb_un (by omega)]; exact o11
  have oh : G63 h0 = .inr (2, [.int 0, .int 22, .int 1, .ref z, .int 0, .ref (z + 1), .int 0, .ref (z + 2), .ref (z + 3), .int 0, .ref (z + 4), .int 0]) := by rw [eG63, kb_un (by omega)]; exact oh
  have u15_0 : G63 (z + 5) = .inr (0, [.int 0, .int 0, .int 0, .int 0, .int 0, .int 0]) := by rw [eG63, kb_un (by omega)]; exact u15_0
  have u19_0 : G63 (z + 6) = .inr (0, [.int 0, .int 0, .int 0, .int 0, .int 0, .int 0]) := by rw [eG63, kb_un (by omega)]; exact u19_0
  have u23_0 : G63 (z + 7) = .inr (0, [.int 0, .int 0, .int 0, .int 0, .int 0, .int 0]) := by rw [eG63, kb_un (by omega)]; exact u23_0
  have u27_0 : G63 (z + 8) = .inr (0, [.int 0, .int 0, .int 0, .int 0, .int 0, .int 0]) := by rw [eG63, kb_un (by omega)]; exact u27_0
  have u31_0 : G63 (z + 9) = .inr (0, [.int 0, .int 0, .int 0, .int 0, .int 0, .int 0]) := by rw [eG63, kb_un (by omega)]; exact u31_0
  have u35_0 : G63 (z + 10) = .inr (0, [.int 0, .int 0, .int 0, .int 0, .int 0, .int 0]) := by rw [eG63, kb_un (by omega)]; exact u35_0
  have u39_0 : G63 (z + 11) = .inr (0, [.int 0, .int 0, .int 0, .int 0, .int 0, .int 0]) := by rw [eG63, kb_un (by omega)]; exact u39_0
  have u43_0 : G63 (z + 12) = .inr (0, [.int 0, .int 0, .int 0, .int 0, .int 0, .int 0]) := by rw [eG63, kb_un (by omega)]; exact u43_0
  have u47_0 : G63 (z + 13) = .inr (0, [.int 0, .int 0, .int 0, .int 0, .int 0, .int 0]) := by rw [eG63, kb_un (by omega)]; exact u47_0
  have o3 : G63 z = .inl (cy 2, 9, .inr (.inr (.inr (.inr (va_up (va_up (va_up (va_up (va_up (va_up (va_up (va_up (va_up (fun _ => none) 0 (some (z + 5))) 1 (some (z + 6))) 2 (some (z + 7))) 3 (some (z + 8))) 4 (some (z + 9))) 5 (some (z + 10))) 6 (some (z + 11))) 7 (some (z + 12))) 8 (some (z + 13))))))) := by rw [eG63, kb_un (by omega)]; exact o3
  have u52_0 : G63 (z + 14) = .inr (1, [.int 0, .int 0]) := by rw [eG63, kb_un (by omega)]; exact u52_0
  have u56_0 : G63 (z + 15) = .inr (1, [.int 0, .int 0]) := by rw [eG63, kb_un (by omega)]; exact u56_0
  have u60_0 : G63 (z + 16) = .inr (1, [.int 0, .int 0]) := by rw [eG63, kb_un (by omega)]; exact u60_0
  have o5 : G63 (z + 1) = .inl (cy 3, 6, .inr (.inr (.inr (.inr (va_up (va_up (va_up (fun _ => none) 0 (some (z + 14))) 1 (some (z + 15))) 2 (some (z + 16))))))) := by rw [eG63, kb_un (by omega)]; exact o5
  have o63 : G63 (z + 17) = .inr (1, [.int 0, .int 0]) := by rw [eG63]; exact kb_us
  have hP : kb_P D b G63 (z + 18) H := hP
  refine lv_dup hx hb dX2_init_100 rfl ?_
  refine kb_callN (rest := [.ref (z + 17), .int 3, .ref (z + 1)]) ⟨hx, hb, hml, hown, hts⟩ hK hP hS (c_X1_init l D cy b G63 (z + 18) (z + 17) (by omega) (by omega) o63) ⟨va_cnB 0 hts gX2_init_X1_init_n45 rfl rfl rfl (hK.2.2.2.2.2.2.1) (hts (.initialized RX1) (by decide +kernel)) (by decide +kernel) ⟨Nat.le_of_ble_eq_true rfl, Nat.le_of_ble_eq_true rfl⟩, rfl, hts (.instanceMethod yX1_init) (by decide +kernel)⟩ hl.1 (Nat.le_of_ble_eq_true rfl) dX2_init_101 ⟨Nat.le_of_ble_eq_true rfl, Nat.le_of_ble_eq_true rfl⟩ (fun G64 H locs w64 hP hS => ?_)
  obtain ⟨w64a, w64⟩ := w64
  have o7 : G64 (z + 2) = .inl (cy 4, 2, .inr (.inr (.inr (.inr (fun _ => none))))) := (w64 _ (by omega) (by omega)).trans o7
  have o9 : G64 (z + 3) = .inl (cy 1, 60, .inl (fun _ => 0)) := (w64 _ (by omega) (by omega)).trans o9
  have o11 : G64 (z + 4) = .inl (cy 0, 24, .inl (fun _ => 0)) := (w64 _ (by omega) (by omega)).trans o11
  have oh : G64 h0 = .inr (2, [.int 0, .int 22, .int 1, .ref z, .int 0, .ref (z + 1), .int 0, .ref (z + 2), .ref (z + 3), .int 0, .ref (z + 4), .int 0]) := (w64 _ (by omega) (by omega)).trans oh
  have u15_0 : G64 (z + 5) = .inr (0, [.int 0, .int 0, .int 0, .int 0, .int 0, .int 0]) := (w64 _ (by omega) (by omega)).trans u15_0
  have u19_0 : G64 (z + 6) = .inr (0, [.int 0, .int 0, .int 0, .int 0, .int 0, .int 0]) := (w64 _ (by omega) (by omega)).trans u19_0
  have u23_0 : G64 (z + 7) = .inr (0, [.int 0, .int 0, .int 0, .int 0, .int 0, .int 0]) := (w64 _ (by omega) (by omega)).trans u23_0
  have u27_0 : G64 (z + 8) = .inr (0, [.int 0, .int 0, .int 0, .int 0, .int 0, .int 0]) := (w64 _ (by omega) (by omega)).trans u27_0
  have u31_0 : G64 (z + 9) = .inr (0, [.int 0, .int 0, .int 0, .int 0, .int 0, .int 0]) := (w64 _ (by omega) (by omega)).trans u31_0
  have u35_0 : G64 (z + 10) = .inr (0, [.int 0, .int 0, .int 0, .int 0, .int 0, .int 0]) := (w64 _ (by omega) (by omega)).trans u35_0
  have u39_0 : G64 (z + 11) = .inr (0, [.int 0, .int 0, .int 0, .int 0, .int 0, .int 0]) := (w64 _ (by omega) (by omega)).trans u39_0
  have u43_0 : G64 (z + 12) = .inr (0, [.int 0, .int 0, .int 0, .int 0, .int 0, .int 0]) := (w64 _ (by omega) (by omega)).trans u43_0
  have u47_0 : G64 (z + 13) = .inr (0, [.int 0, .int 0, .int 0, .int 0, .int 0, .int 0]) := (w64 _ (by omega) (by omega)).trans u47_0
  have o3 : G64 z = .inl (cy 2, 9, .inr (.inr (.inr (.inr (va_up (va_up (va_up (va_up (va_up (va_up (va_up (va_up (va_up (fun _ => none) 0 (some (z + 5))) 1 (some (z + 6))) 2 (some (z + 7))) 3 (some (z + 8))) 4 (some (z + 9))) 5 (some (z + 10))) 6 (some (z + 11))) 7 (some (z + 12))) 8 (some (z + 13))))))) := (w64 _ (by omega) (by omega)).trans o3
  have u52_0 : G64 (z + 14) = .inr (1, [.int 0, .int 0]) := (w64 _ (by omega) (by omega)).trans u52_0
  have u56_0 : G64 (z + 15) = .inr (1, [.int 0, .int 0]) := (w64 _ (by omega) (by omega)).trans u56_0
  have u60_0 : G64 (z + 16) = .inr (1, [.int 0, .int 0]) := (w64 _ (by omega) (by omega)).trans u60_0
  have o5 : G64 (z + 1) = .inl (cy 3, 6, .inr (.inr (.inr (.inr (va_up (va_up (va_up (fun _ => none) 0 (some (z + 14))) 1 (some (z + 15))) 2 (some (z + 16))))))) := (w64 _ (by omega) (by omega)).trans o5
  have hF : ∀ q : Nat, q ≠ h0 → q < z → G64 q = G q := fun q h1 h2 => (w64 _ (by omega) (by omega)).trans (hF q h1 h2)
  obtain u64_0 := w64a
  have hP : kb_P D b G64 (z + 18) H := hP
  have k3 : (3 : Int32).toInt = 3 := by decide +kernel
  refine kb_aast hx hb hK hP hS (by omega) (by omega) 3 1 o5 rfl (by omega) (by omega) u64_0 rfl (by omega) (by omega) dX2_init_104 (fun j H locs ej hj hP hS => ?_)
  have ej : j = 3 := by omega
  subst ej
  obtain ⟨G65, eG65⟩ : ∃ q, q = kb_u G64 (z + 1) (.inl (cy 3, 6, .inr (.inr (.inr (.inr (va_up (va_up (va_up (va_up (fun _ => none) 0 (some (z + 14))) 1 (some (z + 15))) 2 (some (z + 16))) 3 (some (z + 17)))))))) := ⟨_, rfl⟩
  rw [← eG65] at hP
  have hF : ∀ q : Nat, q ≠ h0 → q < z → G65 q = G q := fun q h1 h2 => by rw [eG65, kb_un (by omega)]; exact hF q h1 h2
  have o7 : G65 (z + 2) = .inl (cy 4, 2, .inr (.inr (.inr (.inr (fun _ => none))))) := by rw [eG65, kb_un (by omega)]; exact o7
  have o9 : G65 (z + 3) = .inl (cy 1, 60, .inl (fun _ => 0)) := by rw [eG65, kb_un (by omega)]; exact o9
  have o11 : G65 (z + 4) = .inl (cy 0, 24, .inl (fun _ => 0)) := by rw [eG65, kb_un (by omega)]; exact o11
  have oh : G65 h0 = .inr (2, [.int 0, .int 22, .int 1, .ref z, .int 0, .ref (z + 1), .int 0, .ref (z + 2), .ref (z + 3), .int 0, .ref (z + 4), .int 0]) := by rw [eG65, kb_un (by omega)]; exact oh
  have u15_0 : G65 (z + 5) = .inr (0, [.int 0, .int 0, .int 0, .int 0, .int 0, .int 0]) := by rw [eG65, kb_un (by omega)]; exact u15_0
  have u19_0 : G65 (z + 6) = .inr (0, [.int 0, .int 0, .int 0, .int 0, .int 0, .int 0]) := by rw [eG65, kb_un (by omega)]; exact u19_0
  have u23_0 : G65 (z + 7) = .inr (0, [.int 0, .int 0, .int 0, .int 0, .int 0, .int 0]) := by rw [eG65, kb_un (by omega)]; exact u23_0
  have u27_0 : G65 (z + 8) = .inr (0, [.int 0, .int 0, .int 0, .int 0, .int 0, .int 0]) := by rw [eG65, kb_un (by omega)]; exact u27_0
  have u31_0 : G65 (z + 9) = .inr (0, [.int 0, .int 0, .int 0, .int 0, .int 0, .int 0]) := by rw [eG65, kb_un (by omega)]; exact u31_0
  have u35_0 : G65 (z + 10) = .inr (0, [.int 0, .int 0, .int 0, .int 0, .int 0, .int 0]) := by rw [eG65, kb_un (by omega)]; exact u35_0
  have u39_0 : G65 (z + 11) = .inr (0, [.int 0, .int 0, .int 0, .int 0, .int 0, .int 0]) := by rw [eG65, kb_un (by omega)]; exact u39_0
  have u43_0 : G65 (z + 12) = .inr (0, [.int 0, .int 0, .int 0, .int 0, .int 0, .int 0]) := by rw [eG65, kb_un (by omega)]; exact u43_0
  have u47_0 : G65 (z + 13) = .inr (0, [.int 0, .int 0, .int 0, .int 0, .int 0, .int 0]) := by rw [eG65, kb_un (by omega)]; exact u47_0
  have o3 : G65 z = .inl (cy 2, 9, .inr (.inr (.inr (.inr (va_up (va_up (va_up (va_up (va_up (va_up (va_up (va_up (va_up (fun _ => none) 0 (some (z + 5))) 1 (some (z + 6))) 2 (some (z + 7))) 3 (some (z + 8))) 4 (some (z + 9))) 5 (some (z + 10))) 6 (some (z + 11))) 7 (some (z + 12))) 8 (some (z + 13))))))) := by rw [eG65, kb_un (by omega)]; exact o3
  have u52_0 : G65 (z + 14) = .inr (1, [.int 0, .int 0]) := by rw [eG65, kb_un (by omega)]; exact u52_0
  have u56_0 : G65 (z + 15) = .inr (1, [.int 0, .int 0]) := by rw [eG65, kb_un (by omega)]; exact u56_0
  have u60_0 : G65 (z + 16) = .inr (1, [.int 0, .int 0]) := by rw [eG65, kb_un (by omega)]; exact u60_0
  have u64_0 : G65 (z + 17) = .inr (1, [.int 0, .int 0]) := by rw [eG65, kb_un (by omega)]; exact u64_0
  have o5 : G65 (z + 1) = .inl (cy 3, 6, .inr (.inr (.inr (.inr (va_up (va_up (va_up (va_up (fun _ => none) 0 (some (z + 14))) 1 (some (z + 15))) 2 (some (z + 16))) 3 (some (z + 17))))))) := by rw [eG65]; exact kb_us
  refine lv_iinc (v := 4) (lv' := [(1, .int 4), (0, .ref h0)]) hx hb dX2_init_105 hl (k := 0) rfl (by decide) (by decide) rfl (fun ls hl => ?_)
  refine lv_goto (tgt := 86) hx hb dX2_init_108 (by decide) ?_
  refine lv_iload_n hx hb dX2_init_86 rfl (lv_at hl 0 rfl) ?_
  refine lv_bipush (v := 6) hx hb dX2_init_87 (by decide) ?_
  refine lv_icmp_ge (tgt := 111) hx hb dX2_init_89 (by decide) (fun c66 => absurd c66 (by decide)) (fun c66 => ?_)
  refine lv_aload_n hx hb dX2_init_92 rfl (lv_at hl 1 rfl) ?_
  refine kb_get hx hb hts hi2 hown hK hP (by omega) (by omega) oh rfl 5 (by decide) (hts (.fieldLink RX2 26 "NoonLaw$Realm" "people" "[LNoonLaw$Person;") (by decide +kernel)) rfl rfl dX2_init_93 ?_
  refine lv_iload_n hx hb dX2_init_96 rfl (lv_at hl 0 rfl) ?_
  refine kb_new (C := RX1) (T := TX1) (N := 2) hx hb hts hi1 tyX1 tyX1_ok hown (hts (.classLink RX2 24 RX1) (by decide +kernel)) (hts (.instantiable RX1 2) (by decide +kernel)) (hts (.initialized RX1) (by decide +kernel)) hK hP hS (ci := 1) rfl [.int 0, .int 0] (fun j hj => by rcases (show j = 0 ∨ j = 1 by omega) with rfl | rfl <;> rfl) (Nat.le_of_ble_eq_true rfl) (Nat.le_of_ble_eq_true rfl) dX2_init_97 (fun H hP hS => ?_)
  obtain ⟨G67, eG67⟩ : ∃ q, q = kb_u G65 (z + 18) (.inr (1, [.int 0, .int 0])) := ⟨_, rfl⟩
  rw [← eG67] at hP
  have hF : ∀ q : Nat, q ≠ h0 → q < z → G67 q = G q := fun q h1 h2 => by rw [eG67, kb_un (by omega)]; exact hF q h1 h2
  have o7 : G67 (z + 2) = .inl (cy 4, 2, .inr (.inr (.inr (.inr (fun _ => none))))) := by rw [eG67, kb_un (by omega)]; exact o7
  have o9 : G67 (z + 3) = .inl (cy 1, 60, .inl (fun _ => 0)) := by rw [eG67, kb_un (by omega)]; exact o9
  have o11 : G67 (z + 4) = .inl (cy 0, 24, .inl (fun _ => 0)) := by rw [eG67, kb_un (by omega)]; exact o11
  have oh : G67 h0 = .inr (2, [.int 0, .int 22, .int 1, .ref z, .int 0, .ref (z + 1), .int 0, .ref (z + 2), .ref (z + 3), .int 0, .ref (z + 4), .int 0]) := by rw [eG67, kb_un (by omega)]; exact oh
  have u15_0 : G67 (z + 5) = .inr (0, [.int 0, .int 0, .int 0, .int 0, .int 0, .int 0]) := by rw [eG67, kb_un (by omega)]; exact u15_0
  have u19_0 : G67 (z + 6) = .inr (0, [.int 0, .int 0, .int 0, .int 0, .int 0, .int 0]) := by rw [eG67, kb_un (by omega)]; exact u19_0
  have u23_0 : G67 (z + 7) = .inr (0, [.int 0, .int 0, .int 0, .int 0, .int 0, .int 0]) := by rw [eG67, kb_un (by omega)]; exact u23_0
  have u27_0 : G67 (z + 8) = .inr (0, [.int 0, .int 0, .int 0, .int 0, .int 0, .int 0]) := by rw [eG67, kb_un (by omega)]; exact u27_0
  have u31_0 : G67 (z + 9) = .inr (0, [.int 0, .int 0, .int 0, .int 0, .int 0, .int 0]) := by rw [eG67, kb_un (by omega)]; exact u31_0
  have u35_0 : G67 (z + 10) = .inr (0, [.int 0, .int 0, .int 0, .int 0, .int 0, .int 0]) := by rw [eG67, kb_un (by omega)]; exact u35_0
  have u39_0 : G67 (z + 11) = .inr (0, [.int 0, .int 0, .int 0, .int 0, .int 0, .int 0]) := by rw [eG67, kb_un (by omega)]; exact u39_0
  have u43_0 : G67 (z + 12) = .inr (0, [.int 0, .int 0, .int 0, .int 0, .int 0, .int 0]) := by rw [eG67, kb_un (by omega)]; exact u43_0
  have u47_0 : G67 (z + 13) = .inr (0, [.int 0, .int 0, .int 0, .int 0, .int 0, .int 0]) := by rw [eG67, kb_un (by omega)]; exact u47_0
  have o3 : G67 z = .inl (cy 2, 9, .inr (.inr (.inr (.inr (va_up (va_up (va_up (va_up (va_up (va_up (va_up (va_up (va_up (fun _ => none) 0 (some (z + 5))) 1 (some (z + 6))) 2 (some (z + 7))) 3 (some (z + 8))) 4 (some (z + 9))) 5 (some (z + 10))) 6 (some (z + 11))) 7 (some (z + 12))) 8 (some (z + 13))))))) := by rw [eG67, kb_un (by omega)]; exact o3
  have u52_0 : G67 (z + 14) = .inr (1, [.int 0, .int 0]) := by rw [eG67, kb_un (by omega)]; exact u52_0
  have u56_0 : G67 (z + 15) = .inr (1, [.int 0, .int 0]) := by rw [eG67, kb_un (by omega)]; exact u56_0
  have u60_0 : G67 (z + 16) = .inr (1, [.int 0, .int 0]) := by rw [eG67, kb_un (by omega)]; exact u60_0
  have u64_0 : G67 (z + 17) = .inr (1, [.int 0, .int 0]) := by rw [eG67, kb_un (by omega)]; exact u64_0
  have o5 : G67 (z + 1) = .inl (cy 3, 6, .inr (.inr (.inr (.inr (va_up (va_up (va_up (va_up (fun _ => none) 0 (some (z + 14))) 1 (some (z + 15))) 2 (some (z + 16))) 3 (some (z + 17))))))) := by rw [eG67, kb_un (by omega)]; exact o5
  have o67 : G67 (z + 18) = .inr (1, [.int 0, .int 0]) := by rw [eG67]; exact kb_us
  have hP : kb_P D b G67 (z + 19) H := hP
  refine lv_dup hx hb dX2_init_100 rfl ?_
  refine kb_callN (rest := [.ref (z + 18), .int 4, .ref (z + 1)]) ⟨hx, hb, hml, hown, hts⟩ hK hP hS (c_X1_init l D cy b G67 (z + 19) (z + 18) (by omega) (by omega) o67) ⟨va_cnB 0 hts gX2_init_X1_init_n45 rfl rfl rfl (hK.2.2.2.2.2.2.1) (hts (.initialized RX1) (by decide +kernel)) (by decide +kernel) ⟨Nat.le_of_ble_eq_true rfl, Nat.le_of_ble_eq_true rfl⟩, rfl, hts (.instanceMethod yX1_init) (by decide +kernel)⟩ hl.1 (Nat.le_of_ble_eq_true rfl) dX2_init_101 ⟨Nat.le_of_ble_eq_true rfl, Nat.le_of_ble_eq_true rfl⟩ (fun G68 H locs w68 hP hS => ?_)
  obtain ⟨w68a, w68⟩ := w68
  have o7 : G68 (z + 2) = .inl (cy 4, 2, .inr (.inr (.inr (.inr (fun _ => none))))) := (w68 _ (by omega) (by omega)).trans o7
  have o9 : G68 (z + 3) = .inl (cy 1, 60, .inl (fun _ => 0)) := (w68 _ (by omega) (by omega)).trans o9
  have o11 : G68 (z + 4) = .inl (cy 0, 24, .inl (fun _ => 0)) := (w68 _ (by omega) (by omega)).trans o11
  have oh : G68 h0 = .inr (2, [.int 0, .int 22, .int 1, .ref z, .int 0, .ref (z + 1), .int 0, .ref (z + 2), .ref (z + 3), .int 0, .ref (z + 4), .int 0]) := (w68 _ (by omega) (by omega)).trans oh
  have u15_0 : G68 (z + 5) = .inr (0, [.int 0, .int 0, .int 0, .int 0, .int 0, .int 0]) := (w68 _ (by omega) (by omega)).trans u15_0
  have u19_0 : G68 (z + 6) = .inr (0, [.int 0, .int 0, .int 0, .int 0, .int 0, .int 0]) := (w68 _ (by omega) (by omega)).trans u19_0
  have u23_0 : G68 (z + 7) = .inr (0, [.int 0, .int 0, .int 0, .int 0, .int 0, .int 0]) := (w68 _ (by omega) (by omega)).trans u23_0
  have u27_0 : G68 (z + 8) = .inr (0, [.int 0, .int 0, .int 0, .int 0, .int 0, .int 0]) := (w68 _ (by omega) (by omega)).trans u27_0
  have u31_0 : G68 (z + 9) = .inr (0, [.int 0, .int 0, .int 0, .int 0, .int 0, .int 0]) := (w68 _ (by omega) (by omega)).trans u31_0
  have u35_0 : G68 (z + 10) = .inr (0, [.int 0, .int 0, .int 0, .int 0, .int 0, .int 0]) := (w68 _ (by omega) (by omega)).trans u35_0
  have u39_0 : G68 (z + 11) = .inr (0, [.int 0, .int 0, .int 0, .int 0, .int 0, .int 0]) := (w68 _ (by omega) (by omega)).trans u39_0
  have u43_0 : G68 (z + 12) = .inr (0, [.int 0, .int 0, .int 0, .int 0, .int 0, .int 0]) := (w68 _ (by omega) (by omega)).trans u43_0
  have u47_0 : G68 (z + 13) = .inr (0, [.int 0, .int 0, .int 0, .int 0, .int 0, .int 0]) := (w68 _ (by omega) (by omega)).trans u47_0
  have o3 : G68 z = .inl (cy 2, 9, .inr (.inr (.inr (.inr (va_up (va_up (va_up (va_up (va_up (va_up (va_up (va_up (va_up (fun _ => none) 0 (some (z + 5))) 1 (some (z + 6))) 2 (some (z + 7))) 3 (some (z + 8))) 4 (some (z + 9))) 5 (some (z + 10))) 6 (some (z + 11))) 7 (some (z + 12))) 8 (some (z + 13))))))) := (w68 _ (by omega) (by omega)).trans o3
  have u52_0 : G68 (z + 14) = .inr (1, [.int 0, .int 0]) := (w68 _ (by omega) (by omega)).trans u52_0
  have u56_0 : G68 (z + 15) = .inr (1, [.int 0, .int 0]) := (w68 _ (by omega) (by omega)).trans u56_0
  have u60_0 : G68 (z + 16) = .inr (1, [.int 0, .int 0]) := (w68 _ (by omega) (by omega)).trans u60_0
  have u64_0 : G68 (z + 17) = .inr (1, [.int 0, .int 0]) := (w68 _ (by omega) (by omega)).trans u64_0
  have o5 : G68 (z + 1) = .inl (cy 3, 6, .inr (.inr (.inr (.inr (va_up (va_up (va_up (va_up (fun _ => none) 0 (some (z + 14))) 1 (some (z + 15))) 2 (some (z + 16))) 3 (some (z + 17))))))) := (w68 _ (by omega) (by omega)).trans o5
  have hF : ∀ q : Nat, q ≠ h0 → q < z → G68 q = G q := fun q h1 h2 => (w68 _ (by omega) (by omega)).trans (hF q h1 h2)
  obtain u68_0 := w68a
  have hP : kb_P D b G68 (z + 19) H := hP
  have k4 : (4 : Int32).toInt = 4 := by decide +kernel
  refine kb_aast hx hb hK hP hS (by omega) (by omega) 3 1 o5 rfl (by omega) (by omega) u68_0 rfl (by omega) (by omega) dX2_init_104 (fun j H locs ej hj hP hS => ?_)
  have ej : j = 4 := by omega
  subst ej
  obtain ⟨G69, eG69⟩ : ∃ q, q = kb_u G68 (z + 1) (.inl (cy 3, 6, .inr (.inr (.inr (.inr (va_up (va_up (va_up (va_up (va_up (fun _ => none) 0 (some (z + 14))) 1 (some (z + 15))) 2 (some (z + 16))) 3 (some (z + 17))) 4 (some (z + 18)))))))) := ⟨_, rfl⟩
  rw [← eG69] at hP
  have hF : ∀ q : Nat, q ≠ h0 → q < z → G69 q = G q := fun q h1 h2 => by rw [eG69, kb_un (by omega)]; exact hF q h1 h2
  have o7 : G69 (z + 2) = .inl (cy 4, 2, .inr (.inr (.inr (.inr (fun _ => none))))) := by rw [eG69, kb_un (by omega)]; exact o7
  have o9 : G69 (z + 3) = .inl (cy 1, 60, .inl (fun _ => 0)) := by rw [eG69, kb_un (by omega)]; exact o9
  have o11 : G69 (z + 4) = .inl (cy 0, 24, .inl (fun _ => 0)) := by rw [eG69, kb_un (by omega)]; exact o11
  have oh : G69 h0 = .inr (2, [.int 0, .int 22, .int 1, .ref z, .int 0, .ref (z + 1), .int 0, .ref (z + 2), .ref (z + 3), .int 0, .ref (z + 4), .int 0]) := by rw [eG69, kb_un (by omega)]; exact oh
  have u15_0 : G69 (z + 5) = .inr (0, [.int 0, .int 0, .int 0, .int 0, .int 0, .int 0]) := by rw [eG69, kb_un (by omega)]; exact u15_0
  have u19_0 : G69 (z + 6) = .inr (0, [.int 0, .int 0, .int 0, .int 0, .int 0, .int 0]) := by rw [eG69, kb_un (by omega)]; exact u19_0
  have u23_0 : G69 (z + 7) = .inr (0, [.int 0, .int 0, .int 0, .int 0, .int 0, .int 0]) := by rw [eG69, kb_un (by omega)]; exact u23_0
  have u27_0 : G69 (z + 8) = .inr (0, [.int 0, .int 0, .int 0, .int 0, .int 0, .int 0]) := by rw [eG69, kb_un (by omega)]; exact u27_0
  have u31_0 : G69 (z + 9) = .inr (0, [.int 0, .int 0, .int 0, .int 0, .int 0, .int 0]) := by rw [eG69, kb_un (by omega)]; exact u31_0
  have u35_0 : G69 (z + 10) = .inr (0, [.int 0, .int 0, .int 0, .int 0, .int 0, .int 0]) := by rw [eG69, kb_un (by omega)]; exact u35_0
  have u39_0 : G69 (z + 11) = .inr (0, [.int 0, .int 0, .int 0, .int 0, .int 0, .int 0]) := by rw [eG69, kb_un (by omega)]; exact u39_0
  have u43_0 : G69 (z + 12) = .inr (0, [.int 0, .int 0, .int 0, .int 0, .int 0, .int 0]) := by rw [eG69, kb_un (by omega)]; exact u43_0
  have u47_0 : G69 (z + 13) = .inr (0, [.int 0, .int 0, .int 0, .int 0, .int 0, .int 0]) := by rw [eG69, kb_un (by omega)]; exact u47_0
  have o3 : G69 z = .inl (cy 2, 9, .inr (.inr (.inr (.inr (va_up (va_up (va_up (va_up (va_up (va_up (va_up (va_up (va_up (fun _ => none) 0 (some (z + 5))) 1 (some (z + 6))) 2 (some (z + 7))) 3 (some (z + 8))) 4 (some (z + 9))) 5 (some (z + 10))) 6 (some (z + 11))) 7 (some (z + 12))) 8 (some (z + 13))))))) := by rw [eG69, kb_un (by omega)]; exact o3
  have u52_0 : G69 (z + 14) = .inr (1, [.int 0, .int 0]) := by rw [eG69, kb_un (by omega)]; exact u52_0
  have u56_0 : G69 (z + 15) = .inr (1, [.int 0, .int 0]) := by rw [eG69, kb_un (by omega)]; exact u56_0
  have u60_0 : G69 (z + 16) = .inr (1, [.int 0, .int 0]) := by rw [eG69, kb_un (by omega)]; exact u60_0
  have u64_0 : G69 (z + 17) = .inr (1, [.int 0, .int 0]) := by rw [eG69, kb_un (by omega)]; exact u64_0
  have u68_0 : G69 (z + 18) = .inr (1, [.int 0, .int 0]) := by rw [eG69, kb_un (by omega)]; exact u68_0
  have o5 : G69 (z + 1) = .inl (cy 3, 6, .inr (.inr (.inr (.inr (va_up (va_up (va_up (va_up (va_up (fun _ => none) 0 (some (z + 14))) 1 (some (z + 15))) 2 (some (z + 16))) 3 (some (z + 17))) 4 (some (z + 18))))))) := by rw [eG69]; exact kb_us
  refine lv_iinc (v := 5) (lv' := [(1, .int 5), (0, .ref h0)]) hx hb dX2_init_105 hl (k := 0) rfl (by decide) (by decide) rfl (fun ls hl => ?_)
  refine lv_goto (tgt := 86) hx hb dX2_init_108 (by decide) ?_
  refine lv_iload_n hx hb dX2_init_86 rfl (lv_at hl 0 rfl) ?_
  refine lv_bipush (v := 6) hx hb dX2_init_87 (by decide) ?_
  refine lv_icmp_ge (tgt := 111) hx hb dX2_init_89 (by decide) (fun c70 => absurd c70 (by decide)) (fun c70 => ?_)
  refine lv_aload_n hx hb dX2_init_92 rfl (lv_at hl 1 rfl) ?_
  refine kb_get hx hb hts hi2 hown hK hP (by omega) (by omega) oh rfl 5 (by decide) (hts (.fieldLink RX2 26 "NoonLaw$Realm" "people" "[LNoonLaw$Person;") (by decide +kernel)) rfl rfl dX2_init_93 ?_
  refine lv_iload_n hx hb dX2_init_96 rfl (lv_at hl 0 rfl) ?_
  refine kb_new (C := RX1) (T := TX1) (N := 2) hx hb hts hi1 tyX1 tyX1_ok hown (hts (.classLink RX2 24 RX1) (by decide +kernel)) (hts (.instantiable RX1 2) (by decide +kernel)) (hts (.initialized RX1) (by decide +kernel)) hK hP hS (ci := 1) rfl [.int 0, .int 0] (fun j hj => by rcases (show j = 0 ∨ j = 1 by omega) with rfl | rfl <;> rfl) (Nat.le_of_ble_eq_true rfl) (Nat.le_of_ble_eq_true rfl) dX2_init_97 (fun H hP hS => ?_)
  obtain ⟨G71, eG71⟩ : ∃ q, q = kb_u G69 (z + 19) (.inr (1, [.int 0, .int 0])) := ⟨_, rfl⟩
  rw [← eG71] at hP
  have hF : ∀ q : Nat, q ≠ h0 → q < z → G71 q = G q := fun q h1 h2 => by rw [eG71, kb_un (by omega)]; exact hF q h1 h2
  have o7 : G71 (z + 2) = .inl (cy 4, 2, .inr (.inr (.inr (.inr (fun _ => none))))) := by rw [eG71, kb_un (by omega)]; exact o7
  have o9 : G71 (z + 3) = .inl (cy 1, 60, .inl (fun _ => 0)) := by rw [eG71, kb_un (by omega)]; exact o9
  have o11 : G71 (z + 4) = .inl (cy 0, 24, .inl (fun _ => 0)) := by rw [eG71, kb_un (by omega)]; exact o11
  have oh : G71 h0 = .inr (2, [.int 0, .int 22, .int 1, .ref z, .int 0, .ref (z + 1), .int 0, .ref (z + 2), .ref (z + 3), .int 0, .ref (z + 4), .int 0]) := by rw [eG71, kb_un (by omega)]; exact oh
  have u15_0 : G71 (z + 5) = .inr (0, [.int 0, .int 0, .int 0, .int 0, .int 0, .int 0]) := by rw [eG71, kb_un (by omega)]; exact u15_0
  have u19_0 : G71 (z + 6) = .inr (0, [.int 0, .int 0, .int 0, .int 0, .int 0, .int 0]) := by rw [eG71, kb_un (by omega)]; exact u19_0
  have u23_0 : G71 (z + 7) = .inr (0, [.int 0, .int 0, .int 0, .int 0, .int 0, .int 0]) := by rw [eG71, kb_un (by omega)]; exact u23_0
  have u27_0 : G71 (z + 8) = .inr (0, [.int 0, .int 0, .int 0, .int 0, .int 0, .int 0]) := by rw [eG71, kb_un (by omega)]; exact u27_0
  have u31_0 : G71 (z + 9) = .inr (0, [.int 0, .int 0, .int 0, .int 0, .int 0, .int 0]) := by rw [eG71, kb_un (by omega)]; exact u31_0
  have u35_0 : G71 (z + 10) = .inr (0, [.int 0, .int 0, .int 0, .int 0, .int 0, .int 0]) := by rw [eG71, kb_un (by omega)]; exact u35_0
  have u39_0 : G71 (z + 11) = .inr (0, [.int 0, .int 0, .int 0, .int 0, .int 0, .int 0]) := by rw [eG71, kb_un (by omega)]; exact u39_0
  have u43_0 : G71 (z + 12) = .inr (0, [.int 0, .int 0, .int 0, .int 0, .int 0, .int 0]) := by rw [eG71, kb_un (by omega)]; exact u43_0
  have u47_0 : G71 (z + 13) = .inr (0, [.int 0, .int 0, .int 0, .int 0, .int 0, .int 0]) := by rw [eG71, kb_un (by omega)]; exact u47_0
  have o3 : G71 z = .inl (cy 2, 9, .inr (.inr (.inr (.inr (va_up (va_up (va_up (va_up (va_up (va_up (va_up (va_up (va_up (fun _ => none) 0 (some (z + 5))) 1 (some (z + 6))) 2 (some (z + 7))) 3 (some (z + 8))) 4 (some (z + 9))) 5 (some (z + 10))) 6 (some (z + 11))) 7 (some (z + 12))) 8 (some (z + 13))))))) := by rw [eG71, kb_un (by omega)]; exact o3
  have u52_0 : G71 (z + 14) = .inr (1, [.int 0, .int 0]) := by rw [eG71, kb_un (by omega)]; exact u52_0
  have u56_0 : G71 (z + 15) = .inr (1, [.int 0, .int 0]) := by rw [eG71, kb_un (by omega)]; exact u56_0
  have u60_0 : G71 (z + 16) = .inr (1, [.int 0, .int 0]) := by rw [eG71, kb_un (by omega)]; exact u60_0
  have u64_0 : G71 (z + 17) = .inr (1, [.int 0, .int 0]) := by rw [eG71, kb_un (by omega)]; exact u64_0
  have u68_0 : G71 (z + 18) = .inr (1, [.int 0, .int 0]) := by rw [eG71, kb_un (by omega)]; exact u68_0
  have o5 : G71 (z + 1) = .inl (cy 3, 6, .inr (.inr (.inr (.inr (va_up (va_up (va_up (va_up (va_up (fun _ => none) 0 (some (z + 14))) 1 (some (z + 15))) 2 (some (z + 16))) 3 (some (z + 17))) 4 (some (z + 18))))))) := by rw [eG71, kb_un (by omega)]; exact o5
  have o71 : G71 (z + 19) = .inr (1, [.int 0, .int 0]) := by rw [eG71]; exact kb_us
  have hP : kb_P D b G71 (z + 20) H := hP
  refine lv_dup hx hb dX2_init_100 rfl ?_
  refine kb_callN (rest := [.ref (z + 19), .int 5, .ref (z + 1)]) ⟨hx, hb, hml, hown, hts⟩ hK hP hS (c_X1_init l D cy b G71 (z + 20) (z + 19) (by omega) (by omega) o71) ⟨va_cnB 0 hts gX2_init_X1_init_n45 rfl rfl rfl (hK.2.2.2.2.2.2.1) (hts (.initialized RX1) (by decide +kernel)) (by decide +kernel) ⟨Nat.le_of_ble_eq_true rfl, Nat.le_of_ble_eq_true rfl⟩, rfl, hts (.instanceMethod yX1_init) (by decide +kernel)⟩ hl.1 (Nat.le_of_ble_eq_true rfl) dX2_init_101 ⟨Nat.le_of_ble_eq_true rfl, Nat.le_of_ble_eq_true rfl⟩ (fun G72 H locs w72 hP hS => ?_)
  obtain ⟨w72a, w72⟩ := w72
  have o7 : G72 (z + 2) = .inl (cy 4, 2, .inr (.inr (.inr (.inr (fun _ => none))))) := (w72 _ (by omega) (by omega)).trans o7
  have o9 : G72 (z + 3) = .inl (cy 1, 60, .inl (fun _ => 0)) := (w72 _ (by omega) (by omega)).trans o9
  have o11 : G72 (z + 4) = .inl (cy 0, 24, .inl (fun _ => 0)) := (w72 _ (by omega) (by omega)).trans o11
  have oh : G72 h0 = .inr (2, [.int 0, .int 22, .int 1, .ref z, .int 0, .ref (z + 1), .int 0, .ref (z + 2), .ref (z + 3), .int 0, .ref (z + 4), .int 0]) := (w72 _ (by omega) (by omega)).trans oh
  have u15_0 : G72 (z + 5) = .inr (0, [.int 0, .int 0, .int 0, .int 0, .int 0, .int 0]) := (w72 _ (by omega) (by omega)).trans u15_0
  have u19_0 : G72 (z + 6) = .inr (0, [.int 0, .int 0, .int 0, .int 0, .int 0, .int 0]) := (w72 _ (by omega) (by omega)).trans u19_0
  have u23_0 : G72 (z + 7) = .inr (0, [.int 0, .int 0, .int 0, .int 0, .int 0, .int 0]) := (w72 _ (by omega) (by omega)).trans u23_0
  have u27_0 : G72 (z + 8) = .inr (0, [.int 0, .int 0, .int 0, .int 0, .int 0, .int 0]) := (w72 _ (by omega) (by omega)).trans u27_0
  have u31_0 : G72 (z + 9) = .inr (0, [.int 0, .int 0, .int 0, .int 0, .int 0, .int 0]) := (w72 _ (by omega) (by omega)).trans u31_0
  have u35_0 : G72 (z + 10) = .inr (0, [.int 0, .int 0, .int 0, .int 0, .int 0, .int 0]) := (w72 _ (by omega) (by omega)).trans u35_0
  have u39_0 : G72 (z + 11) = .inr (0, [.int 0, .int 0, .int 0, .int 0, .int 0, .int 0]) := (w72 _ (by omega) (by omega)).trans u39_0
  have u43_0 : G72 (z + 12) = .inr (0, [.int 0, .int 0, .int 0, .int 0, .int 0, .int 0]) := (w72 _ (by omega) (by omega)).trans u43_0
  have u47_0 : G72 (z + 13) = .inr (0, [.int 0, .int 0, .int 0, .int 0, .int 0, .int 0]) := (w72 _ (by omega) (by omega)).trans u47_0
  have o3 : G72 z = .inl (cy 2, 9, .inr (.inr (.inr (.inr (va_up (va_up (va_up (va_up (va_up (va_up (va_up (va_up (va_up (fun _ => none) 0 (some (z + 5))) 1 (some (z + 6))) 2 (some (z + 7))) 3 (some (z + 8))) 4 (some (z + 9))) 5 (some (z + 10))) 6 (some (z + 11))) 7 (some (z + 12))) 8 (some (z + 13))))))) := (w72 _ (by omega) (by omega)).trans o3
  have u52_0 : G72 (z + 14) = .inr (1, [.int 0, .int 0]) := (w72 _ (by omega) (by omega)).trans u52_0
  have u56_0 : G72 (z + 15) = .inr (1, [.int 0, .int 0]) := (w72 _ (by omega) (by omega)).trans u56_0
  have u60_0 : G72 (z + 16) = .inr (1, [.int 0, .int 0]) := (w72 _ (by omega) (by omega)).trans u60_0
  have u64_0 : G72 (z + 17) = .inr (1, [.int 0, .int 0]) := (w72 _ (by omega) (by omega)).trans u64_0
  have u68_0 : G72 (z + 18) = .inr (1, [.int 0, .int 0]) := (w72 _ (by omega) (by omega)).trans u68_0
  have o5 : G72 (z + 1) = .inl (cy 3, 6, .inr (.inr (.inr (.inr (va_up (va_up (va_up (va_up (va_up (fun _ => none) 0 (some (z + 14))) 1 (some (z + 15))) 2 (some (z + 16))) 3 (some (z + 17))) 4 (some (z + 18))))))) := (w72 _ (by omega) (by omega)).trans o5
  have hF : ∀ q : Nat, q ≠ h0 → q < z → G72 q = G q := fun q h1 h2 => (w72 _ (by omega) (by omega)).trans (hF q h1 h2)
  obtain u72_0 := w72a
  have hP : kb_P D b G72 (z + 20) H := hP
  have k5 : (5 : Int32).toInt = 5 := by decide +kernel
  refine kb_aast hx hb hK hP hS (by omega) (by omega) 3 1 o5 rfl (by omega) (by omega) u72_0 rfl (by omega) (by omega) dX2_init_104 (fun j H locs ej hj hP hS => ?_)
  have ej : j = 5 := by omega
  subst ej
  obtain ⟨G73, eG73⟩ : ∃ q, q = kb_u G72 (z + 1) (.inl (cy 3, 6, .inr (.inr (.inr (.inr (va_up (va_up (va_up (va_up (va_up (va_up (fun _ => none) 0 (some (z + 14))) 1 (some (z + 15))) 2 (some (z + 16))) 3 (some (z + 17))) 4 (some (z + 18))) 5 (some (z + 19)))))))) := ⟨_, rfl⟩
  rw [← eG73] at hP
  have hF : ∀ q : Nat, q ≠ h0 → q < z → G73 q = G q := fun q h1 h2 => by rw [eG73, kb_un (by omega)]; exact hF q h1 h2
  have o7 : G73 (z + 2) = .inl (cy 4, 2, .inr (.inr (.inr (.inr (fun _ => none))))) := by rw [eG73, kb_un (by omega)]; exact o7
  have o9 : G73 (z + 3) = .inl (cy 1, 60, .inl (fun _ => 0)) := by rw [eG73, kb_un (by omega)]; exact o9
  have o11 : G73 (z + 4) = .inl (cy 0, 24, .inl (fun _ => 0)) := by rw [eG73, kb_un (by omega)]; exact o11
  have oh : G73 h0 = .inr (2, [.int 0, .int 22, .int 1, .ref z, .int 0, .ref (z + 1), .int 0, .ref (z + 2), .ref (z + 3), .int 0, .ref (z + 4), .int 0]) := by rw [eG73, kb_un (by omega)]; exact oh
  have u15_0 : G73 (z + 5) = .inr (0, [.int 0, .int 0, .int 0, .int 0, .int 0, .int 0]) := by rw [eG73, kb_un (by omega)]; exact u15_0
  have u19_0 : G73 (z + 6) = .inr (0, [.int 0, .int 0, .int 0, .int 0, .int 0, .int 0]) := by rw [eG73, kb_un (by omega)]; exact u19_0
  have u23_0 : G73 (z + 7) = .inr (0, [.int 0, .int 0, .int 0, .int 0, .int 0, .int 0]) := by rw [eG73, kb_un (by omega)]; exact u23_0
  have u27_0 : G73 (z + 8) = .inr (0, [.int 0, .int 0, .int 0, .int 0, .int 0, .int 0]) := by rw [eG73, kb_un (by omega)]; exact u27_0
  have u31_0 : G73 (z + 9) = .inr (0, [.int 0, .int 0, .int 0, .int 0, .int 0, .int 0]) := by rw [eG73, kb_un (by omega)]; exact u31_0
  have u35_0 : G73 (z + 10) = .inr (0, [.int 0, .int 0, .int 0, .int 0, .int 0, .int 0]) := by rw [eG73, kb_un (by omega)]; exact u35_0
  have u39_0 : G73 (z + 11) = .inr (0, [.int 0, .int 0, .int 0, .int 0, .int 0, .int 0]) := by rw [eG73, kb_un (by omega)]; exact u39_0
  have u43_0 : G73 (z + 12) = .inr (0, [.int 0, .int 0, .int 0, .int 0, .int 0, .int 0]) := by rw [eG73, kb_un (by omega)]; exact u43_0
  have u47_0 : G73 (z + 13) = .inr (0, [.int 0, .int 0, .int 0, .int 0, .int 0, .int 0]) := by rw [eG73, kb_un (by omega)]; exact u47_0
  have o3 : G73 z = .inl (cy 2, 9, .inr (.inr (.inr (.inr (va_up (va_up (va_up (va_up (va_up (va_up (va_up (va_up (va_up (fun _ => none) 0 (some (z + 5))) 1 (some (z + 6))) 2 (some (z + 7))) 3 (some (z + 8))) 4 (some (z + 9))) 5 (some (z + 10))) 6 (some (z + 11))) 7 (some (z + 12))) 8 (some (z + 13))))))) := by rw [eG73, kb_un (by omega)]; exact o3
  have u52_0 : G73 (z + 14) = .inr (1, [.int 0, .int 0]) := by rw [eG73, kb_un (by omega)]; exact u52_0
  have u56_0 : G73 (z + 15) = .inr (1, [.int 0, .int 0]) := by rw [eG73, kb_un (by omega)]; exact u56_0
  have u60_0 : G73 (z + 16) = .inr (1, [.int 0, .int 0]) := by rw [eG73, kb_un (by omega)]; exact u60_0
  have u64_0 : G73 (z + 17) = .inr (1, [.int 0, .int 0]) := by rw [eG73, kb_un (by omega)]; exact u64_0
  have u68_0 : G73 (z + 18) = .inr (1, [.int 0, .int 0]) := by rw [eG73, kb_un (by omega)]; exact u68_0
  have u72_0 : G73 (z + 19) = .inr (1, [.int 0, .int 0]) := by rw [eG73, kb_un (by omega)]; exact u72_0
  have o5 : G73 (z + 1) = .inl (cy 3, 6, .inr (.inr (.inr (.inr (va_up (va_up (va_up (va_up (va_up (va_up (fun _ => none) 0 (some (z + 14))) 1 (some (z + 15))) 2 (some (z + 16))) 3 (some (z + 17))) 4 (some (z + 18))) 5 (some (z + 19))))))) := by rw [eG73]; exact kb_us
  refine lv_iinc (v := 6) (lv' := [(1, .int 6), (0, .ref h0)]) hx hb dX2_init_105 hl (k := 0) rfl (by decide) (by decide) rfl (fun ls hl => ?_)
  refine lv_goto (tgt := 86) hx hb dX2_init_108 (by decide) ?_
  refine lv_iload_n hx hb dX2_init_86 rfl (lv_at hl 0 rfl) ?_
  refine lv_bipush (v := 6) hx hb dX2_init_87 (by decide) ?_
  refine lv_icmp_ge (tgt := 111) hx hb dX2_init_89 (by decide) (fun c74 => ?_) (fun c74 => absurd (by decide) c74)
  refine lv_iconst (v := 0) hx hb dX2_init_111 (by decide) ?_
  refine lv_istore_n (lv' := [(1, .int 0), (0, .ref h0)]) hx hb dX2_init_112 rfl hl (by decide) rfl (fun ls hl => ?_)
  refine lv_iload_n hx hb dX2_init_113 rfl (lv_at hl 0 rfl) ?_
  refine lv_iconst (v := 2) hx hb dX2_init_114 (by decide) ?_
  refine lv_icmp_ge (tgt := 137) hx hb dX2_init_115 (by decide) (fun c75 => absurd c75 (by decide)) (fun c75 => ?_)
  refine lv_aload_n hx hb dX2_init_118 rfl (lv_at hl 1 rfl) ?_
  refine kb_get hx hb hts hi2 hown hK hP (by omega) (by omega) oh rfl 7 (by decide) (hts (.fieldLink RX2 32 "NoonLaw$Realm" "texts" "[LNoonLaw$Text;") (by decide +kernel)) rfl rfl dX2_init_119 ?_
  refine lv_iload_n hx hb dX2_init_122 rfl (lv_at hl 0 rfl) ?_
  refine kb_new (C := RX6) (T := TX6) (N := 4) hx hb hts hi6 tyX6 tyX6_ok hown (hts (.classLink RX2 30 RX6) (by decide +kernel)) (hts (.instantiable RX6 4) (by decide +kernel)) (hts (.initialized RX6) (by decide +kernel)) hK hP hS (ci := 6) rfl [.int 0, .int 0, .null, .null] (fun j hj => by rcases (show j = 0 ∨ j = 1 ∨ j = 2 ∨ j = 3 by omega) with rfl | rfl | rfl | rfl <;> rfl) (Nat.le_of_ble_eq_true rfl) (Nat.le_of_ble_eq_true rfl) dX2_init_123 (fun H hP hS => ?_)
  obtain ⟨G76, eG76⟩ : ∃ q, q = kb_u G73 (z + 20) (.inr (6, [.int 0, .int 0, .null, .null])) := ⟨_, rfl⟩
  rw [← eG76] at hP
  have hF : ∀ q : Nat, q ≠ h0 → q < z → G76 q = G q := fun q h1 h2 => by rw [eG76, kb_un (by omega)]; exact hF q h1 h2
  have o7 : G76 (z + 2) = .inl (cy 4, 2, .inr (.inr (.inr (.inr (fun _ => none))))) := by rw [eG76, kb_un (by omega)]; exact o7
  have o9 : G76 (z + 3) = .inl (cy 1, 60, .inl (fun _ => 0)) := by rw [eG76, kb_un (by omega)]; exact o9
  have o11 : G76 (z + 4) = .inl (cy 0, 24, .inl (fun _ => 0)) := by rw [eG76, kb_un (by omega)]; exact o11
  have oh : G76 h0 = .inr (2, [.int 0, .int 22, .int 1, .ref z, .int 0, .ref (z + 1), .int 0, .ref (z + 2), .ref (z + 3), .int 0, .ref (z + 4), .int 0]) := by rw [eG76, kb_un (by omega)]; exact oh
  have u15_0 : G76 (z + 5) = .inr (0, [.int 0, .int 0, .int 0, .int 0, .int 0, .int 0]) := by rw [eG76, kb_un (by omega)]; exact u15_0
  have u19_0 : G76 (z + 6) = .inr (0, [.int 0, .int 0, .int 0, .int 0, .int 0, .int 0]) := by rw [eG76, kb_un (by omega)]; exact u19_0
  have u23_0 : G76 (z + 7) = .inr (0, [.int 0, .int 0, .int 0, .int 0, .int 0, .int 0]) := by rw [eG76, kb_un (by omega)]; exact u23_0
  have u27_0 : G76 (z + 8) = .inr (0, [.int 0, .int 0, .int 0, .int 0, .int 0, .int 0]) := by rw [eG76, kb_un (by omega)]; exact u27_0
  have u31_0 : G76 (z + 9) = .inr (0, [.int 0, .int 0, .int 0, .int 0, .int 0, .int 0]) := by rw [eG76, kb_un (by omega)]; exact u31_0
  have u35_0 : G76 (z + 10) = .inr (0, [.int 0, .int 0, .int 0, .int 0, .int 0, .int 0]) := by rw [eG76, kb_un (by omega)]; exact u35_0
  have u39_0 : G76 (z + 11) = .inr (0, [.int 0, .int 0, .int 0, .int 0, .int 0, .int 0]) := by rw [eG76, kb_un (by omega)]; exact u39_0
  have u43_0 : G76 (z + 12) = .inr (0, [.int 0, .int 0, .int 0, .int 0, .int 0, .int 0]) := by rw [eG76, kb_un (by omega)]; exact u43_0
  have u47_0 : G76 (z + 13) = .inr (0, [.int 0, .int 0, .int 0, .int 0, .int 0, .int 0]) := by rw [eG76, kb_un (by omega)]; exact u47_0
  have o3 : G76 z = .inl (cy 2, 9, .inr (.inr (.inr (.inr (va_up (va_up (va_up (va_up (va_up (va_up (va_up (va_up (va_up (fun _ => none) 0 (some (z + 5))) 1 (some (z + 6))) 2 (some (z + 7))) 3 (some (z + 8))) 4 (some (z + 9))) 5 (some (z + 10))) 6 (some (z + 11))) 7 (some (z + 12))) 8 (some (z + 13))))))) := by rw [eG76, kb_un (by omega)]; exact o3
  have u52_0 : G76 (z + 14) = .inr (1, [.int 0, .int 0]) := by rw [eG76, kb_un (by omega)]; exact u52_0
  have u56_0 : G76 (z + 15) = .inr (1, [.int 0, .int 0]) := by rw [eG76, kb_un (by omega)]; exact u56_0
  have u60_0 : G76 (z + 16) = .inr (1, [.int 0, .int 0]) := by rw [eG76, kb_un (by omega)]; exact u60_0
  have u64_0 : G76 (z + 17) = .inr (1, [.int 0, .int 0]) := by rw [eG76, kb_un (by omega)]; exact u64_0
  have u68_0 : G76 (z + 18) = .inr (1, [.int 0, .int 0]) := by rw [eG76, kb_un (by omega)]; exact u68_0
  have u72_0 : G76 (z + 19) = .inr (1, [.int 0, .int 0]) := by rw [eG76, kb_un (by omega)]; exact u72_0
  have o5 : G76 (z + 1) = .inl (cy 3, 6, .inr (.inr (.inr (.inr (va_up (va_up (va_up (va_up (va_up (va_up (fun _ => none) 0 (some (z + 14))) 1 (some (z + 15))) 2 (some (z + 16))) 3 (some (z + 17))) 4 (some (z + 18))) 5 (some (z + 19))))))) := by rw [eG76, kb_un (by omega)]; exact o5
  have o76 : G76 (z + 20) = .inr (6, [.int 0, .int 0, .null, .null]) := by rw [eG76]; exact kb_us
  have hP : kb_P D b G76 (z + 21) H := hP
  refine lv_dup hx hb dX2_init_126 rfl ?_
  refine kb_callN (rest := [.ref (z + 20), .int 0, .ref (z + 2)]) ⟨hx, hb, hml, hown, hts⟩ hK hP hS (c_X6_init l D cy b G76 (z + 21) (z + 20) (by omega) (by omega) o76) ⟨va_cnB 0 hts gX2_init_X6_init_n46 rfl rfl rfl (hK.2.2.2.2.2.2.2.1) (hts (.initialized RX6) (by decide +kernel)) (by decide +kernel) ⟨Nat.le_of_ble_eq_true rfl, Nat.le_of_ble_eq_true rfl⟩, rfl, hts (.instanceMethod yX6_init) (by decide +kernel)⟩ hl.1 (Nat.le_of_ble_eq_true rfl) dX2_init_127 ⟨Nat.le_of_ble_eq_true rfl, Nat.le_of_ble_eq_true rfl⟩ (fun G77 H locs w77 hP hS => ?_)
  obtain ⟨w77a, w77⟩ := w77
  have o7 : G77 (z + 2) = .inl (cy 4, 2, .inr (.inr (.inr (.inr (fun _ => none))))) := (w77 _ (by omega) (by omega)).trans o7
  have o9 : G77 (z + 3) = .inl (cy 1, 60, .inl (fun _ => 0)) := (w77 _ (by omega) (by omega)).trans o9
  have o11 : G77 (z + 4) = .inl (cy 0, 24, .inl (fun _ => 0)) := (w77 _ (by omega) (by omega)).trans o11
  have oh : G77 h0 = .inr (2, [.int 0, .int 22, .int 1, .ref z, .int 0, .ref (z + 1), .int 0, .ref (z + 2), .ref (z + 3), .int 0, .ref (z + 4), .int 0]) := (w77 _ (by omega) (by omega)).trans oh
  have u15_0 : G77 (z + 5) = .inr (0, [.int 0, .int 0, .int 0, .int 0, .int 0, .int 0]) := (w77 _ (by omega) (by omega)).trans u15_0
  have u19_0 : G77 (z + 6) = .inr (0, [.int 0, .int 0, .int 0, .int 0, .int 0, .int 0]) := (w77 _ (by omega) (by omega)).trans u19_0
  have u23_0 : G77 (z + 7) = .inr (0, [.int 0, .int 0, .int 0, .int 0, .int 0, .int 0]) := (w77 _ (by omega) (by omega)).trans u23_0
  have u27_0 : G77 (z + 8) = .inr (0, [.int 0, .int 0, .int 0, .int 0, .int 0, .int 0]) := (w77 _ (by omega) (by omega)).trans u27_0
  have u31_0 : G77 (z + 9) = .inr (0, [.int 0, .int 0, .int 0, .int 0, .int 0, .int 0]) := (w77 _ (by omega) (by omega)).trans u31_0
  have u35_0 : G77 (z + 10) = .inr (0, [.int 0, .int 0, .int 0, .int 0, .int 0, .int 0]) := (w77 _ (by omega) (by omega)).trans u35_0
  have u39_0 : G77 (z + 11) = .inr (0, [.int 0, .int 0, .int 0, .int 0, .int 0, .int 0]) := (w77 _ (by omega) (by omega)).trans u39_0
  have u43_0 : G77 (z + 12) = .inr (0, [.int 0, .int 0, .int 0, .int 0, .int 0, .int 0]) := (w77 _ (by omega) (by omega)).trans u43_0
  have u47_0 : G77 (z + 13) = .inr (0, [.int 0, .int 0, .int 0, .int 0, .int 0, .int 0]) := (w77 _ (by omega) (by omega)).trans u47_0
  have o3 : G77 z = .inl (cy 2, 9, .inr (.inr (.inr (.inr (va_up (va_up (va_up (va_up (va_up (va_up (va_up (va_up (va_up (fun _ => none) 0 (some (z + 5))) 1 (some (z + 6))) 2 (some (z + 7))) 3 (some (z + 8))) 4 (some (z + 9))) 5 (some (z + 10))) 6 (some (z + 11))) 7 (some (z + 12))) 8 (some (z + 13))))))) := (w77 _ (by omega) (by omega)).trans o3
  have u52_0 : G77 (z + 14) = .inr (1, [.int 0, .int 0]) := (w77 _ (by omega) (by omega)).trans u52_0
  have u56_0 : G77 (z + 15) = .inr (1, [.int 0, .int 0]) := (w77 _ (by omega) (by omega)).trans u56_0
  have u60_0 : G77 (z + 16) = .inr (1, [.int 0, .int 0]) := (w77 _ (by omega) (by omega)).trans u60_0
  have u64_0 : G77 (z + 17) = .inr (1, [.int 0, .int 0]) := (w77 _ (by omega) (by omega)).trans u64_0
  have u68_0 : G77 (z + 18) = .inr (1, [.int 0, .int 0]) := (w77 _ (by omega) (by omega)).trans u68_0
  have u72_0 : G77 (z + 19) = .inr (1, [.int 0, .int 0]) := (w77 _ (by omega) (by omega)).trans u72_0
  have o5 : G77 (z + 1) = .inl (cy 3, 6, .inr (.inr (.inr (.inr (va_up (va_up (va_up (va_up (va_up (va_up (fun _ => none) 0 (some (z + 14))) 1 (some (z + 15))) 2 (some (z + 16))) 3 (some (z + 17))) 4 (some (z + 18))) 5 (some (z + 19))))))) := (w77 _ (by omega) (by omega)).trans o5
  have hF : ∀ q : Nat, q ≠ h0 → q < z → G77 q = G q := fun q h1 h2 => (w77 _ (by omega) (by omega)).trans (hF q h1 h2)
  obtain ⟨u77_0, u77_1, u77_2⟩ := w77a
  have hP : kb_P D b G77 (z + 23) H := hP
  have k0 : (0 : Int32).toInt = 0 := by decide +kernel
  refine kb_aast hx hb hK hP hS (by omega) (by omega) 4 6 o7 rfl (by omega) (by omega) u77_0 rfl (by omega) (by omega) dX2_init_130 (fun j H locs ej hj hP hS => ?_)
  have ej : j = 0 := by omega
  subst ej
  obtain ⟨G78, eG78⟩ : ∃ q, q = kb_u G77 (z + 2) (.inl (cy 4, 2, .inr (.inr (.inr (.inr (va_up (fun _ => none) 0 (some (z + 20)))))))) := ⟨_, rfl⟩
  rw [← eG78] at hP
  have hF : ∀ q : Nat, q ≠ h0 → q < z → G78 q = G q := fun q h1 h2 => by rw [eG78, kb_un (by omega)]; exact hF q h1 h2
  have o9 : G78 (z + 3) = .inl (cy 1, 60, .inl (fun _ => 0)) := by rw [eG78, kb_un (by omega)]; exact o9
  have o11 : G78 (z + 4) = .inl (cy 0, 24, .inl (fun _ => 0)) := by rw [eG78, kb_un (by omega)]; exact o11
  have oh : G78 h0 = .inr (2, [.int 0, .int 22, .int 1, .ref z, .int 0, .ref (z + 1), .int 0, .ref (z + 2), .ref (z + 3), .int 0, .ref (z + 4), .int 0]) := by rw [eG78, kb_un (by omega)]; exact oh
  have u15_0 : G78 (z + 5) = .inr (0, [.int 0, .int 0, .int 0, .int 0, .int 0, .int 0]) := by rw [eG78, kb_un (by omega)]; exact u15_0
  have u19_0 : G78 (z + 6) = .inr (0, [.int 0, .int 0, .int 0, .int 0, .int 0, .int 0]) := by rw [eG78, kb_un (by omega)]; exact u19_0
  have u23_0 : G78 (z + 7) = .inr (0, [.int 0, .int 0, .int 0, .int 0, .int 0, .int 0]) := by rw [eG78, kb_un (by omega)]; exact u23_0
  have u27_0 : G78 (z + 8) = .inr (0, [.int 0, .int 0, .int 0, .int 0, .int 0, .int 0]) := by rw [eG78, kb_un (by omega)]; exact u27_0
  have u31_0 : G78 (z + 9) = .inr (0, [.int 0, .int 0, .int 0, .int 0, .int 0, .int 0]) := by rw [eG78, kb_un (by omega)]; exact u31_0
  have u35_0 : G78 (z + 10) = .inr (0, [.int 0, .int 0, .int 0, .int 0, .int 0, .int 0]) := by rw [eG78, kb_un (by omega)]; exact u35_0
  have u39_0 : G78 (z + 11) = .inr (0, [.int 0, .int 0, .int 0, .int 0, .int 0, .int 0]) := by rw [eG78, kb_un (by omega)]; exact u39_0
  have u43_0 : G78 (z + 12) = .inr (0, [.int 0, .int 0, .int 0, .int 0, .int 0, .int 0]) := by rw [eG78, kb_un (by omega)]; exact u43_0
  have u47_0 : G78 (z + 13) = .inr (0, [.int 0, .int 0, .int 0, .int 0, .int 0, .int 0]) := by rw [eG78, kb_un (by omega)]; exact u47_0
  have o3 : G78 z = .inl (cy 2, 9, .inr (.inr (.inr (.inr (va_up (va_up (va_up (va_up (va_up (va_up (va_up (va_up (va_up (fun _ => none) 0 (some (z + 5))) 1 (some (z + 6))) 2 (some (z + 7))) 3 (some (z + 8))) 4 (some (z + 9))) 5 (some (z + 10))) 6 (some (z + 11))) 7 (some (z + 12))) 8 (some (z + 13))))))) := by rw [eG78, kb_un (by omega)]; exact o3
  have u52_0 : G78 (z + 14) = .inr (1, [.int 0, .int 0]) := by rw [eG78, kb_un (by omega)]; exact u52_0
  have u56_0 : G78 (z + 15) = .inr (1, [.int 0, .int 0]) := by rw [eG78, kb_un (by omega)]; exact u56_0
  have u60_0 : G78 (z + 16) = .inr (1, [.int 0, .int 0]) := by rw [eG78, kb_un (by omega)]; exact u60_0
  have u64_0 : G78 (z + 17) = .inr (1, [.int 0, .int 0]) := by rw [eG78, kb_un (by omega)]; exact u64_0
  have u68_0 : G78 (z + 18) = .inr (1, [.int 0, .int 0]) := by rw [eG78, kb_un (by omega)]; exact u68_0
  have u72_0 : G78 (z + 19) = .inr (1, [.int 0, .int 0]) := by rw [eG78, kb_un (by omega)]; exact u72_0
  have o5 : G78 (z + 1) = .inl (cy 3, 6, .inr (.inr (.inr (.inr (va_up (va_up (va_up (va_up (va_up (va_up (fun _ => none) 0 (some (z + 14))) 1 (some (z + 15))) 2 (some (z + 16))) 3 (some (z + 17))) 4 (some (z + 18))) 5 (some (z + 19))))))) := by rw [eG78, kb_un (by omega)]; exact o5
  have u77_0 : G78 (z + 20) = .inr (6, [.int 0, .int 0, .ref (z + 21), .ref (z + 22)]) := by rw [eG78, kb_un (by omega)]; exact u77_0
  have u77_1 : G78 (z + 21) = .inl (cy 0, 60, .inl (fun _ => 0)) := by rw [eG78, kb_un (by omega)]; exact u77_1
  have u77_2 : G78 (z + 22) = .inl (cy 0, 60, .inl (fun _ => 0)) := by rw [eG78, kb_un (by omega)]; exact u77_2
  have o7 : G78 (z + 2) = .inl (cy 4, 2, .inr (.inr (.inr (.inr (va_up (fun _ => none) 0 (some (z + 20))))))) := by rw [eG78]; exact kb_us
  refine lv_iinc (v := 1) (lv' := [(1, .int 1), (0, .ref h0)]) hx hb dX2_init_131 hl (k := 0) rfl (by decide) (by decide) rfl (fun ls hl => ?_)
  refine lv_goto (tgt := 113) hx hb dX2_init_134 (by decide) ?_
  refine lv_iload_n hx hb dX2_init_113 rfl (lv_at hl 0 rfl) ?_
  refine lv_iconst (v := 2) hx hb dX2_init_114 (by decide) ?_
  refine lv_icmp_ge (tgt := 137) hx hb dX2_init_115 (by decide) (fun c79 => absurd c79 (by decide)) (fun c79 => ?_)
  refine lv_aload_n hx hb dX2_init_118 rfl (lv_at hl 1 rfl) ?_
  refine kb_get hx hb hts hi2 hown hK hP (by omega) (by omega) oh rfl 7 (by decide) (hts (.fieldLink RX2 32 "NoonLaw$Realm" "texts" "[LNoonLaw$Text;") (by decide +kernel)) rfl rfl dX2_init_119 ?_
  refine lv_iload_n hx hb dX2_init_122 rfl (lv_at hl 0 rfl) ?_
  refine kb_new (C := RX6) (T := TX6) (N := 4) hx hb hts hi6 tyX6 tyX6_ok hown (hts (.classLink RX2 30 RX6) (by decide +kernel)) (hts (.instantiable RX6 4) (by decide +kernel)) (hts (.initialized RX6) (by decide +kernel)) hK hP hS (ci := 6) rfl [.int 0, .int 0, .null, .null] (fun j hj => by rcases (show j = 0 ∨ j = 1 ∨ j = 2 ∨ j = 3 by omega) with rfl | rfl | rfl | rfl <;> rfl) (Nat.le_of_ble_eq_true rfl) (Nat.le_of_ble_eq_true rfl) dX2_init_123 (fun H hP hS => ?_)
  obtain ⟨G80, eG80⟩ : ∃ q, q = kb_u G78 (z + 23) (.inr (6, [.int 0, .int 0, .null, .null])) := ⟨_, rfl⟩
  rw [← eG80] at hP
  have hF : ∀ q : Nat, q ≠ h0 → q < z → G80 q = G q := fun q h1 h2 => by rw [eG80, kb_un (by omega)]; exact hF q h1 h2
  have o9 : G80 (z + 3) = .inl (cy 1, 60, .inl (fun _ => 0)) := by rw [eG80, kb_un (by omega)]; exact o9
  have o11 : G80 (z + 4) = .inl (cy 0, 24, .inl (fun _ => 0)) := by rw [eG80, kb_un (by omega)]; exact o11
  have oh : G80 h0 = .inr (2, [.int 0, .int 22, .int 1, .ref z, .int 0, .ref (z + 1), .int 0, .ref (z + 2), .ref (z + 3), .int 0, .ref (z + 4), .int 0]) := by rw [eG80, kb_un (by omega)]; exact oh
  have u15_0 : G80 (z + 5) = .inr (0, [.int 0, .int 0, .int 0, .int 0, .int 0, .int 0]) := by rw [eG80, kb_un (by omega)]; exact u15_0
  have u19_0 : G80 (z + 6) = .inr (0, [.int 0, .int 0, .int 0, .int 0, .int 0, .int 0]) := by rw [eG80, kb_un (by omega)]; exact u19_0
  have u23_0 : G80 (z + 7) = .inr (0, [.int 0, .int 0, .int 0, .int 0, .int 0, .int 0]) := by rw [eG80, kb_un (by omega)]; exact u23_0
  have u27_0 : G80 (z + 8) = .inr (0, [.int 0, .int 0, .int 0, .int 0, .int 0, .int 0]) := by rw [eG80, kb_un (by omega)]; exact u27_0
  have u31_0 : G80 (z + 9) = .inr (0, [.int 0, .int 0, .int 0, .int 0, .int 0, .int 0]) := by rw [eG80, kb_un (by omega)]; exact u31_0
  have u35_0 : G80 (z + 10) = .inr (0, [.int 0, .int 0, .int 0, .int 0, .int 0, .int 0]) := by rw [eG80, kb_un (by omega)]; exact u35_0
  have u39_0 : G80 (z + 11) = .inr (0, [.int 0, .int 0, .int 0, .int 0, .int 0, .int 0]) := by rw [eG80, kb_un (by omega)]; exact u39_0
  have u43_0 : G80 (z + 12) = .inr (0, [.int 0, .int 0, .int 0, .int 0, .int 0, .int 0]) := by rw [eG80, kb_un (by omega)]; exact u43_0
  have u47_0 : G80 (z + 13) = .inr (0, [.int 0, .int 0, .int 0, .int 0, .int 0, .int 0]) := by rw [eG80, kb_un (by omega)]; exact u47_0
  have o3 : G80 z = .inl (cy 2, 9, .inr (.inr (.inr (.inr (va_up (va_up (va_up (va_up (va_up (va_up (va_up (va_up (va_up (fun _ => none) 0 (some (z + 5))) 1 (some (z + 6))) 2 (some (z + 7))) 3 (some (z + 8))) 4 (some (z + 9))) 5 (some (z + 10))) 6 (some (z + 11))) 7 (some (z + 12))) 8 (some (z + 13))))))) := by rw [eG80, kb_un (by omega)]; exact o3
  have u52_0 : G80 (z + 14) = .inr (1, [.int 0, .int 0]) := by rw [eG80, kb_un (by omega)]; exact u52_0
  have u56_0 : G80 (z + 15) = .inr (1, [.int 0, .int 0]) := by rw [eG80, kb_un (by omega)]; exact u56_0
  have u60_0 : G80 (z + 16) = .inr (1, [.int 0, .int 0]) := by rw [eG80, kb_un (by omega)]; exact u60_0
  have u64_0 : G80 (z + 17) = .inr (1, [.int 0, .int 0]) := by rw [eG80, kb_un (by omega)]; exact u64_0
  have u68_0 : G80 (z + 18) = .inr (1, [.int 0, .int 0]) := by rw [eG80, kb_un (by omega)]; exact u68_0
  have u72_0 : G80 (z + 19) = .inr (1, [.int 0, .int 0]) := by rw [eG80, kb_un (by omega)]; exact u72_0
  have o5 : G80 (z + 1) = .inl (cy 3, 6, .inr (.inr (.inr (.inr (va_up (va_up (va_up (va_up (va_up (va_up (fun _ => none) 0 (some (z + 14))) 1 (some (z + 15))) 2 (some (z + 16))) 3 (some (z + 17))) 4 (some (z + 18))) 5 (some (z + 19))))))) := by rw [eG80, kb_un (by omega)]; exact o5
  have u77_0 : G80 (z + 20) = .inr (6, [.int 0, .int 0, .ref (z + 21), .ref (z + 22)]) := by rw [eG80, kb_un (by omega)]; exact u77_0
  have u77_1 : G80 (z + 21) = .inl (cy 0, 60, .inl (fun _ => 0)) := by rw [eG80, kb_un (by omega)]; exact u77_1
  have u77_2 : G80 (z + 22) = .inl (cy 0, 60, .inl (fun _ => 0)) := by rw [eG80, kb_un (by omega)]; exact u77_2
  have o7 : G80 (z + 2) = .inl (cy 4, 2, .inr (.inr (.inr (.inr (va_up (fun _ => none) 0 (some (z + 20))))))) := by rw [eG80, kb_un (by omega)]; exact o7
  have o80 : G80 (z + 23) = .inr (6, [.int 0, .int 0, .null, .null]) := by rw [eG80]; exact kb_us
  have hP : kb_P D b G80 (z + 24) H := hP
  refine lv_dup hx hb dX2_init_126 rfl ?_
  refine kb_callN (rest := [.ref (z + 23), .int 1, .ref (z + 2)]) ⟨hx, hb, hml, hown, hts⟩ hK hP hS (c_X6_init l D cy b G80 (z + 24) (z + 23) (by omega) (by omega) o80) ⟨va_cnB 0 hts gX2_init_X6_init_n46 rfl rfl rfl (hK.2.2.2.2.2.2.2.1) (hts (.initialized RX6) (by decide +kernel)) (by decide +kernel) ⟨Nat.le_of_ble_eq_true rfl, Nat.le_of_ble_eq_true rfl⟩, rfl, hts (.instanceMethod yX6_init) (by decide +kernel)⟩ hl.1 (Nat.le_of_ble_eq_true rfl) dX2_init_127 ⟨Nat.le_of_ble_eq_true rfl, Nat.le_of_ble_eq_true rfl⟩ (fun G81 H locs w81 hP hS => ?_)
  obtain ⟨w81a, w81⟩ := w81
  have o9 : G81 (z + 3) = .inl (cy 1, 60, .inl (fun _ => 0)) := (w81 _ (by omega) (by omega)).trans o9
  have o11 : G81 (z + 4) = .inl (cy 0, 24, .inl (fun _ => 0)) := (w81 _ (by omega) (by omega)).trans o11
  have oh : G81 h0 = .inr (2, [.int 0, .int 22, .int 1, .ref z, .int 0, .ref (z + 1), .int 0, .ref (z + 2), .ref (z + 3), .int 0, .ref (z + 4), .int 0]) := (w81 _ (by omega) (by omega)).trans oh
  have u15_0 : G81 (z + 5) = .inr (0, [.int 0, .int 0, .int 0, .int 0, .int 0, .int 0]) := (w81 _ (by omega) (by omega)).trans u15_0
  have u19_0 : G81 (z + 6) = .inr (0, [.int 0, .int 0, .int 0, .int 0, .int 0, .int 0]) := (w81 _ (by omega) (by omega)).trans u19_0
  have u23_0 : G81 (z + 7) = .inr (0, [.int 0, .int 0, .int 0, .int 0, .int 0, .int 0]) := (w81 _ (by omega) (by omega)).trans u23_0
  have u27_0 : G81 (z + 8) = .inr (0, [.int 0, .int 0, .int 0, .int 0, .int 0, .int 0]) := (w81 _ (by omega) (by omega)).trans u27_0
  have u31_0 : G81 (z + 9) = .inr (0, [.int 0, .int 0, .int 0, .int 0, .int 0, .int 0]) := (w81 _ (by omega) (by omega)).trans u31_0
  have u35_0 : G81 (z + 10) = .inr (0, [.int 0, .int 0, .int 0, .int 0, .int 0, .int 0]) := (w81 _ (by omega) (by omega)).trans u35_0
  have u39_0 : G81 (z + 11) = .inr (0, [.int 0, .int 0, .int 0, .int 0, .int 0, .int 0]) := (w81 _ (by omega) (by omega)).trans u39_0
  have u43_0 : G81 (z + 12) = .inr (0, [.int 0, .int 0, .int 0, .int 0, .int 0, .int 0]) := (w81 _ (by omega) (by omega)).trans u43_0
  have u47_0 : G81 (z + 13) = .inr (0, [.int 0, .int 0, .int 0, .int 0, .int 0, .int 0]) := (w81 _ (by omega) (by omega)).trans u47_0
  have o3 : G81 z = .inl (cy 2, 9, .inr (.inr (.inr (.inr (va_up (va_up (va_up (va_up (va_up (va_up (va_up (va_up (va_up (fun _ => none) 0 (some (z + 5))) 1 (some (z + 6))) 2 (some (z + 7))) 3 (some (z + 8))) 4 (some (z + 9))) 5 (some (z + 10))) 6 (some (z + 11))) 7 (some (z + 12))) 8 (some (z + 13))))))) := (w81 _ (by omega) (by omega)).trans o3
  have u52_0 : G81 (z + 14) = .inr (1, [.int 0, .int 0]) := (w81 _ (by omega) (by omega)).trans u52_0
  have u56_0 : G81 (z + 15) = .inr (1, [.int 0, .int 0]) := (w81 _ (by omega) (by omega)).trans u56_0
  have u60_0 : G81 (z + 16) = .inr (1, [.int 0, .int 0]) := (w81 _ (by omega) (by omega)).trans u60_0
  have u64_0 : G81 (z + 17) = .inr (1, [.int 0, .int 0]) := (w81 _ (by omega) (by omega)).trans u64_0
  have u68_0 : G81 (z + 18) = .inr (1, [.int 0, .int 0]) := (w81 _ (by omega) (by omega)).trans u68_0
  have u72_0 : G81 (z + 19) = .inr (1, [.int 0, .int 0]) := (w81 _ (by omega) (by omega)).trans u72_0
  have o5 : G81 (z + 1) = .inl (cy 3, 6, .inr (.inr (.inr (.inr (va_up (va_up (va_up (va_up (va_up (va_up (fun _ => none) 0 (some (z + 14))) 1 (some (z + 15))) 2 (some (z + 16))) 3 (some (z + 17))) 4 (some (z + 18))) 5 (some (z + 19))))))) := (w81 _ (by omega) (by omega)).trans o5
  have u77_0 : G81 (z + 20) = .inr (6, [.int 0, .int 0, .ref (z + 21), .ref (z + 22)]) := (w81 _ (by omega) (by omega)).trans u77_0
  have u77_1 : G81 (z + 21) = .inl (cy 0, 60, .inl (fun _ => 0)) := (w81 _ (by omega) (by omega)).trans u77_1
  have u77_2 : G81 (z + 22) = .inl (cy 0, 60, .inl (fun _ => 0)) := (w81 _ (by omega) (by omega)).trans u77_2
  have o7 : G81 (z + 2) = .inl (cy 4, 2, .inr (.inr (.inr (.inr (va_up (fun _ => none) 0 (some (z + 20))))))) := (w81 _ (by omega) (by omega)).trans o7
  have hF : ∀ q : Nat, q ≠ h0 → q < z → G81 q = G q := fun q h1 h2 => (w81 _ (by omega) (by omega)).trans (hF q h1 h2)
  obtain ⟨u81_0, u81_1, u81_2⟩ := w81a
  have hP : kb_P D b G81 (z + 26) H := hP
  have k1 : (1 : Int32).toInt = 1 := by decide +kernel
  refine kb_aast hx hb hK hP hS (by omega) (by omega) 4 6 o7 rfl (by omega) (by omega) u81_0 rfl (by omega) (by omega) dX2_init_130 (fun j H locs ej hj hP hS => ?_)
  have ej : j = 1 := by omega
  subst ej
  obtain ⟨G82, eG82⟩ : ∃ q, q = kb_u G81 (z + 2) (.inl (cy 4, 2, .inr (.inr (.inr (.inr (va_up (va_up (fun _ => none) 0 (some (z + 20))) 1 (some (z + 23)))))))) := ⟨_, rfl⟩
  rw [← eG82] at hP
  have hF : ∀ q : Nat, q ≠ h0 → q < z → G82 q = G q := fun q h1 h2 => by rw [eG82, kb_un (by omega)]; exact hF q h1 h2
  have o9 : G82 (z + 3) = .inl (cy 1, 60, .inl (fun _ => 0)) := by rw [eG82, kb_un (by omega)]; exact o9
  have o11 : G82 (z + 4) = .inl (cy 0, 24, .inl (fun _ => 0)) := by rw [eG82, kb_un (by omega)]; exact o11
  have oh : G82 h0 = .inr (2, [.int 0, .int 22, .int 1, .ref z, .int 0, .ref (z + 1), .int 0, .ref (z + 2), .ref (z + 3), .int 0, .ref (z + 4), .int 0]) := by rw [eG82, kb_un (by omega)]; exact oh
  have u15_0 : G82 (z + 5) = .inr (0, [.int 0, .int 0, .int 0, .int 0, .int 0, .int 0]) := by rw [eG82, kb_un (by omega)]; exact u15_0
  have u19_0 : G82 (z + 6) = .inr (0, [.int 0, .int 0, .int 0, .int 0, .int 0, .int 0]) := by rw [eG82, kb_un (by omega)]; exact u19_0
  have u23_0 : G82 (z + 7) = .inr (0, [.int 0, .int 0, .int 0, .int 0, .int 0, .int 0]) := by rw [eG82, kb_un (by omega)]; exact u23_0
  have u27_0 : G82 (z + 8) = .inr (0, [.int 0, .int 0, .int 0, .int 0, .int 0, .int 0]) := by rw [eG82, kb_un (by omega)]; exact u27_0
  have u31_0 : G82 (z + 9) = .inr (0, [.int 0, .int 0, .int 0, .int 0, .int 0, .int 0]) := by rw [eG82, kb_un (by omega)]; exact u31_0
  have u35_0 : G82 (z + 10) = .inr (0, [.int 0, .int 0, .int 0, .int 0, .int 0, .int 0]) := by rw [eG82, kb_un (by omega)]; exact u35_0
  have u39_0 : G82 (z + 11) = .inr (0, [.int 0, .int 0, .int 0, .int 0, .int 0, .int 0]) := by rw [eG82, kb_un (by omega)]; exact u39_0
  have u43_0 : G82 (z + 12) = .inr (0, [.int 0, .int 0, .int 0, .int 0, .int 0, .int 0]) := by rw [eG82, kb_un (by omega)]; exact u43_0
  have u47_0 : G82 (z + 13) = .inr (0, [.int 0, .int 0, .int 0, .int 0, .int 0, .int 0]) := by rw [eG82, kb_un (by omega)]; exact u47_0
  have o3 : G82 z = .inl (cy 2, 9, .inr (.inr (.inr (.inr (va_up (va_up (va_up (va_up (va_up (va_up (va_up (va_up (va_up (fun _ => none) 0 (some (z + 5))) 1 (some (z + 6))) 2 (some (z + 7))) 3 (some (z + 8))) 4 (some (z + 9))) 5 (some (z + 10))) 6 (some (z + 11))) 7 (some (z + 12))) 8 (some (z + 13))))))) := by rw [eG82, kb_un (by omega)]; exact o3
  have u52_0 : G82 (z + 14) = .inr (1, [.int 0, .int 0]) := by rw [eG82, kb_un (by omega)]; exact u52_0
  have u56_0 : G82 (z + 15) = .inr (1, [.int 0, .int 0]) := by rw [eG82, kb_un (by omega)]; exact u56_0
  have u60_0 : G82 (z + 16) = .inr (1, [.int 0, .int 0]) := by rw [eG82, kb_un (by omega)]; exact u60_0
  have u64_0 : G82 (z + 17) = .inr (1, [.int 0, .int 0]) := by rw [eG82, kb_un (by omega)]; exact u64_0
  have u68_0 : G82 (z + 18) = .inr (1, [.int 0, .int 0]) := by rw [eG82, kb_un (by omega)]; exact u68_0
  have u72_0 : G82 (z + 19) = .inr (1, [.int 0, .int 0]) := by rw [eG82, kb_un (by omega)]; exact u72_0
  have o5 : G82 (z + 1) = .inl (cy 3, 6, .inr (.inr (.inr (.inr (va_up (va_up (va_up (va_up (va_up (va_up (fun _ => none) 0 (some (z + 14))) 1 (some (z + 15))) 2 (some (z + 16))) 3 (some (z + 17))) 4 (some (z + 18))) 5 (some (z + 19))))))) := by rw [eG82, kb_un (by omega)]; exact o5
  have u77_0 : G82 (z + 20) = .inr (6, [.int 0, .int 0, .ref (z + 21), .ref (z + 22)]) := by rw [eG82, kb_un (by omega)]; exact u77_0
  have u77_1 : G82 (z + 21) = .inl (cy 0, 60, .inl (fun _ => 0)) := by rw [eG82, kb_un (by omega)]; exact u77_1
  have u77_2 : G82 (z + 22) = .inl (cy 0, 60, .inl (fun _ => 0)) := by rw [eG82, kb_un (by omega)]; exact u77_2
  have u81_0 : G82 (z + 23) = .inr (6, [.int 0, .int 0, .ref (z + 24), .ref (z + 25)]) := by rw [eG82, kb_un (by omega)]; exact u81_0
  have u81_1 : G82 (z + 24) = .inl (cy 0, 60, .inl (fun _ => 0)) := by rw [eG82, kb_un (by omega)]; exact u81_1
  have u81_2 : G82 (z + 25) = .inl (cy 0, 60, .inl (fun _ => 0)) := by rw [eG82, kb_un (by omega)]; exact u81_2
  have o7 : G82 (z + 2) = .inl (cy 4, 2, .inr (.inr (.inr (.inr (va_up (va_up (fun _ => none) 0 (some (z + 20))) 1 (some (z + 23))))))) := by rw [eG82]; exact kb_us
  refine lv_iinc (v := 2) (lv' := [(1, .int 2), (0, .ref h0)]) hx hb dX2_init_131 hl (k := 0) rfl (by decide) (by decide) rfl (fun ls hl => ?_)
  refine lv_goto (tgt := 113) hx hb dX2_init_134 (by decide) ?_
  refine lv_iload_n hx hb dX2_init_113 rfl (lv_at hl 0 rfl) ?_
  refine lv_iconst (v := 2) hx hb dX2_init_114 (by decide) ?_
  refine lv_icmp_ge (tgt := 137) hx hb dX2_init_115 (by decide) (fun c83 => ?_) (fun c83 => absurd (by decide) c83)
  have p1 : ∀ j : Nat, j < 9 → (va_up (va_up (va_up (va_up (va_up (va_up (va_up (va_up (va_up (fun _ => none) 0 (some (z + 5))) 1 (some (z + 6))) 2 (some (z + 7))) 3 (some (z + 8))) 4 (some (z + 9))) 5 (some (z + 10))) 6 (some (z + 11))) 7 (some (z + 12))) 8 (some (z + 13))) j = some (z + 5 + j) := fun j hj => by rcases (show j = 0 ∨ j = 1 ∨ j = 2 ∨ j = 3 ∨ j = 4 ∨ j = 5 ∨ j = 6 ∨ j = 7 ∨ j = 8 by omega) with rfl | rfl | rfl | rfl | rfl | rfl | rfl | rfl | rfl <;> rfl
  have p2 : ∀ j : Nat, j < 6 → (va_up (va_up (va_up (va_up (va_up (va_up (fun _ => none) 0 (some (z + 14))) 1 (some (z + 15))) 2 (some (z + 16))) 3 (some (z + 17))) 4 (some (z + 18))) 5 (some (z + 19))) j = some (z + 14 + j) := fun j hj => by rcases (show j = 0 ∨ j = 1 ∨ j = 2 ∨ j = 3 ∨ j = 4 ∨ j = 5 by omega) with rfl | rfl | rfl | rfl | rfl | rfl <;> rfl
  have p3 : ∀ j : Nat, j < 2 → (va_up (va_up (fun _ => none) 0 (some (z + 20))) 1 (some (z + 23))) j = some (z + 20 + 3 * j) := fun j hj => by rcases (show j = 0 ∨ j = 1 by omega) with rfl | rfl <;> rfl
  have p4 : ∀ j : Nat, j < 9 → G82 (z + 5 + j) = .inr (0, [.int 0, .int 0, .int 0, .int 0, .int 0, .int 0]) := fun j hj => by rcases (show j = 0 ∨ j = 1 ∨ j = 2 ∨ j = 3 ∨ j = 4 ∨ j = 5 ∨ j = 6 ∨ j = 7 ∨ j = 8 by omega) with rfl | rfl | rfl | rfl | rfl | rfl | rfl | rfl | rfl
    · exact u15_0
    · exact u19_0
    · exact u23_0
    · exact u27_0
    · exact u31_0
    · exact u35_0
    · exact u39_0
    · exact u43_0
    · exact u47_0
  have p5 : ∀ j : Nat, j < 6 → G82 (z + 14 + j) = .inr (1, [.int 0, .int 0]) := fun j hj => by rcases (show j = 0 ∨ j = 1 ∨ j = 2 ∨ j = 3 ∨ j = 4 ∨ j = 5 by omega) with rfl | rfl | rfl | rfl | rfl | rfl
    · exact u52_0
    · exact u56_0
    · exact u60_0
    · exact u64_0
    · exact u68_0
    · exact u72_0
  have p6 : ∀ j : Nat, j < 2 → G82 (z + 20 + 3 * j) = .inr (6, [.int 0, .int 0, .ref (z + 20 + 3 * j + 1), .ref (z + 20 + 3 * j + 2)]) ∧ G82 (z + 20 + 3 * j + 1) = .inl (cy 0, 60, .inl (fun _ => 0)) ∧ G82 (z + 20 + 3 * j + 2) = .inl (cy 0, 60, .inl (fun _ => 0)) := fun j hj => by rcases (show j = 0 ∨ j = 1 by omega) with rfl | rfl
    · exact ⟨u77_0, u77_1, u77_2⟩
    · exact ⟨u81_0, u81_1, u81_2⟩
  exact kb_vret hx hb hr hlocks hK hP hS dX2_init_137 ⟨⟨oh, ⟨_, o3, p1⟩, ⟨_, o5, p2⟩, ⟨_, o7, p3⟩, o9, o11, p4, p5, p6⟩, hF⟩

/-- the class's cells from z on, its object at h -/
def kb_L (cy : Nat → ClassId) (G : Nat → va_E) (h z : Nat) : Prop := G h = .inr (8, [.ref z, .ref (z + 27), .int 0, .ref (z + 54), .ref (z + 55), .ref (z + 57), .ref (z + 60), .ref (z + 64), .ref (z + 65), .ref (z + 66)]) ∧ kb_R cy G z (z + 1) ∧ kb_R cy G (z + 27) (z + 28) ∧ (∃ f, G (z + 54) = .inl (cy 5, 4, .inr (.inr (.inr (.inr f)))) ∧ ∀ j : Nat, j < 4 → f j = some (z + 67 + 2 * j)) ∧ (∀ j : Nat, j < 4 → G (z + 67 + 2 * j) = .inr (3, [.int 0, .int 0, .ref (z + 67 + 2 * j + 1)]) ∧ G (z + 67 + 2 * j + 1) = .inl (cy 0, 24, .inl (fun _ => 0))) ∧ (G (z + 55) = .inr (5, [.ref (z + 56), .int 0, .int 0, .int 0, .int 0, .int 0]) ∧ G (z + 56) = .inl (cy 0, 30, .inl (fun _ => 0))) ∧ (G (z + 57) = .inr (7, [.int 0, .int 0, .ref (z + 58), .ref (z + 59), .int 0, .int 0]) ∧ G (z + 58) = .inl (cy 0, 60, .inl (fun _ => 0)) ∧ G (z + 59) = .inl (cy 1, 60, .inl (fun _ => 0))) ∧ (G (z + 60) = .inr (4, [.int 0, .int 0, .int 0, .int 0, .int 0, .ref (z + 61), .ref (z + 62), .ref (z + 63)]) ∧ G (z + 61) = .inl (cy 0, 9, .inl (fun _ => 0)) ∧ G (z + 62) = .inl (cy 0, 10, .inl (fun _ => 0)) ∧ G (z + 63) = .inl (cy 0, 10, .inl (fun _ => 0))) ∧ G (z + 64) = .inl (cy 0, 7, .inl (fun _ => 0)) ∧ G (z + 65) = .inl (cy 0, 10, .inl (fun _ => 0)) ∧ G (z + 66) = .inl (cy 0, 10, .inl (fun _ => 0))

set_option maxRecDepth 20000 in
theorem ggX8_init_X2_init : GoodIn wsX8_init wsX2_init := goodIn_r _ [31, 32, 2, 3, 33, 34, 35, 36, 37, 38, 39, 40, 41, 42, 23, 43, 44, 45, 46, 47, 48, 49, 50, 51, 52, 53, 54, 55, 56, 57, 58, 59, 60, 80, 81, 82, 83, 84, 85, 86, 87, 88, 89, 90, 91, 125, 126, 127, 128, 129, 130, 131, 132, 133, 134, 135, 136] (by decide +kernel) (by decide +kernel)
set_option maxRecDepth 20000 in
theorem gX8_init_X2_init : GoodIn wsX8_init (wsX2_init) := ggX8_init_X2_init
set_option maxRecDepth 20000 in
theorem ggX8_init_X5_init : GoodIn wsX8_init wsX5_init := goodIn_r _ [62, 63, 2, 3, 23, 64, 102, 103, 104, 105, 106, 107] (by decide +kernel) (by decide +kernel)
set_option maxRecDepth 20000 in
theorem gX8_init_X5_init_n27 : GoodIn wsX8_init (wsX5_init) := ggX8_init_X5_init
set_option maxRecDepth 20000 in
theorem ggX8_init_X7_init : GoodIn wsX8_init wsX7_init := goodIn_r _ [66, 67, 2, 3, 23, 68, 41, 69, 108, 109, 110, 111, 112, 113] (by decide +kernel) (by decide +kernel)
set_option maxRecDepth 20000 in
theorem gX8_init_X7_init_n34 : GoodIn wsX8_init (wsX7_init) := ggX8_init_X7_init
set_option maxRecDepth 20000 in
theorem ggX8_init_X4_init : GoodIn wsX8_init wsX4_init := goodIn_r _ [71, 72, 2, 3, 23, 73, 74, 75, 114, 115, 116, 117, 118, 119, 120, 121] (by decide +kernel) (by decide +kernel)
set_option maxRecDepth 20000 in
theorem gX8_init_X4_init_n41 : GoodIn wsX8_init (wsX4_init) := ggX8_init_X4_init
set_option maxRecDepth 20000 in
theorem ggX8_init_X3_init : GoodIn wsX8_init wsX3_init := goodIn_r _ [77, 78, 2, 3, 23, 79, 122, 123, 124] (by decide +kernel) (by decide +kernel)
set_option maxRecDepth 20000 in
theorem gX8_init_X3_init_n56 : GoodIn wsX8_init (wsX3_init) := ggX8_init_X3_init
set_option maxHeartbeats 8000000 in
set_option maxRecDepth 100000 in
theorem c_X8_init (l : Launch) (D : va_G) (cy : Nat → ClassId) (b : Nat) (G : Nat → va_E) (z h0 : Nat) (hb0 : b ≤ h0) (hz0 : h0 < z) (oh : G h0 = .inr (8, [.null, .null, .int 0, .null, .null, .null, .null, .null, .null, .null])) : Met l yX8_init wsX8_init ({ frames := 3, cells := 75, slots := 1192, locals := 53 }) (va_Pc [.ref h0] (kb_B D cy b G z)) (va_Qv (fun G1 => (kb_L cy G1 h0 z) ∧ ∀ q : Nat, q ≠ h0 → q < z → G1 q = G q) (fun G1 => kb_B D cy b G1 (z + 75)) (fun q : Nat => b ≤ q)) 75 1192 (fun q : Nat => b ≤ q) := by
  refine kb_met (cc := cX8_init) (maxL := 2) (by decide) rfl (Nat.le_of_ble_eq_true rfl) ?_
  intro p e s m args below meth c ls hx hb hr hts hown hlocks hml hin hK hP hS hl
  have hl : lv_has ls 2 [(0, .ref h0)] := hl
  have hown : s.vm.findClass RX8 = some m.cls := hown
  have hin : meth.name = "<init>" := hin
  have hF : ∀ q : Nat, q ≠ h0 → q < z → G q = G q := fun _ _ _ => rfl
  generalize hlocs0 : ([] : List Loc) = locs at hS ⊢
  have hi2 : ∀ w ∈ wsX20, w ∈ wsX8_init := by decide +kernel
  have hi3 : ∀ w ∈ wsX30, w ∈ wsX8_init := by decide +kernel
  have hi4 : ∀ w ∈ wsX40, w ∈ wsX8_init := by decide +kernel
  have hi5 : ∀ w ∈ wsX50, w ∈ wsX8_init := by decide +kernel
  have hi7 : ∀ w ∈ wsX70, w ∈ wsX8_init := by decide +kernel
  have hi8 : ∀ w ∈ wsX80, w ∈ wsX8_init := by decide +kernel
  refine lv_aload_n hx hb dX8_init_0 rfl (lv_at hl 0 rfl) ?_
  refine W.objInit hx hb hown (hts (.methodLink RX8 1 objectInit) (by decide +kernel)) (hts (.instanceMethod objectInit) (by decide +kernel)) (hts (.code objectInit ⟨#[0xb1]⟩ 1 none) (by decide +kernel)) rfl (by rw [hml]; exact hl.1) rfl dX8_init_1 (Nat.le_of_ble_eq_true rfl) (Nat.le_of_ble_eq_true rfl) ?_
  refine W.eq (g2 := F0 m 4 ls []) rfl ?_
  refine lv_aload_n hx hb dX8_init_4 rfl (lv_at hl 0 rfl) ?_
  refine kb_new (C := RX2) (T := TX2) (N := 12) hx hb hts hi2 tyX2 tyX2_ok hown (hts (.classLink RX8 7 RX2) (by decide +kernel)) (hts (.instantiable RX2 12) (by decide +kernel)) (hts (.initialized RX2) (by decide +kernel)) hK hP hS (ci := 2) rfl [.int 0, .int 0, .int 0, .null, .int 0, .null, .int 0, .null, .null, .int 0, .null, .int 0] (fun j hj => by rcases (show j = 0 ∨ j = 1 ∨ j = 2 ∨ j = 3 ∨ j = 4 ∨ j = 5 ∨ j = 6 ∨ j = 7 ∨ j = 8 ∨ j = 9 ∨ j = 10 ∨ j = 11 by omega) with rfl | rfl | rfl | rfl | rfl | rfl | rfl | rfl | rfl | rfl | rfl | rfl <;> rfl) (Nat.le_of_ble_eq_true rfl) (Nat.le_of_ble_eq_true rfl) dX8_init_5 (fun H hP hS => ?_)
  obtain ⟨G1, eG1⟩ : ∃ q, q = kb_u G z (.inr (2, [.int 0, .int 0, .int 0, .null, .int 0, .null, .int 0, .null, .null, .int 0, .null, .int 0])) := ⟨_, rfl⟩
  rw [← eG1] at hP
  have hF : ∀ q : Nat, q ≠ h0 → q < z → G1 q = G q := fun q h1 h2 => by rw [eG1, kb_un (by omega)]; exact hF q h1 h2
  have oh : G1 h0 = .inr (8, [.null, .null, .int 0, .null, .null, .null, .null, .null, .null, .null]) := by rw [eG1, kb_un (by omega)]; exact oh
  have o1 : G1 z = .inr (2, [.int 0, .int 0, .int 0, .null, .int 0, .null, .int 0, .null, .null, .int 0, .null, .int 0]) := by rw [eG1]; exact kb_us
  have hP : kb_P D b G1 (z + 1) H := hP
  refine lv_dup hx hb dX8_init_8 rfl ?_
  refine kb_callI (rest := [.ref z, .ref h0]) ⟨hx, hb, hml, hown, hts⟩ hK hP hS (c_X2_init l D cy b G1 (z + 1) z (by omega) (by omega) o1) (cwI 0 hts gX8_init_X2_init rfl rfl rfl (hts (.initialized RX2) (by decide +kernel)) (hts (.methodLink RX8 9 yX2_init) (by decide +kernel)) (hts (.instanceMethod yX2_init) (by decide +kernel)) rfl (by decide +kernel) ⟨Nat.le_of_ble_eq_true rfl, Nat.le_of_ble_eq_true rfl⟩) hl.1 (Nat.le_of_ble_eq_true rfl) dX8_init_9 ⟨Nat.le_of_ble_eq_true rfl, Nat.le_of_ble_eq_true rfl⟩ (fun G2 H locs w2 hP hS => ?_)
  obtain ⟨w2a, w2⟩ := w2
  have oh : G2 h0 = .inr (8, [.null, .null, .int 0, .null, .null, .null, .null, .null, .null, .null]) := (w2 _ (by omega) (by omega)).trans oh
  have hF : ∀ q : Nat, q ≠ h0 → q < z → G2 q = G q := fun q h1 h2 => (w2 _ (by omega) (by omega)).trans (hF q h1 h2)
  have hP : kb_P D b G2 (z + 27) H := hP
  refine kb_putF (v := .ref z) (ty := .object "NoonLaw$Realm") hx hb hts hi8 tyX8 tyX8_ok nmX8 hown hK hP hS (by omega) (by omega) oh rfl 0 (by decide) (hts (.fieldLink RX8 10 "NoonLaw" "realm" "LNoonLaw$Realm;") (by decide +kernel)) rfl rfl hin rfl (by decide +kernel) rfl rfl (Nat.le_of_ble_eq_true rfl) dX8_init_12 (fun H locs hP hS => ?_)
  have hP : kb_P D b (kb_u G2 h0 (.inr (8, [.ref z, .null, .int 0, .null, .null, .null, .null, .null, .null, .null]))) (z + 27) H := hP
  obtain ⟨G3, eG3⟩ : ∃ q, q = kb_u G2 h0 (.inr (8, [.ref z, .null, .int 0, .null, .null, .null, .null, .null, .null, .null])) := ⟨_, rfl⟩
  rw [← eG3] at hP
  have hF : ∀ q : Nat, q ≠ h0 → q < z → G3 q = G q := fun q h1 h2 => by rw [eG3, kb_un h1]; exact hF q h1 h2
  have oh : G3 h0 = .inr (8, [.ref z, .null, .int 0, .null, .null, .null, .null, .null, .null, .null]) := by rw [eG3]; exact kb_us
  have w2a : kb_R cy G3 z (z + 1) := w2a.keep (fun q h => by rw [eG3, kb_un (by omega)])
  refine lv_aload_n hx hb dX8_init_15 rfl (lv_at hl 0 rfl) ?_
  refine kb_new (C := RX2) (T := TX2) (N := 12) hx hb hts hi2 tyX2 tyX2_ok hown (hts (.classLink RX8 7 RX2) (by decide +kernel)) (hts (.instantiable RX2 12) (by decide +kernel)) (hts (.initialized RX2) (by decide +kernel)) hK hP hS (ci := 2) rfl [.int 0, .int 0, .int 0, .null, .int 0, .null, .int 0, .null, .null, .int 0, .null, .int 0] (fun j hj => by rcases (show j = 0 ∨ j = 1 ∨ j = 2 ∨ j = 3 ∨ j = 4 ∨ j = 5 ∨ j = 6 ∨ j = 7 ∨ j = 8 ∨ j = 9 ∨ j = 10 ∨ j = 11 by omega) with rfl | rfl | rfl | rfl | rfl | rfl | rfl | rfl | rfl | rfl | rfl | rfl <;> rfl) (Nat.le_of_ble_eq_true rfl) (Nat.le_of_ble_eq_true rfl) dX8_init_16 (fun H hP hS => ?_)
  obtain ⟨G4, eG4⟩ : ∃ q, q = kb_u G3 (z + 27) (.inr (2, [.int 0, .int 0, .int 0, .null, .int 0, .null, .int 0, .null, .null, .int 0, .null, .int 0])) := ⟨_, rfl⟩
  rw [← eG4] at hP
  have hF : ∀ q : Nat, q ≠ h0 → q < z → G4 q = G q := fun q h1 h2 => by rw [eG4, kb_un (by omega)]; exact hF q h1 h2
  have oh : G4 h0 = .inr (8, [.ref z, .null, .int 0, .null, .null, .null, .null, .null, .null, .null]) := by rw [eG4, kb_un (by omega)]; exact oh
  have o4 : G4 (z + 27) = .inr (2, [.int 0, .int 0, .int 0, .null, .int 0, .null, .int 0, .null, .null, .int 0, .null, .int 0]) := by rw [eG4]; exact kb_us
  have w2a : kb_R cy G4 z (z + 1) := w2a.keep (fun q h => by rw [eG4, kb_un (by omega)])
  have hP : kb_P D b G4 (z + 28) H := hP
  refine lv_dup hx hb dX8_init_19 rfl ?_
  refine kb_callI (rest := [.ref (z + 27), .ref h0]) ⟨hx, hb, hml, hown, hts⟩ hK hP hS (c_X2_init l D cy b G4 (z + 28) (z + 27) (by omega) (by omega) o4) (cwI 0 hts gX8_init_X2_init rfl rfl rfl (hts (.initialized RX2) (by decide +kernel)) (hts (.methodLink RX8 9 yX2_init) (by decide +kernel)) (hts (.instanceMethod yX2_init) (by decide +kernel)) rfl (by decide +kernel) ⟨Nat.le_of_ble_eq_true rfl, Nat.le_of_ble_eq_true rfl⟩) hl.1 (Nat.le_of_ble_eq_true rfl) dX8_init_20 ⟨Nat.le_of_ble_eq_true rfl, Nat.le_of_ble_eq_true rfl⟩ (fun G5 H locs w5 hP hS => ?_)
  obtain ⟨w5a, w5⟩ := w5
  have oh : G5 h0 = .inr (8, [.ref z, .null, .int 0, .null, .null, .null, .null, .null, .null, .null]) := (w5 _ (by omega) (by omega)).trans oh
  have w2a : kb_R cy G5 z (z + 1) := w2a.keep (fun q h => w5 _ (by omega) (by omega))
  have hF : ∀ q : Nat, q ≠ h0 → q < z → G5 q = G q := fun q h1 h2 => (w5 _ (by omega) (by omega)).trans (hF q h1 h2)
  have hP : kb_P D b G5 (z + 54) H := hP
  refine kb_putF (v := .ref (z + 27)) (ty := .object "NoonLaw$Realm") hx hb hts hi8 tyX8 tyX8_ok nmX8 hown hK hP hS (by omega) (by omega) oh rfl 1 (by decide) (hts (.fieldLink RX8 16 "NoonLaw" "kept" "LNoonLaw$Realm;") (by decide +kernel)) rfl rfl hin rfl (by decide +kernel) rfl rfl (Nat.le_of_ble_eq_true rfl) dX8_init_23 (fun H locs hP hS => ?_)
  have hP : kb_P D b (kb_u G5 h0 (.inr (8, [.ref z, .ref (z + 27), .int 0, .null, .null, .null, .null, .null, .null, .null]))) (z + 54) H := hP
  obtain ⟨G6, eG6⟩ : ∃ q, q = kb_u G5 h0 (.inr (8, [.ref z, .ref (z + 27), .int 0, .null, .null, .null, .null, .null, .null, .null])) := ⟨_, rfl⟩
  rw [← eG6] at hP
  have hF : ∀ q : Nat, q ≠ h0 → q < z → G6 q = G q := fun q h1 h2 => by rw [eG6, kb_un h1]; exact hF q h1 h2
  have oh : G6 h0 = .inr (8, [.ref z, .ref (z + 27), .int 0, .null, .null, .null, .null, .null, .null, .null]) := by rw [eG6]; exact kb_us
  have w2a : kb_R cy G6 z (z + 1) := w2a.keep (fun q h => by rw [eG6, kb_un (by omega)])
  have w5a : kb_R cy G6 (z + 27) (z + 28) := w5a.keep (fun q h => by rw [eG6, kb_un (by omega)])
  refine lv_aload_n hx hb dX8_init_26 rfl (lv_at hl 0 rfl) ?_
  refine lv_iconst (v := 4) hx hb dX8_init_27 (by decide) ?_
  refine kb_newq (C := RX3) hx hb hown (hts (.classLink RX8 19 RX3) (by decide +kernel)) hK.2.2.2.2.1 5 rfl hK hP hS (n := 4) (N' := 4) (by decide) (by decide) (Nat.le_of_ble_eq_true rfl) (Nat.le_of_ble_eq_true rfl) (Nat.le_of_ble_eq_true rfl) dX8_init_28 (fun H hP hS => ?_)
  obtain ⟨G7, eG7⟩ : ∃ q, q = kb_u G6 (z + 54) (.inl (cy 5, 4, .inr (.inr (.inr (.inr (fun _ => none)))))) := ⟨_, rfl⟩
  rw [← eG7] at hP
  have hF : ∀ q : Nat, q ≠ h0 → q < z → G7 q = G q := fun q h1 h2 => by rw [eG7, kb_un (by omega)]; exact hF q h1 h2
  have oh : G7 h0 = .inr (8, [.ref z, .ref (z + 27), .int 0, .null, .null, .null, .null, .null, .null, .null]) := by rw [eG7, kb_un (by omega)]; exact oh
  have o7 : G7 (z + 54) = .inl (cy 5, 4, .inr (.inr (.inr (.inr (fun _ => none))))) := by rw [eG7]; exact kb_us
  have w2a : kb_R cy G7 z (z + 1) := w2a.keep (fun q h => by rw [eG7, kb_un (by omega)])
  have w5a : kb_R cy G7 (z + 27) (z + 28) := w5a.keep (fun q h => by rw [eG7, kb_un (by omega)])
  have hP : kb_P D b G7 (z + 55) H := hP
  refine kb_putF (v := .ref (z + 54)) (ty := .array (.object "NoonLaw$Sheet")) hx hb hts hi8 tyX8 tyX8_ok nmX8 hown hK hP hS (by omega) (by omega) oh rfl 3 (by decide) (hts (.fieldLink RX8 21 "NoonLaw" "sheets" "[LNoonLaw$Sheet;") (by decide +kernel)) rfl rfl hin rfl (by decide +kernel) rfl rfl (Nat.le_of_ble_eq_true rfl) dX8_init_31 (fun H locs hP hS => ?_)
  have hP : kb_P D b (kb_u G7 h0 (.inr (8, [.ref z, .ref (z + 27), .int 0, .ref (z + 54), .null, .null, .null, .null, .null, .null]))) (z + 55) H := hP
  obtain ⟨G8, eG8⟩ : ∃ q, q = kb_u G7 h0 (.inr (8, [.ref z, .ref (z + 27), .int 0, .ref (z + 54), .null, .null, .null, .null, .null, .null])) := ⟨_, rfl⟩
  rw [← eG8] at hP
  have hF : ∀ q : Nat, q ≠ h0 → q < z → G8 q = G q := fun q h1 h2 => by rw [eG8, kb_un h1]; exact hF q h1 h2
  have o7 : G8 (z + 54) = .inl (cy 5, 4, .inr (.inr (.inr (.inr (fun _ => none))))) := by rw [eG8, kb_un (by omega)]; exact o7
  have oh : G8 h0 = .inr (8, [.ref z, .ref (z + 27), .int 0, .ref (z + 54), .null, .null, .null, .null, .null, .null]) := by rw [eG8]; exact kb_us
  have w2a : kb_R cy G8 z (z + 1) := w2a.keep (fun q h => by rw [eG8, kb_un (by omega)])
  have w5a : kb_R cy G8 (z + 27) (z + 28) := w5a.keep (fun q h => by rw [eG8, kb_un (by omega)])
  refine lv_aload_n hx hb dX8_init_34 rfl (lv_at hl 0 rfl) ?_
  refine kb_new (C := RX5) (T := TX5) (N := 6) hx hb hts hi5 tyX5 tyX5_ok hown (hts (.classLink RX8 25 RX5) (by decide +kernel)) (hts (.instantiable RX5 6) (by decide +kernel)) (hts (.initialized RX5) (by decide +kernel)) hK hP hS (ci := 5) rfl [.null, .int 0, .int 0, .int 0, .int 0, .int 0] (fun j hj => by rcases (show j = 0 ∨ j = 1 ∨ j = 2 ∨ j = 3 ∨ j = 4 ∨ j = 5 by omega) with rfl | rfl | rfl | rfl | rfl | rfl <;> rfl) (Nat.le_of_ble_eq_true rfl) (Nat.le_of_ble_eq_true rfl) dX8_init_35 (fun H hP hS => ?_)
  obtain ⟨G9, eG9⟩ : ∃ q, q = kb_u G8 (z + 55) (.inr (5, [.null, .int 0, .int 0, .int 0, .int 0, .int 0])) := ⟨_, rfl⟩
  rw [← eG9] at hP
  have hF : ∀ q : Nat, q ≠ h0 → q < z → G9 q = G q := fun q h1 h2 => by rw [eG9, kb_un (by omega)]; exact hF q h1 h2
  have o7 : G9 (z + 54) = .inl (cy 5, 4, .inr (.inr (.inr (.inr (fun _ => none))))) := by rw [eG9, kb_un (by omega)]; exact o7
  have oh : G9 h0 = .inr (8, [.ref z, .ref (z + 27), .int 0, .ref (z + 54), .null, .null, .null, .null, .null, .null]) := by rw [eG9, kb_un (by omega)]; exact oh
  have o9 : G9 (z + 55) = .inr (5, [.null, .int 0, .int 0, .int 0, .int 0, .int 0]) := by rw [eG9]; exact kb_us
  have w2a : kb_R cy G9 z (z + 1) := w2a.keep (fun q h => by rw [eG9, kb_un (by omega)])
  have w5a : kb_R cy G9 (z + 27) (z + 28) := w5a.keep (fun q h => by rw [eG9, kb_un (by omega)])
  have hP : kb_P D b G9 (z + 56) H := hP
  refine lv_dup hx hb dX8_init_38 rfl ?_
  refine kb_callN (rest := [.ref (z + 55), .ref h0]) ⟨hx, hb, hml, hown, hts⟩ hK hP hS (c_X5_init l D cy b G9 (z + 56) (z + 55) (by omega) (by omega) o9) ⟨va_cnB 0 hts gX8_init_X5_init_n27 rfl rfl rfl (hK.2.2.2.2.2.2.2.2.1) (hts (.initialized RX5) (by decide +kernel)) (by decide +kernel) ⟨Nat.le_of_ble_eq_true rfl, Nat.le_of_ble_eq_true rfl⟩, rfl, hts (.instanceMethod yX5_init) (by decide +kernel)⟩ hl.1 (Nat.le_of_ble_eq_true rfl) dX8_init_39 ⟨Nat.le_of_ble_eq_true rfl, Nat.le_of_ble_eq_true rfl⟩ (fun G10 H locs w10 hP hS => ?_)
  obtain ⟨w10a, w10⟩ := w10
  have o7 : G10 (z + 54) = .inl (cy 5, 4, .inr (.inr (.inr (.inr (fun _ => none))))) := (w10 _ (by omega) (by omega)).trans o7
  have oh : G10 h0 = .inr (8, [.ref z, .ref (z + 27), .int 0, .ref (z + 54), .null, .null, .null, .null, .null, .null]) := (w10 _ (by omega) (by omega)).trans oh
  have w2a : kb_R cy G10 z (z + 1) := w2a.keep (fun q h => w10 _ (by omega) (by omega))
  have w5a : kb_R cy G10 (z + 27) (z + 28) := w5a.keep (fun q h => w10 _ (by omega) (by omega))
  have hF : ∀ q : Nat, q ≠ h0 → q < z → G10 q = G q := fun q h1 h2 => (w10 _ (by omega) (by omega)).trans (hF q h1 h2)
  obtain ⟨u10_0, u10_1⟩ := w10a
  have hP : kb_P D b G10 (z + 57) H := hP
  refine kb_putF (v := .ref (z + 55)) (ty := .object "NoonLaw$Speaker") hx hb hts hi8 tyX8 tyX8_ok nmX8 hown hK hP hS (by omega) (by omega) oh rfl 4 (by decide) (hts (.fieldLink RX8 28 "NoonLaw" "speaker" "LNoonLaw$Speaker;") (by decide +kernel)) rfl rfl hin rfl (by decide +kernel) rfl rfl (Nat.le_of_ble_eq_true rfl) dX8_init_42 (fun H locs hP hS => ?_)
  have hP : kb_P D b (kb_u G10 h0 (.inr (8, [.ref z, .ref (z + 27), .int 0, .ref (z + 54), .ref (z + 55), .null, .null, .null, .null, .null]))) (z + 57) H := hP
  obtain ⟨G11, eG11⟩ : ∃ q, q = kb_u G10 h0 (.inr (8, [.ref z, .ref (z + 27), .int 0, .ref (z + 54), .ref (z + 55), .null, .null, .null, .null, .null])) := ⟨_, rfl⟩
  rw [← eG11] at hP
  have hF : ∀ q : Nat, q ≠ h0 → q < z → G11 q = G q := fun q h1 h2 => by rw [eG11, kb_un h1]; exact hF q h1 h2
  have o7 : G11 (z + 54) = .inl (cy 5, 4, .inr (.inr (.inr (.inr (fun _ => none))))) := by rw [eG11, kb_un (by omega)]; exact o7
  have u10_0 : G11 (z + 55) = .inr (5, [.ref (z + 56), .int 0, .int 0, .int 0, .int 0, .int 0]) := by rw [eG11, kb_un (by omega)]; exact u10_0
  have u10_1 : G11 (z + 56) = .inl (cy 0, 30, .inl (fun _ => 0)) := by rw [eG11, kb_un (by omega)]; exact u10_1
  have oh : G11 h0 = .inr (8, [.ref z, .ref (z + 27), .int 0, .ref (z + 54), .ref (z + 55), .null, .null, .null, .null, .null]) := by rw [eG11]; exact kb_us
  have w2a : kb_R cy G11 z (z + 1) := w2a.keep (fun q h => by rw [eG11, kb_un (by omega)])
  have w5a : kb_R cy G11 (z + 27) (z + 28) := w5a.keep (fun q h => by rw [eG11, kb_un (by omega)])
  refine lv_aload_n hx hb dX8_init_45 rfl (lv_at hl 0 rfl) ?_
  refine kb_new (C := RX7) (T := TX7) (N := 6) hx hb hts hi7 tyX7 tyX7_ok hown (hts (.classLink RX8 32 RX7) (by decide +kernel)) (hts (.instantiable RX7 6) (by decide +kernel)) (hts (.initialized RX7) (by decide +kernel)) hK hP hS (ci := 7) rfl [.int 0, .int 0, .null, .null, .int 0, .int 0] (fun j hj => by rcases (show j = 0 ∨ j = 1 ∨ j = 2 ∨ j = 3 ∨ j = 4 ∨ j = 5 by omega) with rfl | rfl | rfl | rfl | rfl | rfl <;> rfl) (Nat.le_of_ble_eq_true rfl) (Nat.le_of_ble_eq_true rfl) dX8_init_46 (fun H hP hS => ?_)
  obtain ⟨G12, eG12⟩ : ∃ q, q = kb_u G11 (z + 57) (.inr (7, [.int 0, .int 0, .null, .null, .int 0, .int 0])) := ⟨_, rfl⟩
  rw [← eG12] at hP
  have hF : ∀ q : Nat, q ≠ h0 → q < z → G12 q = G q := fun q h1 h2 => by rw [eG12, kb_un (by omega)]; exact hF q h1 h2
  have o7 : G12 (z + 54) = .inl (cy 5, 4, .inr (.inr (.inr (.inr (fun _ => none))))) := by rw [eG12, kb_un (by omega)]; exact o7
  have u10_0 : G12 (z + 55) = .inr (5, [.ref (z + 56), .int 0, .int 0, .int 0, .int 0, .int 0]) := by rw [eG12, kb_un (by omega)]; exact u10_0
  have u10_1 : G12 (z + 56) = .inl (cy 0, 30, .inl (fun _ => 0)) := by rw [eG12, kb_un (by omega)]; exact u10_1
  have oh : G12 h0 = .inr (8, [.ref z, .ref (z + 27), .int 0, .ref (z + 54), .ref (z + 55), .null, .null, .null, .null, .null]) := by rw [eG12, kb_un (by omega)]; exact oh
  have o12 : G12 (z + 57) = .inr (7, [.int 0, .int 0, .null, .null, .int 0, .int 0]) := by rw [eG12]; exact kb_us
  have w2a : kb_R cy G12 z (z + 1) := w2a.keep (fun q h => by rw [eG12, kb_un (by omega)])
  have w5a : kb_R cy G12 (z + 27) (z + 28) := w5a.keep (fun q h => by rw [eG12, kb_un (by omega)])
  have hP : kb_P D b G12 (z + 58) H := hP
  refine lv_dup hx hb dX8_init_49 rfl ?_
  refine kb_callN (rest := [.ref (z + 57), .ref h0]) ⟨hx, hb, hml, hown, hts⟩ hK hP hS (c_X7_init l D cy b G12 (z + 58) (z + 57) (by omega) (by omega) o12) ⟨va_cnB 0 hts gX8_init_X7_init_n34 rfl rfl rfl (hK.2.2.2.2.2.2.2.2.2.1) (hts (.initialized RX7) (by decide +kernel)) (by decide +kernel) ⟨Nat.le_of_ble_eq_true rfl, Nat.le_of_ble_eq_true rfl⟩, rfl, hts (.instanceMethod yX7_init) (by decide +kernel)⟩ hl.1 (Nat.le_of_ble_eq_true rfl) dX8_init_50 ⟨Nat.le_of_ble_eq_true rfl, Nat.le_of_ble_eq_true rfl⟩ (fun G13 H locs w13 hP hS => ?_)
  obtain ⟨w13a, w13⟩ := w13
  have o7 : G13 (z + 54) = .inl (cy 5, 4, .inr (.inr (.inr (.inr (fun _ => none))))) := (w13 _ (by omega) (by omega)).trans o7
  have u10_0 : G13 (z + 55) = .inr (5, [.ref (z + 56), .int 0, .int 0, .int 0, .int 0, .int 0]) := (w13 _ (by omega) (by omega)).trans u10_0
  have u10_1 : G13 (z + 56) = .inl (cy 0, 30, .inl (fun _ => 0)) := (w13 _ (by omega) (by omega)).trans u10_1
  have oh : G13 h0 = .inr (8, [.ref z, .ref (z + 27), .int 0, .ref (z + 54), .ref (z + 55), .null, .null, .null, .null, .null]) := (w13 _ (by omega) (by omega)).trans oh
  have w2a : kb_R cy G13 z (z + 1) := w2a.keep (fun q h => w13 _ (by omega) (by omega))
  have w5a : kb_R cy G13 (z + 27) (z + 28) := w5a.keep (fun q h => w13 _ (by omega) (by omega))
  have hF : ∀ q : Nat, q ≠ h0 → q < z → G13 q = G q := fun q h1 h2 => (w13 _ (by omega) (by omega)).trans (hF q h1 h2)
  obtain ⟨u13_0, u13_1, u13_2⟩ := w13a
  have hP : kb_P D b G13 (z + 60) H := hP
  refine kb_putF (v := .ref (z + 57)) (ty := .object "NoonLaw$TextReader") hx hb hts hi8 tyX8 tyX8_ok nmX8 hown hK hP hS (by omega) (by omega) oh rfl 5 (by decide) (hts (.fieldLink RX8 35 "NoonLaw" "reader" "LNoonLaw$TextReader;") (by decide +kernel)) rfl rfl hin rfl (by decide +kernel) rfl rfl (Nat.le_of_ble_eq_true rfl) dX8_init_53 (fun H locs hP hS => ?_)
  have hP : kb_P D b (kb_u G13 h0 (.inr (8, [.ref z, .ref (z + 27), .int 0, .ref (z + 54), .ref (z + 55), .ref (z + 57), .null, .null, .null, .null]))) (z + 60) H := hP
  obtain ⟨G14, eG14⟩ : ∃ q, q = kb_u G13 h0 (.inr (8, [.ref z, .ref (z + 27), .int 0, .ref (z + 54), .ref (z + 55), .ref (z + 57), .null, .null, .null, .null])) := ⟨_, rfl⟩
  rw [← eG14] at hP
  have hF : ∀ q : Nat, q ≠ h0 → q < z → G14 q = G q := fun q h1 h2 => by rw [eG14, kb_un h1]; exact hF q h1 h2
  have o7 : G14 (z + 54) = .inl (cy 5, 4, .inr (.inr (.inr (.inr (fun _ => none))))) := by rw [eG14, kb_un (by omega)]; exact o7
  have u10_0 : G14 (z + 55) = .inr (5, [.ref (z + 56), .int 0, .int 0, .int 0, .int 0, .int 0]) := by rw [eG14, kb_un (by omega)]; exact u10_0
  have u10_1 : G14 (z + 56) = .inl (cy 0, 30, .inl (fun _ => 0)) := by rw [eG14, kb_un (by omega)]; exact u10_1
  have u13_0 : G14 (z + 57) = .inr (7, [.int 0, .int 0, .ref (z + 58), .ref (z + 59), .int 0, .int 0]) := by rw [eG14, kb_un (by omega)]; exact u13_0
  have u13_1 : G14 (z + 58) = .inl (cy 0, 60, .inl (fun _ => 0)) := by rw [eG14, kb_un (by omega)]; exact u13_1
  have u13_2 : G14 (z + 59) = .inl (cy 1, 60, .inl (fun _ => 0)) := by rw [eG14, kb_un (by omega)]; exact u13_2
  have oh : G14 h0 = .inr (8, [.ref z, .ref (z + 27), .int 0, .ref (z + 54), .ref (z + 55), .ref (z + 57), .null, .null, .null, .null]) := by rw [eG14]; exact kb_us
  have w2a : kb_R cy G14 z (z + 1) := w2a.keep (fun q h => by rw [eG14, kb_un (by omega)])
  have w5a : kb_R cy G14 (z + 27) (z + 28) := w5a.keep (fun q h => by rw [eG14, kb_un (by omega)])
  refine lv_aload_n hx hb dX8_init_56 rfl (lv_at hl 0 rfl) ?_
  refine kb_new (C := RX4) (T := TX4) (N := 8) hx hb hts hi4 tyX4 tyX4_ok hown (hts (.classLink RX8 39 RX4) (by decide +kernel)) (hts (.instantiable RX4 8) (by decide +kernel)) (hts (.initialized RX4) (by decide +kernel)) hK hP hS (ci := 4) rfl [.int 0, .int 0, .int 0, .int 0, .int 0, .null, .null, .null] (fun j hj => by rcases (show j = 0 ∨ j = 1 ∨ j = 2 ∨ j = 3 ∨ j = 4 ∨ j = 5 ∨ j = 6 ∨ j = 7 by omega) with rfl | rfl | rfl | rfl | rfl | rfl | rfl | rfl <;> rfl) (Nat.le_of_ble_eq_true rfl) (Nat.le_of_ble_eq_true rfl) dX8_init_57 (fun H hP hS => ?_)
  obtain ⟨G15, eG15⟩ : ∃ q, q = kb_u G14 (z + 60) (.inr (4, [.int 0, .int 0, .int 0, .int 0, .int 0, .null, .null, .null])) := ⟨_, rfl⟩
  rw [← eG15] at hP
  have hF : ∀ q : Nat, q ≠ h0 → q < z → G15 q = G q := fun q h1 h2 => by rw [eG15, kb_un (by omega)]; exact hF q h1 h2
  have o7 : G15 (z + 54) = .inl (cy 5, 4, .inr (.inr (.inr (.inr (fun _ => none))))) := by rw [eG15, kb_un (by omega)]; exact o7
  have u10_0 : G15 (z + 55) = .inr (5, [.ref (z + 56), .int 0, .int 0, .int 0, .int 0, .int 0]) := by rw [eG15, kb_un (by omega)]; exact u10_0
  have u10_1 : G15 (z + 56) = .inl (cy 0, 30, .inl (fun _ => 0)) := by rw [eG15, kb_un (by omega)]; exact u10_1
  have u13_0 : G15 (z + 57) = .inr (7, [.int 0, .int 0, .ref (z + 58), .ref (z + 59), .int 0, .int 0]) := by rw [eG15, kb_un (by omega)]; exact u13_0
  have u13_1 : G15 (z + 58) = .inl (cy 0, 60, .inl (fun _ => 0)) := by rw [eG15, kb_un (by omega)]; exact u13_1
  have u13_2 : G15 (z + 59) = .inl (cy 1, 60, .inl (fun _ => 0)) := by rw [eG15, kb_un (by omega)]; exact u13_2
  have oh : G15 h0 = .inr (8, [.ref z, .ref (z + 27), .int 0, .ref (z + 54), .ref (z + 55), .ref (z + 57), .null, .null, .null, .null]) := by rw [eG15, kb_un (by omega)]; exact oh
  have o15 : G15 (z + 60) = .inr (4, [.int 0, .int 0, .int 0, .int 0, .int 0, .null, .null, .null]) := by rw [eG15]; exact kb_us
  have w2a : kb_R cy G15 z (z + 1) := w2a.keep (fun q h => by rw [eG15, kb_un (by omega)])
  have w5a : kb_R cy G15 (z + 27) (z + 28) := w5a.keep (fun q h => by rw [eG15, kb_un (by omega)])
  have hP : kb_P D b G15 (z + 61) H := hP
  refine lv_dup hx hb dX8_init_60 rfl ?_
  refine kb_callN (rest := [.ref (z + 60), .ref h0]) ⟨hx, hb, hml, hown, hts⟩ hK hP hS (c_X4_init l D cy b G15 (z + 61) (z + 60) (by omega) (by omega) o15) ⟨va_cnB 0 hts gX8_init_X4_init_n41 rfl rfl rfl (hK.2.2.2.2.2.2.2.2.2.2.1) (hts (.initialized RX4) (by decide +kernel)) (by decide +kernel) ⟨Nat.le_of_ble_eq_true rfl, Nat.le_of_ble_eq_true rfl⟩, rfl, hts (.instanceMethod yX4_init) (by decide +kernel)⟩ hl.1 (Nat.le_of_ble_eq_true rfl) dX8_init_61 ⟨Nat.le_of_ble_eq_true rfl, Nat.le_of_ble_eq_true rfl⟩ (fun G16 H locs w16 hP hS => ?_)
  obtain ⟨w16a, w16⟩ := w16
  have o7 : G16 (z + 54) = .inl (cy 5, 4, .inr (.inr (.inr (.inr (fun _ => none))))) := (w16 _ (by omega) (by omega)).trans o7
  have u10_0 : G16 (z + 55) = .inr (5, [.ref (z + 56), .int 0, .int 0, .int 0, .int 0, .int 0]) := (w16 _ (by omega) (by omega)).trans u10_0
  have u10_1 : G16 (z + 56) = .inl (cy 0, 30, .inl (fun _ => 0)) := (w16 _ (by omega) (by omega)).trans u10_1
  have u13_0 : G16 (z + 57) = .inr (7, [.int 0, .int 0, .ref (z + 58), .ref (z + 59), .int 0, .int 0]) := (w16 _ (by omega) (by omega)).trans u13_0
  have u13_1 : G16 (z + 58) = .inl (cy 0, 60, .inl (fun _ => 0)) := (w16 _ (by omega) (by omega)).trans u13_1
  have u13_2 : G16 (z + 59) = .inl (cy 1, 60, .inl (fun _ => 0)) := (w16 _ (by omega) (by omega)).trans u13_2
  have oh : G16 h0 = .inr (8, [.ref z, .ref (z + 27), .int 0, .ref (z + 54), .ref (z + 55), .ref (z + 57), .null, .null, .null, .null]) := (w16 _ (by omega) (by omega)).trans oh
  have w2a : kb_R cy G16 z (z + 1) := w2a.keep (fun q h => w16 _ (by omega) (by omega))
  have w5a : kb_R cy G16 (z + 27) (z + 28) := w5a.keep (fun q h => w16 _ (by omega) (by omega))
  have hF : ∀ q : Nat, q ≠ h0 → q < z → G16 q = G q := fun q h1 h2 => (w16 _ (by omega) (by omega)).trans (hF q h1 h2)
  obtain ⟨u16_0, u16_1, u16_2, u16_3⟩ := w16a
  have hP : kb_P D b G16 (z + 64) H := hP
  refine kb_putF (v := .ref (z + 60)) (ty := .object "NoonLaw$Sight") hx hb hts hi8 tyX8 tyX8_ok nmX8 hown hK hP hS (by omega) (by omega) oh rfl 6 (by decide) (hts (.fieldLink RX8 42 "NoonLaw" "sight" "LNoonLaw$Sight;") (by decide +kernel)) rfl rfl hin rfl (by decide +kernel) rfl rfl (Nat.le_of_ble_eq_true rfl) dX8_init_64 (fun H locs hP hS => ?_)
  have hP : kb_P D b (kb_u G16 h0 (.inr (8, [.ref z, .ref (z + 27), .int 0, .ref (z + 54), .ref (z + 55), .ref (z + 57), .ref (z + 60), .null, .null, .null]))) (z + 64) H := hP
  obtain ⟨G17, eG17⟩ : ∃ q, q = kb_u G16 h0 (.inr (8, [.ref z, .ref (z + 27), .int 0, .ref (z + 54), .ref (z + 55), .ref (z + 57), .ref (z + 60), .null, .null, .null])) := ⟨_, rfl⟩
  rw [← eG17] at hP
  have hF : ∀ q : Nat, q ≠ h0 → q < z → G17 q = G q := fun q h1 h2 => by rw [eG17, kb_un h1]; exact hF q h1 h2
  have o7 : G17 (z + 54) = .inl (cy 5, 4, .inr (.inr (.inr (.inr (fun _ => none))))) := by rw [eG17, kb_un (by omega)]; exact o7
  have u10_0 : G17 (z + 55) = .inr (5, [.ref (z + 56), .int 0, .int 0, .int 0, .int 0, .int 0]) := by rw [eG17, kb_un (by omega)]; exact u10_0
  have u10_1 : G17 (z + 56) = .inl (cy 0, 30, .inl (fun _ => 0)) := by rw [eG17, kb_un (by omega)]; exact u10_1
  have u13_0 : G17 (z + 57) = .inr (7, [.int 0, .int 0, .ref (z + 58), .ref (z + 59), .int 0, .int 0]) := by rw [eG17, kb_un (by omega)]; exact u13_0
  have u13_1 : G17 (z + 58) = .inl (cy 0, 60, .inl (fun _ => 0)) := by rw [eG17, kb_un (by omega)]; exact u13_1
  have u13_2 : G17 (z + 59) = .inl (cy 1, 60, .inl (fun _ => 0)) := by rw [eG17, kb_un (by omega)]; exact u13_2
  have u16_0 : G17 (z + 60) = .inr (4, [.int 0, .int 0, .int 0, .int 0, .int 0, .ref (z + 61), .ref (z + 62), .ref (z + 63)]) := by rw [eG17, kb_un (by omega)]; exact u16_0
  have u16_1 : G17 (z + 61) = .inl (cy 0, 9, .inl (fun _ => 0)) := by rw [eG17, kb_un (by omega)]; exact u16_1
  have u16_2 : G17 (z + 62) = .inl (cy 0, 10, .inl (fun _ => 0)) := by rw [eG17, kb_un (by omega)]; exact u16_2
  have u16_3 : G17 (z + 63) = .inl (cy 0, 10, .inl (fun _ => 0)) := by rw [eG17, kb_un (by omega)]; exact u16_3
  have oh : G17 h0 = .inr (8, [.ref z, .ref (z + 27), .int 0, .ref (z + 54), .ref (z + 55), .ref (z + 57), .ref (z + 60), .null, .null, .null]) := by rw [eG17]; exact kb_us
  have w2a : kb_R cy G17 z (z + 1) := w2a.keep (fun q h => by rw [eG17, kb_un (by omega)])
  have w5a : kb_R cy G17 (z + 27) (z + 28) := w5a.keep (fun q h => by rw [eG17, kb_un (by omega)])
  refine lv_aload_n hx hb dX8_init_67 rfl (lv_at hl 0 rfl) ?_
  refine lv_bipush (v := 7) hx hb dX8_init_68 (by decide) ?_
  refine kb_newa hx hb (hts (.arrayClass .int) (by decide +kernel)) 0 (ty := .int) rfl rfl (fun _ _ h => h) hK hP hS (n := 7) (N' := 7) rfl (by decide) (by decide) (Nat.le_of_ble_eq_true rfl) (Nat.le_of_ble_eq_true rfl) (Nat.le_of_ble_eq_true rfl) dX8_init_70 (fun H hP hS => ?_)
  obtain ⟨G18, eG18⟩ : ∃ q, q = kb_u G17 (z + 64) (.inl (cy 0, 7, .inl (fun _ => 0))) := ⟨_, rfl⟩
  rw [← eG18] at hP
  have hF : ∀ q : Nat, q ≠ h0 → q < z → G18 q = G q := fun q h1 h2 => by rw [eG18, kb_un (by omega)]; exact hF q h1 h2
  have o7 : G18 (z + 54) = .inl (cy 5, 4, .inr (.inr (.inr (.inr (fun _ => none))))) := by rw [eG18, kb_un (by omega)]; exact o7
  have u10_0 : G18 (z + 55) = .inr (5, [.ref (z + 56), .int 0, .int 0, .int 0, .int 0, .int 0]) := by rw [eG18, kb_un (by omega)]; exact u10_0
  have u10_1 : G18 (z + 56) = .inl (cy 0, 30, .inl (fun _ => 0)) := by rw [eG18, kb_un (by omega)]; exact u10_1
  have u13_0 : G18 (z + 57) = .inr (7, [.int 0, .int 0, .ref (z + 58), .ref (z + 59), .int 0, .int 0]) := by rw [eG18, kb_un (by omega)]; exact u13_0
  have u13_1 : G18 (z + 58) = .inl (cy 0, 60, .inl (fun _ => 0)) := by rw [eG18, kb_un (by omega)]; exact u13_1
  have u13_2 : G18 (z + 59) = .inl (cy 1, 60, .inl (fun _ => 0)) := by rw [eG18, kb_un (by omega)]; exact u13_2
  have u16_0 : G18 (z + 60) = .inr (4, [.int 0, .int 0, .int 0, .int 0, .int 0, .ref (z + 61), .ref (z + 62), .ref (z + 63)]) := by rw [eG18, kb_un (by omega)]; exact u16_0
  have u16_1 : G18 (z + 61) = .inl (cy 0, 9, .inl (fun _ => 0)) := by rw [eG18, kb_un (by omega)]; exact u16_1
  have u16_2 : G18 (z + 62) = .inl (cy 0, 10, .inl (fun _ => 0)) := by rw [eG18, kb_un (by omega)]; exact u16_2
  have u16_3 : G18 (z + 63) = .inl (cy 0, 10, .inl (fun _ => 0)) := by rw [eG18, kb_un (by omega)]; exact u16_3
  have oh : G18 h0 = .inr (8, [.ref z, .ref (z + 27), .int 0, .ref (z + 54), .ref (z + 55), .ref (z + 57), .ref (z + 60), .null, .null, .null]) := by rw [eG18, kb_un (by omega)]; exact oh
  have o18 : G18 (z + 64) = .inl (cy 0, 7, .inl (fun _ => 0)) := by rw [eG18]; exact kb_us
  have w2a : kb_R cy G18 z (z + 1) := w2a.keep (fun q h => by rw [eG18, kb_un (by omega)])
  have w5a : kb_R cy G18 (z + 27) (z + 28) := w5a.keep (fun q h => by rw [eG18, kb_un (by omega)])
  have hP : kb_P D b G18 (z + 65) H := hP
  refine kb_putF (v := .ref (z + 64)) (ty := .array .int) hx hb hts hi8 tyX8 tyX8_ok nmX8 hown hK hP hS (by omega) (by omega) oh rfl 7 (by decide) (hts (.fieldLink RX8 46 "NoonLaw" "refused" "[I") (by decide +kernel)) rfl rfl hin rfl (by decide +kernel) rfl rfl (Nat.le_of_ble_eq_true rfl) dX8_init_72 (fun H locs hP hS => ?_)
  have hP : kb_P D b (kb_u G18 h0 (.inr (8, [.ref z, .ref (z + 27), .int 0, .ref (z + 54), .ref (z + 55), .ref (z + 57), .ref (z + 60), .ref (z + 64), .null, .null]))) (z + 65) H := hP
  obtain ⟨G19, eG19⟩ : ∃ q, q = kb_u G18 h0 (.inr (8, [.ref z, .ref (z + 27), .int 0, .ref (z + 54), .ref (z + 55), .ref (z + 57), .ref (z + 60), .ref (z + 64), .null, .null])) := ⟨_, rfl⟩
  rw [← eG19] at hP
  have hF : ∀ q : Nat, q ≠ h0 → q < z → G19 q = G q := fun q h1 h2 => by rw [eG19, kb_un h1]; exact hF q h1 h2
  have o7 : G19 (z + 54) = .inl (cy 5, 4, .inr (.inr (.inr (.inr (fun _ => none))))) := by rw [eG19, kb_un (by omega)]; exact o7
  have u10_0 : G19 (z + 55) = .inr (5, [.ref (z + 56), .int 0, .int 0, .int 0, .int 0, .int 0]) := by rw [eG19, kb_un (by omega)]; exact u10_0
  have u10_1 : G19 (z + 56) = .inl (cy 0, 30, .inl (fun _ => 0)) := by rw [eG19, kb_un (by omega)]; exact u10_1
  have u13_0 : G19 (z + 57) = .inr (7, [.int 0, .int 0, .ref (z + 58), .ref (z + 59), .int 0, .int 0]) := by rw [eG19, kb_un (by omega)]; exact u13_0
  have u13_1 : G19 (z + 58) = .inl (cy 0, 60, .inl (fun _ => 0)) := by rw [eG19, kb_un (by omega)]; exact u13_1
  have u13_2 : G19 (z + 59) = .inl (cy 1, 60, .inl (fun _ => 0)) := by rw [eG19, kb_un (by omega)]; exact u13_2
  have u16_0 : G19 (z + 60) = .inr (4, [.int 0, .int 0, .int 0, .int 0, .int 0, .ref (z + 61), .ref (z + 62), .ref (z + 63)]) := by rw [eG19, kb_un (by omega)]; exact u16_0
  have u16_1 : G19 (z + 61) = .inl (cy 0, 9, .inl (fun _ => 0)) := by rw [eG19, kb_un (by omega)]; exact u16_1
  have u16_2 : G19 (z + 62) = .inl (cy 0, 10, .inl (fun _ => 0)) := by rw [eG19, kb_un (by omega)]; exact u16_2
  have u16_3 : G19 (z + 63) = .inl (cy 0, 10, .inl (fun _ => 0)) := by rw [eG19, kb_un (by omega)]; exact u16_3
  have o18 : G19 (z + 64) = .inl (cy 0, 7, .inl (fun _ => 0)) := by rw [eG19, kb_un (by omega)]; exact o18
  have oh : G19 h0 = .inr (8, [.ref z, .ref (z + 27), .int 0, .ref (z + 54), .ref (z + 55), .ref (z + 57), .ref (z + 60), .ref (z + 64), .null, .null]) := by rw [eG19]; exact kb_us
  have w2a : kb_R cy G19 z (z + 1) := w2a.keep (fun q h => by rw [eG19, kb_un (by omega)])
  have w5a : kb_R cy G19 (z + 27) (z + 28) := w5a.keep (fun q h => by rw [eG19, kb_un (by omega)])
  refine lv_aload_n hx hb dX8_init_75 rfl (lv_at hl 0 rfl) ?_
  refine lv_bipush (v := 10) hx hb dX8_init_76 (by decide) ?_
  refine kb_newa hx hb (hts (.arrayClass .int) (by decide +kernel)) 0 (ty := .int) rfl rfl (fun _ _ h => h) hK hP hS (n := 10) (N' := 10) rfl (by decide) (by decide) (Nat.le_of_ble_eq_true rfl) (Nat.le_of_ble_eq_true rfl) (Nat.le_of_ble_eq_true rfl) dX8_init_78 (fun H hP hS => ?_)
  obtain ⟨G20, eG20⟩ : ∃ q, q = kb_u G19 (z + 65) (.inl (cy 0, 10, .inl (fun _ => 0))) := ⟨_, rfl⟩
  rw [← eG20] at hP
  have hF : ∀ q : Nat, q ≠ h0 → q < z → G20 q = G q := fun q h1 h2 => by rw [eG20, kb_un (by omega)]; exact hF q h1 h2
  have o7 : G20 (z + 54) = .inl (cy 5, 4, .inr (.inr (.inr (.inr (fun _ => none))))) := by rw [eG20, kb_un (by omega)]; exact o7
  have u10_0 : G20 (z + 55) = .inr (5, [.ref (z + 56), .int 0, .int 0, .int 0, .int 0, .int 0]) := by rw [eG20, kb_un (by omega)]; exact u10_0
  have u10_1 : G20 (z + 56) = .inl (cy 0, 30, .inl (fun _ => 0)) := by rw [eG20, kb_un (by omega)]; exact u10_1
  have u13_0 : G20 (z + 57) = .inr (7, [.int 0, .int 0, .ref (z + 58), .ref (z + 59), .int 0, .int 0]) := by rw [eG20, kb_un (by omega)]; exact u13_0
  have u13_1 : G20 (z + 58) = .inl (cy 0, 60, .inl (fun _ => 0)) := by rw [eG20, kb_un (by omega)]; exact u13_1
  have u13_2 : G20 (z + 59) = .inl (cy 1, 60, .inl (fun _ => 0)) := by rw [eG20, kb_un (by omega)]; exact u13_2
  have u16_0 : G20 (z + 60) = .inr (4, [.int 0, .int 0, .int 0, .int 0, .int 0, .ref (z + 61), .ref (z + 62), .ref (z + 63)]) := by rw [eG20, kb_un (by omega)]; exact u16_0
  have u16_1 : G20 (z + 61) = .inl (cy 0, 9, .inl (fun _ => 0)) := by rw [eG20, kb_un (by omega)]; exact u16_1
  have u16_2 : G20 (z + 62) = .inl (cy 0, 10, .inl (fun _ => 0)) := by rw [eG20, kb_un (by omega)]; exact u16_2
  have u16_3 : G20 (z + 63) = .inl (cy 0, 10, .inl (fun _ => 0)) := by rw [eG20, kb_un (by omega)]; exact u16_3
  have o18 : G20 (z + 64) = .inl (cy 0, 7, .inl (fun _ => 0)) := by rw [eG20, kb_un (by omega)]; exact o18
  have oh : G20 h0 = .inr (8, [.ref z, .ref (z + 27), .int 0, .ref (z + 54), .ref (z + 55), .ref (z + 57), .ref (z + 60), .ref (z + 64), .null, .null]) := by rw [eG20, kb_un (by omega)]; exact oh
  have o20 : G20 (z + 65) = .inl (cy 0, 10, .inl (fun _ => 0)) := by rw [eG20]; exact kb_us
  have w2a : kb_R cy G20 z (z + 1) := w2a.keep (fun q h => by rw [eG20, kb_un (by omega)])
  have w5a : kb_R cy G20 (z + 27) (z + 28) := w5a.keep (fun q h => by rw [eG20, kb_un (by omega)])
  have hP : kb_P D b G20 (z + 66) H := hP
  refine kb_putF (v := .ref (z + 65)) (ty := .array .int) hx hb hts hi8 tyX8 tyX8_ok nmX8 hown hK hP hS (by omega) (by omega) oh rfl 8 (by decide) (hts (.fieldLink RX8 50 "NoonLaw" "bannedHours" "[I") (by decide +kernel)) rfl rfl hin rfl (by decide +kernel) rfl rfl (Nat.le_of_ble_eq_true rfl) dX8_init_80 (fun H locs hP hS => ?_)
  have hP : kb_P D b (kb_u G20 h0 (.inr (8, [.ref z, .ref (z + 27), .int 0, .ref (z + 54), .ref (z + 55), .ref (z + 57), .ref (z + 60), .ref (z + 64), .ref (z + 65), .null]))) (z + 66) H := hP
  obtain ⟨G21, eG21⟩ : ∃ q, q = kb_u G20 h0 (.inr (8, [.ref z, .ref (z + 27), .int 0, .ref (z + 54), .ref (z + 55), .ref (z + 57), .ref (z + 60), .ref (z + 64), .ref (z + 65), .null])) := ⟨_, rfl⟩
  rw [← eG21] at hP
  have hF : ∀ q : Nat, q ≠ h0 → q < z → G21 q = G q := fun q h1 h2 => by rw [eG21, kb_un h1]; exact hF q h1 h2
  have o7 : G21 (z + 54) = .inl (cy 5, 4, .inr (.inr (.inr (.inr (fun _ => none))))) := by rw [eG21, kb_un (by omega)]; exact o7
  have u10_0 : G21 (z + 55) = .inr (5, [.ref (z + 56), .int 0, .int 0, .int 0, .int 0, .int 0]) := by rw [eG21, kb_un (by omega)]; exact u10_0
  have u10_1 : G21 (z + 56) = .inl (cy 0, 30, .inl (fun _ => 0)) := by rw [eG21, kb_un (by omega)]; exact u10_1
  have u13_0 : G21 (z + 57) = .inr (7, [.int 0, .int 0, .ref (z + 58), .ref (z + 59), .int 0, .int 0]) := by rw [eG21, kb_un (by omega)]; exact u13_0
  have u13_1 : G21 (z + 58) = .inl (cy 0, 60, .inl (fun _ => 0)) := by rw [eG21, kb_un (by omega)]; exact u13_1
  have u13_2 : G21 (z + 59) = .inl (cy 1, 60, .inl (fun _ => 0)) := by rw [eG21, kb_un (by omega)]; exact u13_2
  have u16_0 : G21 (z + 60) = .inr (4, [.int 0, .int 0, .int 0, .int 0, .int 0, .ref (z + 61), .ref (z + 62), .ref (z + 63)]) := by rw [eG21, kb_un (by omega)]; exact u16_0
  have u16_1 : G21 (z + 61) = .inl (cy 0, 9, .inl (fun _ => 0)) := by rw [eG21, kb_un (by omega)]; exact u16_1
  have u16_2 : G21 (z + 62) = .inl (cy 0, 10, .inl (fun _ => 0)) := by rw [eG21, kb_un (by omega)]; exact u16_2
  have u16_3 : G21 (z + 63) = .inl (cy 0, 10, .inl (fun _ => 0)) := by rw [eG21, kb_un (by omega)]; exact u16_3
  have o18 : G21 (z + 64) = .inl (cy 0, 7, .inl (fun _ => 0)) := by rw [eG21, kb_un (by omega)]; exact o18
  have o20 : G21 (z + 65) = .inl (cy 0, 10, .inl (fun _ => 0)) := by rw [eG21, kb_un (by omega)]; exact o20
  have oh : G21 h0 = .inr (8, [.ref z, .ref (z + 27), .int 0, .ref (z + 54), .ref (z + 55), .ref (z + 57), .ref (z + 60), .ref (z + 64), .ref (z + 65), .null]) := by rw [eG21]; exact kb_us
  have w2a : kb_R cy G21 z (z + 1) := w2a.keep (fun q h => by rw [eG21, kb_un (by omega)])
  have w5a : kb_R cy G21 (z + 27) (z + 28) := w5a.keep (fun q h => by rw [eG21, kb_un (by omega)])
  refine lv_aload_n hx hb dX8_init_83 rfl (lv_at hl 0 rfl) ?_
  refine lv_bipush (v := 10) hx hb dX8_init_84 (by decide) ?_
  refine kb_newa hx hb (hts (.arrayClass .int) (by decide +kernel)) 0 (ty := .int) rfl rfl (fun _ _ h => h) hK hP hS (n := 10) (N' := 10) rfl (by decide) (by decide) (Nat.le_of_ble_eq_true rfl) (Nat.le_of_ble_eq_true rfl) (Nat.le_of_ble_eq_true rfl) dX8_init_86 (fun H hP hS => ?_)
  obtain ⟨G22, eG22⟩ : ∃ q, q = kb_u G21 (z + 66) (.inl (cy 0, 10, .inl (fun _ => 0))) := ⟨_, rfl⟩
  rw [← eG22] at hP
  have hF : ∀ q : Nat, q ≠ h0 → q < z → G22 q = G q := fun q h1 h2 => by rw [eG22, kb_un (by omega)]; exact hF q h1 h2
  have o7 : G22 (z + 54) = .inl (cy 5, 4, .inr (.inr (.inr (.inr (fun _ => none))))) := by rw [eG22, kb_un (by omega)]; exact o7
  have u10_0 : G22 (z + 55) = .inr (5, [.ref (z + 56), .int 0, .int 0, .int 0, .int 0, .int 0]) := by rw [eG22, kb_un (by omega)]; exact u10_0
  have u10_1 : G22 (z + 56) = .inl (cy 0, 30, .inl (fun _ => 0)) := by rw [eG22, kb_un (by omega)]; exact u10_1
  have u13_0 : G22 (z + 57) = .inr (7, [.int 0, .int 0, .ref (z + 58), .ref (z + 59), .int 0, .int 0]) := by rw [eG22, kb_un (by omega)]; exact u13_0
  have u13_1 : G22 (z + 58) = .inl (cy 0, 60, .inl (fun _ => 0)) := by rw [eG22, kb_un (by omega)]; exact u13_1
  have u13_2 : G22 (z + 59) = .inl (cy 1, 60, .inl (fun _ => 0)) := by rw [eG22, kb_un (by omega)]; exact u13_2
  have u16_0 : G22 (z + 60) = .inr (4, [.int 0, .int 0, .int 0, .int 0, .int 0, .ref (z + 61), .ref (z + 62), .ref (z + 63)]) := by rw [eG22, kb_un (by omega)]; exact u16_0
  have u16_1 : G22 (z + 61) = .inl (cy 0, 9, .inl (fun _ => 0)) := by rw [eG22, kb_un (by omega)]; exact u16_1
  have u16_2 : G22 (z + 62) = .inl (cy 0, 10, .inl (fun _ => 0)) := by rw [eG22, kb_un (by omega)]; exact u16_2
  have u16_3 : G22 (z + 63) = .inl (cy 0, 10, .inl (fun _ => 0)) := by rw [eG22, kb_un (by omega)]; exact u16_3
  have o18 : G22 (z + 64) = .inl (cy 0, 7, .inl (fun _ => 0)) := by rw [eG22, kb_un (by omega)]; exact o18
  have o20 : G22 (z + 65) = .inl (cy 0, 10, .inl (fun _ => 0)) := by rw [eG22, kb_un (by omega)]; exact o20
  have oh : G22 h0 = .inr (8, [.ref z, .ref (z + 27), .int 0, .ref (z + 54), .ref (z + 55), .ref (z + 57), .ref (z + 60), .ref (z + 64), .ref (z + 65), .null]) := by rw [eG22, kb_un (by omega)]; exact oh
  have o22 : G22 (z + 66) = .inl (cy 0, 10, .inl (fun _ => 0)) := by rw [eG22]; exact kb_us
  have w2a : kb_R cy G22 z (z + 1) := w2a.keep (fun q h => by rw [eG22, kb_un (by omega)])
  have w5a : kb_R cy G22 (z + 27) (z + 28) := w5a.keep (fun q h => by rw [eG22, kb_un (by omega)])
  have hP : kb_P D b G22 (z + 67) H := hP
  refine kb_putF (v := .ref (z + 66)) (ty := .array .int) hx hb hts hi8 tyX8 tyX8_ok nmX8 hown hK hP hS (by omega) (by omega) oh rfl 9 (by decide) (hts (.fieldLink RX8 53 "NoonLaw" "biddenHours" "[I") (by decide +kernel)) rfl rfl hin rfl (by decide +kernel) rfl rfl (Nat.le_of_ble_eq_true rfl) dX8_init_88 (fun H locs hP hS => ?_)
  have hP : kb_P D b (kb_u G22 h0 (.inr (8, [.ref z, .ref (z + 27), .int 0, .ref (z + 54), .ref (z + 55), .ref (z + 57), .ref (z + 60), .ref (z + 64), .ref (z + 65), .ref (z + 66)]))) (z + 67) H := hP
  obtain ⟨G23, eG23⟩ : ∃ q, q = kb_u G22 h0 (.inr (8, [.ref z, .ref (z + 27), .int 0, .ref (z + 54), .ref (z + 55), .ref (z + 57), .ref (z + 60), .ref (z + 64), .ref (z + 65), .ref (z + 66)])) := ⟨_, rfl⟩
  rw [← eG23] at hP
  have hF : ∀ q : Nat, q ≠ h0 → q < z → G23 q = G q := fun q h1 h2 => by rw [eG23, kb_un h1]; exact hF q h1 h2
  have o7 : G23 (z + 54) = .inl (cy 5, 4, .inr (.inr (.inr (.inr (fun _ => none))))) := by rw [eG23, kb_un (by omega)]; exact o7
  have u10_0 : G23 (z + 55) = .inr (5, [.ref (z + 56), .int 0, .int 0, .int 0, .int 0, .int 0]) := by rw [eG23, kb_un (by omega)]; exact u10_0
  have u10_1 : G23 (z + 56) = .inl (cy 0, 30, .inl (fun _ => 0)) := by rw [eG23, kb_un (by omega)]; exact u10_1
  have u13_0 : G23 (z + 57) = .inr (7, [.int 0, .int 0, .ref (z + 58), .ref (z + 59), .int 0, .int 0]) := by rw [eG23, kb_un (by omega)]; exact u13_0
  have u13_1 : G23 (z + 58) = .inl (cy 0, 60, .inl (fun _ => 0)) := by rw [eG23, kb_un (by omega)]; exact u13_1
  have u13_2 : G23 (z + 59) = .inl (cy 1, 60, .inl (fun _ => 0)) := by rw [eG23, kb_un (by omega)]; exact u13_2
  have u16_0 : G23 (z + 60) = .inr (4, [.int 0, .int 0, .int 0, .int 0, .int 0, .ref (z + 61), .ref (z + 62), .ref (z + 63)]) := by rw [eG23, kb_un (by omega)]; exact u16_0
  have u16_1 : G23 (z + 61) = .inl (cy 0, 9, .inl (fun _ => 0)) := by rw [eG23, kb_un (by omega)]; exact u16_1
  have u16_2 : G23 (z + 62) = .inl (cy 0, 10, .inl (fun _ => 0)) := by rw [eG23, kb_un (by omega)]; exact u16_2
  have u16_3 : G23 (z + 63) = .inl (cy 0, 10, .inl (fun _ => 0)) := by rw [eG23, kb_un (by omega)]; exact u16_3
  have o18 : G23 (z + 64) = .inl (cy 0, 7, .inl (fun _ => 0)) := by rw [eG23, kb_un (by omega)]; exact o18
  have o20 : G23 (z + 65) = .inl (cy 0, 10, .inl (fun _ => 0)) := by rw [eG23, kb_un (by omega)]; exact o20
  have o22 : G23 (z + 66) = .inl (cy 0, 10, .inl (fun _ => 0)) := by rw [eG23, kb_un (by omega)]; exact o22
  have oh : G23 h0 = .inr (8, [.ref z, .ref (z + 27), .int 0, .ref (z + 54), .ref (z + 55), .ref (z + 57), .ref (z + 60), .ref (z + 64), .ref (z + 65), .ref (z + 66)]) := by rw [eG23]; exact kb_us
  have w2a : kb_R cy G23 z (z + 1) := w2a.keep (fun q h => by rw [eG23, kb_un (by omega)])
  have w5a : kb_R cy G23 (z + 27) (z + 28) := w5a.keep (fun q h => by rw [eG23, kb_un (by omega)])
  refine lv_iconst (v := 0) hx hb dX8_init_91 (by decide) ?_
  refine lv_istore_n (lv' := [(1, .int 0), (0, .ref h0)]) hx hb dX8_init_92 rfl hl (by decide) rfl (fun ls hl => ?_)
  refine lv_iload_n hx hb dX8_init_93 rfl (lv_at hl 0 rfl) ?_
  refine lv_iconst (v := 4) hx hb dX8_init_94 (by decide) ?_
  refine lv_icmp_ge (tgt := 117) hx hb dX8_init_95 (by decide) (fun c24 => absurd c24 (by decide)) (fun c24 => ?_)
  refine lv_aload_n hx hb dX8_init_98 rfl (lv_at hl 1 rfl) ?_
  refine kb_get hx hb hts hi8 hown hK hP (by omega) (by omega) oh rfl 3 (by decide) (hts (.fieldLink RX8 21 "NoonLaw" "sheets" "[LNoonLaw$Sheet;") (by decide +kernel)) rfl rfl dX8_init_99 ?_
  refine lv_iload_n hx hb dX8_init_102 rfl (lv_at hl 0 rfl) ?_
  refine kb_new (C := RX3) (T := TX3) (N := 3) hx hb hts hi3 tyX3 tyX3_ok hown (hts (.classLink RX8 19 RX3) (by decide +kernel)) (hts (.instantiable RX3 3) (by decide +kernel)) (hts (.initialized RX3) (by decide +kernel)) hK hP hS (ci := 3) rfl [.int 0, .int 0, .null] (fun j hj => by rcases (show j = 0 ∨ j = 1 ∨ j = 2 by omega) with rfl | rfl | rfl <;> rfl) (Nat.le_of_ble_eq_true rfl) (Nat.le_of_ble_eq_true rfl) dX8_init_103 (fun H hP hS => ?_)
  obtain ⟨G25, eG25⟩ : ∃ q, q = kb_u G23 (z + 67) (.inr (3, [.int 0, .int 0, .null])) := ⟨_, rfl⟩
  rw [← eG25] at hP
  have hF : ∀ q : Nat, q ≠ h0 → q < z → G25 q = G q := fun q h1 h2 => by rw [eG25, kb_un (by omega)]; exact hF q h1 h2
  have o7 : G25 (z + 54) = .inl (cy 5, 4, .inr (.inr (.inr (.inr (fun _ => none))))) := by rw [eG25, kb_un (by omega)]; exact o7
  have u10_0 : G25 (z + 55) = .inr (5, [.ref (z + 56), .int 0, .int 0, .int 0, .int 0, .int 0]) := by rw [eG25, kb_un (by omega)]; exact u10_0
  have u10_1 : G25 (z + 56) = .inl (cy 0, 30, .inl (fun _ => 0)) := by rw [eG25, kb_un (by omega)]; exact u10_1
  have u13_0 : G25 (z + 57) = .inr (7, [.int 0, .int 0, .ref (z + 58), .ref (z + 59), .int 0, .int 0]) := by rw [eG25, kb_un (by omega)]; exact u13_0
  have u13_1 : G25 (z + 58) = .inl (cy 0, 60, .inl (fun _ => 0)) := by rw [eG25, kb_un (by omega)]; exact u13_1
  have u13_2 : G25 (z + 59) = .inl (cy 1, 60, .inl (fun _ => 0)) := by rw [eG25, kb_un (by omega)]; exact u13_2
  have u16_0 : G25 (z + 60) = .inr (4, [.int 0, .int 0, .int 0, .int 0, .int 0, .ref (z + 61), .ref (z + 62), .ref (z + 63)]) := by rw [eG25, kb_un (by omega)]; exact u16_0
  have u16_1 : G25 (z + 61) = .inl (cy 0, 9, .inl (fun _ => 0)) := by rw [eG25, kb_un (by omega)]; exact u16_1
  have u16_2 : G25 (z + 62) = .inl (cy 0, 10, .inl (fun _ => 0)) := by rw [eG25, kb_un (by omega)]; exact u16_2
  have u16_3 : G25 (z + 63) = .inl (cy 0, 10, .inl (fun _ => 0)) := by rw [eG25, kb_un (by omega)]; exact u16_3
  have o18 : G25 (z + 64) = .inl (cy 0, 7, .inl (fun _ => 0)) := by rw [eG25, kb_un (by omega)]; exact o18
  have o20 : G25 (z + 65) = .inl (cy 0, 10, .inl (fun _ => 0)) := by rw [eG25, kb_un (by omega)]; exact o20
  have o22 : G25 (z + 66) = .inl (cy 0, 10, .inl (fun _ => 0)) := by rw [eG25, kb_un (by omega)]; exact o22
  have oh : G25 h0 = .inr (8, [.ref z, .ref (z + 27), .int 0, .ref (z + 54), .ref (z + 55), .ref (z + 57), .ref (z + 60), .ref (z + 64), .ref (z + 65), .ref (z + 66)]) := by rw [eG25, kb_un (by omega)]; exact oh
  have o25 : G25 (z + 67) = .inr (3, [.int 0, .int 0, .null]) := by rw [eG25]; exact kb_us
  have w2a : kb_R cy G25 z (z + 1) := w2a.keep (fun q h => by rw [eG25, kb_un (by omega)])
  have w5a : kb_R cy G25 (z + 27) (z + 28) := w5a.keep (fun q h => by rw [eG25, kb_un (by omega)])
  have hP : kb_P D b G25 (z + 68) H := hP
  refine lv_dup hx hb dX8_init_106 rfl ?_
  refine kb_callN (rest := [.ref (z + 67), .int 0, .ref (z + 54)]) ⟨hx, hb, hml, hown, hts⟩ hK hP hS (c_X3_init l D cy b G25 (z + 68) (z + 67) (by omega) (by omega) o25) ⟨va_cnB 0 hts gX8_init_X3_init_n56 rfl rfl rfl (hK.2.2.2.2.2.2.2.2.2.2.2) (hts (.initialized RX3) (by decide +kernel)) (by decide +kernel) ⟨Nat.le_of_ble_eq_true rfl, Nat.le_of_ble_eq_true rfl⟩, rfl, hts (.instanceMethod yX3_init) (by decide +kernel)⟩ hl.1 (Nat.le_of_ble_eq_true rfl) dX8_init_107 ⟨Nat.le_of_ble_eq_true rfl, Nat.le_of_ble_eq_true rfl⟩ (fun G26 H locs w26 hP hS => ?_)
  obtain ⟨w26a, w26⟩ := w26
  have o7 : G26 (z + 54) = .inl (cy 5, 4, .inr (.inr (.inr (.inr (fun _ => none))))) := (w26 _ (by omega) (by omega)).trans o7
  have u10_0 : G26 (z + 55) = .inr (5, [.ref (z + 56), .int 0, .int 0, .int 0, .int 0, .int 0]) := (w26 _ (by omega) (by omega)).trans u10_0
  have u10_1 : G26 (z + 56) = .inl (cy 0, 30, .inl (fun _ => 0)) := (w26 _ (by omega) (by omega)).trans u10_1
  have u13_0 : G26 (z + 57) = .inr (7, [.int 0, .int 0, .ref (z + 58), .ref (z + 59), .int 0, .int 0]) := (w26 _ (by omega) (by omega)).trans u13_0
  have u13_1 : G26 (z + 58) = .inl (cy 0, 60, .inl (fun _ => 0)) := (w26 _ (by omega) (by omega)).trans u13_1
  have u13_2 : G26 (z + 59) = .inl (cy 1, 60, .inl (fun _ => 0)) := (w26 _ (by omega) (by omega)).trans u13_2
  have u16_0 : G26 (z + 60) = .inr (4, [.int 0, .int 0, .int 0, .int 0, .int 0, .ref (z + 61), .ref (z + 62), .ref (z + 63)]) := (w26 _ (by omega) (by omega)).trans u16_0
  have u16_1 : G26 (z + 61) = .inl (cy 0, 9, .inl (fun _ => 0)) := (w26 _ (by omega) (by omega)).trans u16_1
  have u16_2 : G26 (z + 62) = .inl (cy 0, 10, .inl (fun _ => 0)) := (w26 _ (by omega) (by omega)).trans u16_2
  have u16_3 : G26 (z + 63) = .inl (cy 0, 10, .inl (fun _ => 0)) := (w26 _ (by omega) (by omega)).trans u16_3
  have o18 : G26 (z + 64) = .inl (cy 0, 7, .inl (fun _ => 0)) := (w26 _ (by omega) (by omega)).trans o18
  have o20 : G26 (z + 65) = .inl (cy 0, 10, .inl (fun _ => 0)) := (w26 _ (by omega) (by omega)).trans o20
  have o22 : G26 (z + 66) = .inl (cy 0, 10, .inl (fun _ => 0)) := (w26 _ (by omega) (by omega)).trans o22
  have oh : G26 h0 = .inr (8, [.ref z, .ref (z + 27), .int 0, .ref (z + 54), .ref (z + 55), .ref (z + 57), .ref (z + 60), .ref (z + 64), .ref (z + 65), .ref (z + 66)]) := (w26 _ (by omega) (by omega)).trans oh
  have w2a : kb_R cy G26 z (z + 1) := w2a.keep (fun q h => w26 _ (by omega) (by omega))
  have w5a : kb_R cy G26 (z + 27) (z + 28) := w5a.keep (fun q h => w26 _ (by omega) (by omega))
  have hF : ∀ q : Nat, q ≠ h0 → q < z → G26 q = G q := fun q h1 h2 => (w26 _ (by omega) (by omega)).trans (hF q h1 h2)
  obtain ⟨u26_0, u26_1⟩ := w26a
  have hP : kb_P D b G26 (z + 69) H := hP
  have k0 : (0 : Int32).toInt = 0 := by decide +kernel
  refine kb_aast hx hb hK hP hS (by omega) (by omega) 5 3 o7 rfl (by omega) (by omega) u26_0 rfl (by omega) (by omega) dX8_init_110 (fun j H locs ej hj hP hS => ?_)
  have ej : j = 0 := by omega
  subst ej
  obtain ⟨G27, eG27⟩ : ∃ q, q = kb_u G26 (z + 54) (.inl (cy 5, 4, .inr (.inr (.inr (.inr (va_up (fun _ => none) 0 (some (z + 67)))))))) := ⟨_, rfl⟩
  rw [← eG27] at hP
  have hF : ∀ q : Nat, q ≠ h0 → q < z → G27 q = G q := fun q h1 h2 => by rw [eG27, kb_un (by omega)]; exact hF q h1 h2
  have u10_0 : G27 (z + 55) = .inr (5, [.ref (z + 56), .int 0, .int 0, .int 0, .int 0, .int 0]) := by rw [eG27, kb_un (by omega)]; exact u10_0
  have u10_1 : G27 (z + 56) = .inl (cy 0, 30, .inl (fun _ => 0)) := by rw [eG27, kb_un (by omega)]; exact u10_1
  have u13_0 : G27 (z + 57) = .inr (7, [.int 0, .int 0, .ref (z + 58), .ref (z + 59), .int 0, .int 0]) := by rw [eG27, kb_un (by omega)]; exact u13_0
  have u13_1 : G27 (z + 58) = .inl (cy 0, 60, .inl (fun _ => 0)) := by rw [eG27, kb_un (by omega)]; exact u13_1
  have u13_2 : G27 (z + 59) = .inl (cy 1, 60, .inl (fun _ => 0)) := by rw [eG27, kb_un (by omega)]; exact u13_2
  have u16_0 : G27 (z + 60) = .inr (4, [.int 0, .int 0, .int 0, .int 0, .int 0, .ref (z + 61), .ref (z + 62), .ref (z + 63)]) := by rw [eG27, kb_un (by omega)]; exact u16_0
  have u16_1 : G27 (z + 61) = .inl (cy 0, 9, .inl (fun _ => 0)) := by rw [eG27, kb_un (by omega)]; exact u16_1
  have u16_2 : G27 (z + 62) = .inl (cy 0, 10, .inl (fun _ => 0)) := by rw [eG27, kb_un (by omega)]; exact u16_2
  have u16_3 : G27 (z + 63) = .inl (cy 0, 10, .inl (fun _ => 0)) := by rw [eG27, kb_un (by omega)]; exact u16_3
  have o18 : G27 (z + 64) = .inl (cy 0, 7, .inl (fun _ => 0)) := by rw [eG27, kb_un (by omega)]; exact o18
  have o20 : G27 (z + 65) = .inl (cy 0, 10, .inl (fun _ => 0)) := by rw [eG27, kb_un (by omega)]; exact o20
  have o22 : G27 (z + 66) = .inl (cy 0, 10, .inl (fun _ => 0)) := by rw [eG27, kb_un (by omega)]; exact o22
  have oh : G27 h0 = .inr (8, [.ref z, .ref (z + 27), .int 0, .ref (z + 54), .ref (z + 55), .ref (z + 57), .ref (z + 60), .ref (z + 64), .ref (z + 65), .ref (z + 66)]) := by rw [eG27, kb_un (by omega)]; exact oh
  have u26_0 : G27 (z + 67) = .inr (3, [.int 0, .int 0, .ref (z + 68)]) := by rw [eG27, kb_un (by omega)]; exact u26_0
  have u26_1 : G27 (z + 68) = .inl (cy 0, 24, .inl (fun _ => 0)) := by rw [eG27, kb_un (by omega)]; exact u26_1
  have o7 : G27 (z + 54) = .inl (cy 5, 4, .inr (.inr (.inr (.inr (va_up (fun _ => none) 0 (some (z + 67))))))) := by rw [eG27]; exact kb_us
  have w2a : kb_R cy G27 z (z + 1) := w2a.keep (fun q h => by rw [eG27, kb_un (by omega)])
  have w5a : kb_R cy G27 (z + 27) (z + 28) := w5a.keep (fun q h => by rw [eG27, kb_un (by omega)])
  refine lv_iinc (v := 1) (lv' := [(1, .int 1), (0, .ref h0)]) hx hb dX8_init_111 hl (k := 0) rfl (by decide) (by decide) rfl (fun ls hl => ?_)
  refine lv_goto (tgt := 93) hx hb dX8_init_114 (by decide) ?_
  refine lv_iload_n hx hb dX8_init_93 rfl (lv_at hl 0 rfl) ?_
  refine lv_iconst (v := 4) hx hb dX8_init_94 (by decide) ?_
  refine lv_icmp_ge (tgt := 117) hx hb dX8_init_95 (by decide) (fun c28 => absurd c28 (by decide)) (fun c28 => ?_)
  refine lv_aload_n hx hb dX8_init_98 rfl (lv_at hl 1 rfl) ?_
  refine kb_get hx hb hts hi8 hown hK hP (by omega) (by omega) oh rfl 3 (by decide) (hts (.fieldLink RX8 21 "NoonLaw" "sheets" "[LNoonLaw$Sheet;") (by decide +kernel)) rfl rfl dX8_init_99 ?_
  refine lv_iload_n hx hb dX8_init_102 rfl (lv_at hl 0 rfl) ?_
  refine kb_new (C := RX3) (T := TX3) (N := 3) hx hb hts hi3 tyX3 tyX3_ok hown (hts (.classLink RX8 19 RX3) (by decide +kernel)) (hts (.instantiable RX3 3) (by decide +kernel)) (hts (.initialized RX3) (by decide +kernel)) hK hP hS (ci := 3) rfl [.int 0, .int 0, .null] (fun j hj => by rcases (show j = 0 ∨ j = 1 ∨ j = 2 by omega) with rfl | rfl | rfl <;> rfl) (Nat.le_of_ble_eq_true rfl) (Nat.le_of_ble_eq_true rfl) dX8_init_103 (fun H hP hS => ?_)
  obtain ⟨G29, eG29⟩ : ∃ q, q = kb_u G27 (z + 69) (.inr (3, [.int 0, .int 0, .null])) := ⟨_, rfl⟩
  rw [← eG29] at hP
  have hF : ∀ q : Nat, q ≠ h0 → q < z → G29 q = G q := fun q h1 h2 => by rw [eG29, kb_un (by omega)]; exact hF q h1 h2
  have u10_0 : G29 (z + 55) = .inr (5, [.ref (z + 56), .int 0, .int 0, .int 0, .int 0, .int 0]) := by rw [eG29, kb_un (by omega)]; exact u10_0
  have u10_1 : G29 (z + 56) = .inl (cy 0, 30, .inl (fun _ => 0)) := by rw [eG29, kb_un (by omega)]; exact u10_1
  have u13_0 : G29 (z + 57) = .inr (7, [.int 0, .int 0, .ref (z + 58), .ref (z + 59), .int 0, .int 0]) := by rw [eG29, kb_un (by omega)]; exact u13_0
  have u13_1 : G29 (z + 58) = .inl (cy 0, 60, .inl (fun _ => 0)) := by rw [eG29, kb_un (by omega)]; exact u13_1
  have u13_2 : G29 (z + 59) = .inl (cy 1, 60, .inl (fun _ => 0)) := by rw [eG29, kb_un (by omega)]; exact u13_2
  have u16_0 : G29 (z + 60) = .inr (4, [.int 0, .int 0, .int 0, .int 0, .int 0, .ref (z + 61), .ref (z + 62), .ref (z + 63)]) := by rw [eG29, kb_un (by omega)]; exact u16_0
  have u16_1 : G29 (z + 61) = .inl (cy 0, 9, .inl (fun _ => 0)) := by rw [eG29, kb_un (by omega)]; exact u16_1
  have u16_2 : G29 (z + 62) = .inl (cy 0, 10, .inl (fun _ => 0)) := by rw [eG29, kb_un (by omega)]; exact u16_2
  have u16_3 : G29 (z + 63) = .inl (cy 0, 10, .inl (fun _ => 0)) := by rw [eG29, kb_un (by omega)]; exact u16_3
  have o18 : G29 (z + 64) = .inl (cy 0, 7, .inl (fun _ => 0)) := by rw [eG29, kb_un (by omega)]; exact o18
  have o20 : G29 (z + 65) = .inl (cy 0, 10, .inl (fun _ => 0)) := by rw [eG29, kb_un (by omega)]; exact o20
  have o22 : G29 (z + 66) = .inl (cy 0, 10, .inl (fun _ => 0)) := by rw [eG29, kb_un (by omega)]; exact o22
  have oh : G29 h0 = .inr (8, [.ref z, .ref (z + 27), .int 0, .ref (z + 54), .ref (z + 55), .ref (z + 57), .ref (z + 60), .ref (z + 64), .ref (z + 65), .ref (z + 66)]) := by rw [eG29, kb_un (by omega)]; exact oh
  have u26_0 : G29 (z + 67) = .inr (3, [.int 0, .int 0, .ref (z + 68)]) := by rw [eG29, kb_un (by omega)]; exact u26_0
  have u26_1 : G29 (z + 68) = .inl (cy 0, 24, .inl (fun _ => 0)) := by rw [eG29, kb_un (by omega)]; exact u26_1
  have o7 : G29 (z + 54) = .inl (cy 5, 4, .inr (.inr (.inr (.inr (va_up (fun _ => none) 0 (some (z + 67))))))) := by rw [eG29, kb_un (by omega)]; exact o7
  have o29 : G29 (z + 69) = .inr (3, [.int 0, .int 0, .null]) := by rw [eG29]; exact kb_us
  have w2a : kb_R cy G29 z (z + 1) := w2a.keep (fun q h => by rw [eG29, kb_un (by omega)])
  have w5a : kb_R cy G29 (z + 27) (z + 28) := w5a.keep (fun q h => by rw [eG29, kb_un (by omega)])
  have hP : kb_P D b G29 (z + 70) H := hP
  refine lv_dup hx hb dX8_init_106 rfl ?_
  refine kb_callN (rest := [.ref (z + 69), .int 1, .ref (z + 54)]) ⟨hx, hb, hml, hown, hts⟩ hK hP hS (c_X3_init l D cy b G29 (z + 70) (z + 69) (by omega) (by omega) o29) ⟨va_cnB 0 hts gX8_init_X3_init_n56 rfl rfl rfl (hK.2.2.2.2.2.2.2.2.2.2.2) (hts (.initialized RX3) (by decide +kernel)) (by decide +kernel) ⟨Nat.le_of_ble_eq_true rfl, Nat.le_of_ble_eq_true rfl⟩, rfl, hts (.instanceMethod yX3_init) (by decide +kernel)⟩ hl.1 (Nat.le_of_ble_eq_true rfl) dX8_init_107 ⟨Nat.le_of_ble_eq_true rfl, Nat.le_of_ble_eq_true rfl⟩ (fun G30 H locs w30 hP hS => ?_)
  obtain ⟨w30a, w30⟩ := w30
  have u10_0 : G30 (z + 55) = .inr (5, [.ref (z + 56), .int 0, .int 0, .int 0, .int 0, .int 0]) := (w30 _ (by omega) (by omega)).trans u10_0
  have u10_1 : G30 (z + 56) = .inl (cy 0, 30, .inl (fun _ => 0)) := (w30 _ (by omega) (by omega)).trans u10_1
  have u13_0 : G30 (z + 57) = .inr (7, [.int 0, .int 0, .ref (z + 58), .ref (z + 59), .int 0, .int 0]) := (w30 _ (by omega) (by omega)).trans u13_0
  have u13_1 : G30 (z + 58) = .inl (cy 0, 60, .inl (fun _ => 0)) := (w30 _ (by omega) (by omega)).trans u13_1
  have u13_2 : G30 (z + 59) = .inl (cy 1, 60, .inl (fun _ => 0)) := (w30 _ (by omega) (by omega)).trans u13_2
  have u16_0 : G30 (z + 60) = .inr (4, [.int 0, .int 0, .int 0, .int 0, .int 0, .ref (z + 61), .ref (z + 62), .ref (z + 63)]) := (w30 _ (by omega) (by omega)).trans u16_0
  have u16_1 : G30 (z + 61) = .inl (cy 0, 9, .inl (fun _ => 0)) := (w30 _ (by omega) (by omega)).trans u16_1
  have u16_2 : G30 (z + 62) = .inl (cy 0, 10, .inl (fun _ => 0)) := (w30 _ (by omega) (by omega)).trans u16_2
  have u16_3 : G30 (z + 63) = .inl (cy 0, 10, .inl (fun _ => 0)) := (w30 _ (by omega) (by omega)).trans u16_3
  have o18 : G30 (z + 64) = .inl (cy 0, 7, .inl (fun _ => 0)) := (w30 _ (by omega) (by omega)).trans o18
  have o20 : G30 (z + 65) = .inl (cy 0, 10, .inl (fun _ => 0)) := (w30 _ (by omega) (by omega)).trans o20
  have o22 : G30 (z + 66) = .inl (cy 0, 10, .inl (fun _ => 0)) := (w30 _ (by omega) (by omega)).trans o22
  have oh : G30 h0 = .inr (8, [.ref z, .ref (z + 27), .int 0, .ref (z + 54), .ref (z + 55), .ref (z + 57), .ref (z + 60), .ref (z + 64), .ref (z + 65), .ref (z + 66)]) := (w30 _ (by omega) (by omega)).trans oh
  have u26_0 : G30 (z + 67) = .inr (3, [.int 0, .int 0, .ref (z + 68)]) := (w30 _ (by omega) (by omega)).trans u26_0
  have u26_1 : G30 (z + 68) = .inl (cy 0, 24, .inl (fun _ => 0)) := (w30 _ (by omega) (by omega)).trans u26_1
  have o7 : G30 (z + 54) = .inl (cy 5, 4, .inr (.inr (.inr (.inr (va_up (fun _ => none) 0 (some (z + 67))))))) := (w30 _ (by omega) (by omega)).trans o7
  have w2a : kb_R cy G30 z (z + 1) := w2a.keep (fun q h => w30 _ (by omega) (by omega))
  have w5a : kb_R cy G30 (z + 27) (z + 28) := w5a.keep (fun q h => w30 _ (by omega) (by omega))
  have hF : ∀ q : Nat, q ≠ h0 → q < z → G30 q = G q := fun q h1 h2 => (w30 _ (by omega) (by omega)).trans (hF q h1 h2)
  obtain ⟨u30_0, u30_1⟩ := w30a
  have hP : kb_P D b G30 (z + 71) H := hP
  have k1 : (1 : Int32).toInt = 1 := by decide +kernel
  refine kb_aast hx hb hK hP hS (by omega) (by omega) 5 3 o7 rfl (by omega) (by omega) u30_0 rfl (by omega) (by omega) dX8_init_110 (fun j H locs ej hj hP hS => ?_)
  have ej : j = 1 := by omega
  subst ej
  obtain ⟨G31, eG31⟩ : ∃ q, q = kb_u G30 (z + 54) (.inl (cy 5, 4, .inr (.inr (.inr (.inr (va_up (va_up (fun _ => none) 0 (some (z + 67))) 1 (some (z + 69)))))))) := ⟨_, rfl⟩
  rw [← eG31] at hP
  have hF : ∀ q : Nat, q ≠ h0 → q < z → G31 q = G q := fun q h1 h2 => by rw [eG31, kb_un (by omega)]; exact hF q h1 h2
  have u10_0 : G31 (z + 55) = .inr (5, [.ref (z + 56), .int 0, .int 0, .int 0, .int 0, .int 0]) := by rw [eG31, kb_un (by omega)]; exact u10_0
  have u10_1 : G31 (z + 56) = .inl (cy 0, 30, .inl (fun _ => 0)) := by rw [eG31, kb_un (by omega)]; exact u10_1
  have u13_0 : G31 (z + 57) = .inr (7, [.int 0, .int 0, .ref (z + 58), .ref (z + 59), .int 0, .int 0]) := by rw [eG31, kb_un (by omega)]; exact u13_0
  have u13_1 : G31 (z + 58) = .inl (cy 0, 60, .inl (fun _ => 0)) := by rw [eG31, kb_un (by omega)]; exact u13_1
  have u13_2 : G31 (z + 59) = .inl (cy 1, 60, .inl (fun _ => 0)) := by rw [eG31, kb_un (by omega)]; exact u13_2
  have u16_0 : G31 (z + 60) = .inr (4, [.int 0, .int 0, .int 0, .int 0, .int 0, .ref (z + 61), .ref (z + 62), .ref (z + 63)]) := by rw [eG31, kb_un (by omega)]; exact u16_0
  have u16_1 : G31 (z + 61) = .inl (cy 0, 9, .inl (fun _ => 0)) := by rw [eG31, kb_un (by omega)]; exact u16_1
  have u16_2 : G31 (z + 62) = .inl (cy 0, 10, .inl (fun _ => 0)) := by rw [eG31, kb_un (by omega)]; exact u16_2
  have u16_3 : G31 (z + 63) = .inl (cy 0, 10, .inl (fun _ => 0)) := by rw [eG31, kb_un (by omega)]; exact u16_3
  have o18 : G31 (z + 64) = .inl (cy 0, 7, .inl (fun _ => 0)) := by rw [eG31, kb_un (by omega)]; exact o18
  have o20 : G31 (z + 65) = .inl (cy 0, 10, .inl (fun _ => 0)) := by rw [eG31, kb_un (by omega)]; exact o20
  have o22 : G31 (z + 66) = .inl (cy 0, 10, .inl (fun _ => 0)) := by rw [eG31, kb_un (by omega)]; exact o22
  have oh : G31 h0 = .inr (8, [.ref z, .ref (z + 27), .int 0, .ref (z + 54), .ref (z + 55), .ref (z + 57), .ref (z + 60), .ref (z + 64), .ref (z + 65), .ref (z + 66)]) := by rw [eG31, kb_un (by omega)]; exact oh
  have u26_0 : G31 (z + 67) = .inr (3, [.int 0, .int 0, .ref (z + 68)]) := by rw [eG31, kb_un (by omega)]; exact u26_0
  have u26_1 : G31 (z + 68) = .inl (cy 0, 24, .inl (fun _ => 0)) := by rw [eG31, kb_un (by omega)]; exact u26_1
  have u30_0 : G31 (z + 69) = .inr (3, [.int 0, .int 0, .ref (z + 70)]) := by rw [eG31, kb_un (by omega)]; exact u30_0
  have u30_1 : G31 (z + 70) = .inl (cy 0, 24, .inl (fun _ => 0)) := by rw [eG31, kb_un (by omega)]; exact u30_1
  have o7 : G31 (z + 54) = .inl (cy 5, 4, .inr (.inr (.inr (.inr (va_up (va_up (fun _ => none) 0 (some (z + 67))) 1 (some (z + 69))))))) := by rw [eG31]; exact kb_us
  have w2a : kb_R cy G31 z (z + 1) := w2a.keep (fun q h => by rw [eG31, kb_un (by omega)])
  have w5a : kb_R cy G31 (z + 27) (z + 28) := w5a.keep (fun q h => by rw [eG31, kb_un (by omega)])
  refine lv_iinc (v := 2) (lv' := [(1, .int 2), (0, .ref h0)]) hx hb dX8_init_111 hl (k := 0) rfl (by decide) (by decide) rfl (fun ls hl => ?_)
  refine lv_goto (tgt := 93) hx hb dX8_init_114 (by decide) ?_
  refine lv_iload_n hx hb dX8_init_93 rfl (lv_at hl 0 rfl) ?_
  refine lv_iconst (v := 4) hx hb dX8_init_94 (by decide) ?_
  refine lv_icmp_ge (tgt := 117) hx hb dX8_init_95 (by decide) (fun c32 => absurd c32 (by decide)) (fun c32 => ?_)
  refine lv_aload_n hx hb dX8_init_98 rfl (lv_at hl 1 rfl) ?_
  refine kb_get hx hb hts hi8 hown hK hP (by omega) (by omega) oh rfl 3 (by decide) (hts (.fieldLink RX8 21 "NoonLaw" "sheets" "[LNoonLaw$Sheet;") (by decide +kernel)) rfl rfl dX8_init_99 ?_
  refine lv_iload_n hx hb dX8_init_102 rfl (lv_at hl 0 rfl) ?_
  refine kb_new (C := RX3) (T := TX3) (N := 3) hx hb hts hi3 tyX3 tyX3_ok hown (hts (.classLink RX8 19 RX3) (by decide +kernel)) (hts (.instantiable RX3 3) (by decide +kernel)) (hts (.initialized RX3) (by decide +kernel)) hK hP hS (ci := 3) rfl [.int 0, .int 0, .null] (fun j hj => by rcases (show j = 0 ∨ j = 1 ∨ j = 2 by omega) with rfl | rfl | rfl <;> rfl) (Nat.le_of_ble_eq_true rfl) (Nat.le_of_ble_eq_true rfl) dX8_init_103 (fun H hP hS => ?_)
  obtain ⟨G33, eG33⟩ : ∃ q, q = kb_u G31 (z + 71) (.inr (3, [.int 0, .int 0, .null])) := ⟨_, rfl⟩
  rw [← eG33] at hP
  have hF : ∀ q : Nat, q ≠ h0 → q < z → G33 q = G q := fun q h1 h2 => by rw [eG33, kb_un (by omega)]; exact hF q h1 h2
  have u10_0 : G33 (z + 55) = .inr (5, [.ref (z + 56), .int 0, .int 0, .int 0, .int 0, .int 0]) := by rw [eG33, kb_un (by omega)]; exact u10_0
  have u10_1 : G33 (z + 56) = .inl (cy 0, 30, .inl (fun _ => 0)) := by rw [eG33, kb_un (by omega)]; exact u10_1
  have u13_0 : G33 (z + 57) = .inr (7, [.int 0, .int 0, .ref (z + 58), .ref (z + 59), .int 0, .int 0]) := by rw [eG33, kb_un (by omega)]; exact u13_0
  have u13_1 : G33 (z + 58) = .inl (cy 0, 60, .inl (fun _ => 0)) := by rw [eG33, kb_un (by omega)]; exact u13_1
  have u13_2 : G33 (z + 59) = .inl (cy 1, 60, .inl (fun _ => 0)) := by rw [eG33, kb_un (by omega)]; exact u13_2
  have u16_0 : G33 (z + 60) = .inr (4, [.int 0, .int 0, .int 0, .int 0, .int 0, .ref (z + 61), .ref (z + 62), .ref (z + 63)]) := by rw [eG33, kb_un (by omega)]; exact u16_0
  have u16_1 : G33 (z + 61) = .inl (cy 0, 9, .inl (fun _ => 0)) := by rw [eG33, kb_un (by omega)]; exact u16_1
  have u16_2 : G33 (z + 62) = .inl (cy 0, 10, .inl (fun _ => 0)) := by rw [eG33, kb_un (by omega)]; exact u16_2
  have u16_3 : G33 (z + 63) = .inl (cy 0, 10, .inl (fun _ => 0)) := by rw [eG33, kb_un (by omega)]; exact u16_3
  have o18 : G33 (z + 64) = .inl (cy 0, 7, .inl (fun _ => 0)) := by rw [eG33, kb_un (by omega)]; exact o18
  have o20 : G33 (z + 65) = .inl (cy 0, 10, .inl (fun _ => 0)) := by rw [eG33, kb_un (by omega)]; exact o20
  have o22 : G33 (z + 66) = .inl (cy 0, 10, .inl (fun _ => 0)) := by rw [eG33, kb_un (by omega)]; exact o22
  have oh : G33 h0 = .inr (8, [.ref z, .ref (z + 27), .int 0, .ref (z + 54), .ref (z + 55), .ref (z + 57), .ref (z + 60), .ref (z + 64), .ref (z + 65), .ref (z + 66)]) := by rw [eG33, kb_un (by omega)]; exact oh
  have u26_0 : G33 (z + 67) = .inr (3, [.int 0, .int 0, .ref (z + 68)]) := by rw [eG33, kb_un (by omega)]; exact u26_0
  have u26_1 : G33 (z + 68) = .inl (cy 0, 24, .inl (fun _ => 0)) := by rw [eG33, kb_un (by omega)]; exact u26_1
  have u30_0 : G33 (z + 69) = .inr (3, [.int 0, .int 0, .ref (z + 70)]) := by rw [eG33, kb_un (by omega)]; exact u30_0
  have u30_1 : G33 (z + 70) = .inl (cy 0, 24, .inl (fun _ => 0)) := by rw [eG33, kb_un (by omega)]; exact u30_1
  have o7 : G33 (z + 54) = .inl (cy 5, 4, .inr (.inr (.inr (.inr (va_up (va_up (fun _ => none) 0 (some (z + 67))) 1 (some (z + 69))))))) := by rw [eG33, kb_un (by omega)]; exact o7
  have o33 : G33 (z + 71) = .inr (3, [.int 0, .int 0, .null]) := by rw [eG33]; exact kb_us
  have w2a : kb_R cy G33 z (z + 1) := w2a.keep (fun q h => by rw [eG33, kb_un (by omega)])
  have w5a : kb_R cy G33 (z + 27) (z + 28) := w5a.keep (fun q h => by rw [eG33, kb_un (by omega)])
  have hP : kb_P D b G33 (z + 72) H := hP
  refine lv_dup hx hb dX8_init_106 rfl ?_
  refine kb_callN (rest := [.ref (z + 71), .int 2, .ref (z + 54)]) ⟨hx, hb, hml, hown, hts⟩ hK hP hS (c_X3_init l D cy b G33 (z + 72) (z + 71) (by omega) (by omega) o33) ⟨va_cnB 0 hts gX8_init_X3_init_n56 rfl rfl rfl (hK.2.2.2.2.2.2.2.2.2.2.2) (hts (.initialized RX3) (by decide +kernel)) (by decide +kernel) ⟨Nat.le_of_ble_eq_true rfl, Nat.le_of_ble_eq_true rfl⟩, rfl, hts (.instanceMethod yX3_init) (by decide +kernel)⟩ hl.1 (Nat.le_of_ble_eq_true rfl) dX8_init_107 ⟨Nat.le_of_ble_eq_true rfl, Nat.le_of_ble_eq_true rfl⟩ (fun G34 H locs w34 hP hS => ?_)
  obtain ⟨w34a, w34⟩ := w34
  have u10_0 : G34 (z + 55) = .inr (5, [.ref (z + 56), .int 0, .int 0, .int 0, .int 0, .int 0]) := (w34 _ (by omega) (by omega)).trans u10_0
  have u10_1 : G34 (z + 56) = .inl (cy 0, 30, .inl (fun _ => 0)) := (w34 _ (by omega) (by omega)).trans u10_1
  have u13_0 : G34 (z + 57) = .inr (7, [.int 0, .int 0, .ref (z + 58), .ref (z + 59), .int 0, .int 0]) := (w34 _ (by omega) (by omega)).trans u13_0
  have u13_1 : G34 (z + 58) = .inl (cy 0, 60, .inl (fun _ => 0)) := (w34 _ (by omega) (by omega)).trans u13_1
  have u13_2 : G34 (z + 59) = .inl (cy 1, 60, .inl (fun _ => 0)) := (w34 _ (by omega) (by omega)).trans u13_2
  have u16_0 : G34 (z + 60) = .inr (4, [.int 0, .int 0, .int 0, .int 0, .int 0, .ref (z + 61), .ref (z + 62), .ref (z + 63)]) := (w34 _ (by omega) (by omega)).trans u16_0
  have u16_1 : G34 (z + 61) = .inl (cy 0, 9, .inl (fun _ => 0)) := (w34 _ (by omega) (by omega)).trans u16_1
  have u16_2 : G34 (z + 62) = .inl (cy 0, 10, .inl (fun _ => 0)) := (w34 _ (by omega) (by omega)).trans u16_2
  have u16_3 : G34 (z + 63) = .inl (cy 0, 10, .inl (fun _ => 0)) := (w34 _ (by omega) (by omega)).trans u16_3
  have o18 : G34 (z + 64) = .inl (cy 0, 7, .inl (fun _ => 0)) := (w34 _ (by omega) (by omega)).trans o18
  have o20 : G34 (z + 65) = .inl (cy 0, 10, .inl (fun _ => 0)) := (w34 _ (by omega) (by omega)).trans o20
  have o22 : G34 (z + 66) = .inl (cy 0, 10, .inl (fun _ => 0)) := (w34 _ (by omega) (by omega)).trans o22
  have oh : G34 h0 = .inr (8, [.ref z, .ref (z + 27), .int 0, .ref (z + 54), .ref (z + 55), .ref (z + 57), .ref (z + 60), .ref (z + 64), .ref (z + 65), .ref (z + 66)]) := (w34 _ (by omega) (by omega)).trans oh
  have u26_0 : G34 (z + 67) = .inr (3, [.int 0, .int 0, .ref (z + 68)]) := (w34 _ (by omega) (by omega)).trans u26_0
  have u26_1 : G34 (z + 68) = .inl (cy 0, 24, .inl (fun _ => 0)) := (w34 _ (by omega) (by omega)).trans u26_1
  have u30_0 : G34 (z + 69) = .inr (3, [.int 0, .int 0, .ref (z + 70)]) := (w34 _ (by omega) (by omega)).trans u30_0
  have u30_1 : G34 (z + 70) = .inl (cy 0, 24, .inl (fun _ => 0)) := (w34 _ (by omega) (by omega)).trans u30_1
  have o7 : G34 (z + 54) = .inl (cy 5, 4, .inr (.inr (.inr (.inr (va_up (va_up (fun _ => none) 0 (some (z + 67))) 1 (some (z + 69))))))) := (w34 _ (by omega) (by omega)).trans o7
  have w2a : kb_R cy G34 z (z + 1) := w2a.keep (fun q h => w34 _ (by omega) (by omega))
  have w5a : kb_R cy G34 (z + 27) (z + 28) := w5a.keep (fun q h => w34 _ (by omega) (by omega))
  have hF : ∀ q : Nat, q ≠ h0 → q < z → G34 q = G q := fun q h1 h2 => (w34 _ (by omega) (by omega)).trans (hF q h1 h2)
  obtain ⟨u34_0, u34_1⟩ := w34a
  have hP : kb_P D b G34 (z + 73) H := hP
  have k2 : (2 : Int32).toInt = 2 := by decide +kernel
  refine kb_aast hx hb hK hP hS (by omega) (by omega) 5 3 o7 rfl (by omega) (by omega) u34_0 rfl (by omega) (by omega) dX8_init_110 (fun j H locs ej hj hP hS => ?_)
  have ej : j = 2 := by omega
  subst ej
  obtain ⟨G35, eG35⟩ : ∃ q, q = kb_u G34 (z + 54) (.inl (cy 5, 4, .inr (.inr (.inr (.inr (va_up (va_up (va_up (fun _ => none) 0 (some (z + 67))) 1 (some (z + 69))) 2 (some (z + 71)))))))) := ⟨_, rfl⟩
  rw [← eG35] at hP
  have hF : ∀ q : Nat, q ≠ h0 → q < z → G35 q = G q := fun q h1 h2 => by rw [eG35, kb_un (by omega)]; exact hF q h1 h2
  have u10_0 : G35 (z + 55) = .inr (5, [.ref (z + 56), .int 0, .int 0, .int 0, .int 0, .int 0]) := by rw [eG35, kb_un (by omega)]; exact u10_0
  have u10_1 : G35 (z + 56) = .inl (cy 0, 30, .inl (fun _ => 0)) := by rw [eG35, kb_un (by omega)]; exact u10_1
  have u13_0 : G35 (z + 57) = .inr (7, [.int 0, .int 0, .ref (z + 58), .ref (z + 59), .int 0, .int 0]) := by rw [eG35, kb_un (by omega)]; exact u13_0
  have u13_1 : G35 (z + 58) = .inl (cy 0, 60, .inl (fun _ => 0)) := by rw [eG35, kb_un (by omega)]; exact u13_1
  have u13_2 : G35 (z + 59) = .inl (cy 1, 60, .inl (fun _ => 0)) := by rw [eG35, kb_un (by omega)]; exact u13_2
  have u16_0 : G35 (z + 60) = .inr (4, [.int 0, .int 0, .int 0, .int 0, .int 0, .ref (z + 61), .ref (z + 62), .ref (z + 63)]) := by rw [eG35, kb_un (by omega)]; exact u16_0
  have u16_1 : G35 (z + 61) = .inl (cy 0, 9, .inl (fun _ => 0)) := by rw [eG35, kb_un (by omega)]; exact u16_1
  have u16_2 : G35 (z + 62) = .inl (cy 0, 10, .inl (fun _ => 0)) := by rw [eG35, kb_un (by omega)]; exact u16_2
  have u16_3 : G35 (z + 63) = .inl (cy 0, 10, .inl (fun _ => 0)) := by rw [eG35, kb_un (by omega)]; exact u16_3
  have o18 : G35 (z + 64) = .inl (cy 0, 7, .inl (fun _ => 0)) := by rw [eG35, kb_un (by omega)]; exact o18
  have o20 : G35 (z + 65) = .inl (cy 0, 10, .inl (fun _ => 0)) := by rw [eG35, kb_un (by omega)]; exact o20
  have o22 : G35 (z + 66) = .inl (cy 0, 10, .inl (fun _ => 0)) := by rw [eG35, kb_un (by omega)]; exact o22
  have oh : G35 h0 = .inr (8, [.ref z, .ref (z + 27), .int 0, .ref (z + 54), .ref (z + 55), .ref (z + 57), .ref (z + 60), .ref (z + 64), .ref (z + 65), .ref (z + 66)]) := by rw [eG35, kb_un (by omega)]; exact oh
  have u26_0 : G35 (z + 67) = .inr (3, [.int 0, .int 0, .ref (z + 68)]) := by rw [eG35, kb_un (by omega)]; exact u26_0
  have u26_1 : G35 (z + 68) = .inl (cy 0, 24, .inl (fun _ => 0)) := by rw [eG35, kb_un (by omega)]; exact u26_1
  have u30_0 : G35 (z + 69) = .inr (3, [.int 0, .int 0, .ref (z + 70)]) := by rw [eG35, kb_un (by omega)]; exact u30_0
  have u30_1 : G35 (z + 70) = .inl (cy 0, 24, .inl (fun _ => 0)) := by rw [eG35, kb_un (by omega)]; exact u30_1
  have u34_0 : G35 (z + 71) = .inr (3, [.int 0, .int 0, .ref (z + 72)]) := by rw [eG35, kb_un (by omega)]; exact u34_0
  have u34_1 : G35 (z + 72) = .inl (cy 0, 24, .inl (fun _ => 0)) := by rw [eG35, kb_un (by omega)]; exact u34_1
  have o7 : G35 (z + 54) = .inl (cy 5, 4, .inr (.inr (.inr (.inr (va_up (va_up (va_up (fun _ => none) 0 (some (z + 67))) 1 (some (z + 69))) 2 (some (z + 71))))))) := by rw [eG35]; exact kb_us
  have w2a : kb_R cy G35 z (z + 1) := w2a.keep (fun q h => by rw [eG35, kb_un (by omega)])
  have w5a : kb_R cy G35 (z + 27) (z + 28) := w5a.keep (fun q h => by rw [eG35, kb_un (by omega)])
  refine lv_iinc (v := 3) (lv' := [(1, .int 3), (0, .ref h0)]) hx hb dX8_init_111 hl (k := 0) rfl (by decide) (by decide) rfl (fun ls hl => ?_)
  refine lv_goto (tgt := 93) hx hb dX8_init_114 (by decide) ?_
  refine lv_iload_n hx hb dX8_init_93 rfl (lv_at hl 0 rfl) ?_
  refine lv_iconst (v := 4) hx hb dX8_init_94 (by decide) ?_
  refine lv_icmp_ge (tgt := 117) hx hb dX8_init_95 (by decide) (fun c36 => absurd c36 (by decide)) (fun c36 => ?_)
  refine lv_aload_n hx hb dX8_init_98 rfl (lv_at hl 1 rfl) ?_
  refine kb_get hx hb hts hi8 hown hK hP (by omega) (by omega) oh rfl 3 (by decide) (hts (.fieldLink RX8 21 "NoonLaw" "sheets" "[LNoonLaw$Sheet;") (by decide +kernel)) rfl rfl dX8_init_99 ?_
  refine lv_iload_n hx hb dX8_init_102 rfl (lv_at hl 0 rfl) ?_
  refine kb_new (C := RX3) (T := TX3) (N := 3) hx hb hts hi3 tyX3 tyX3_ok hown (hts (.classLink RX8 19 RX3) (by decide +kernel)) (hts (.instantiable RX3 3) (by decide +kernel)) (hts (.initialized RX3) (by decide +kernel)) hK hP hS (ci := 3) rfl [.int 0, .int 0, .null] (fun j hj => by rcases (show j = 0 ∨ j = 1 ∨ j = 2 by omega) with rfl | rfl | rfl <;> rfl) (Nat.le_of_ble_eq_true rfl) (Nat.le_of_ble_eq_true rfl) dX8_init_103 (fun H hP hS => ?_)
  obtain ⟨G37, eG37⟩ : ∃ q, q = kb_u G35 (z + 73) (.inr (3, [.int 0, .int 0, .null])) := ⟨_, rfl⟩
  rw [← eG37] at hP
  have hF : ∀ q : Nat, q ≠ h0 → q < z → G37 q = G q := fun q h1 h2 => by rw [eG37, kb_un (by omega)]; exact hF q h1 h2
  have u10_0 : G37 (z + 55) = .inr (5, [.ref (z + 56), .int 0, .int 0, .int 0, .int 0, .int 0]) := by rw [eG37, kb_un (by omega)]; exact u10_0
  have u10_1 : G37 (z + 56) = .inl (cy 0, 30, .inl (fun _ => 0)) := by rw [eG37, kb_un (by omega)]; exact u10_1
  have u13_0 : G37 (z + 57) = .inr (7, [.int 0, .int 0, .ref (z + 58), .ref (z + 59), .int 0, .int 0]) := by rw [eG37, kb_un (by omega)]; exact u13_0
  have u13_1 : G37 (z + 58) = .inl (cy 0, 60, .inl (fun _ => 0)) := by rw [eG37, kb_un (by omega)]; exact u13_1
  have u13_2 : G37 (z + 59) = .inl (cy 1, 60, .inl (fun _ => 0)) := by rw [eG37, kb_un (by omega)]; exact u13_2
  have u16_0 : G37 (z + 60) = .inr (4, [.int 0, .int 0, .int 0, .int 0, .int 0, .ref (z + 61), .ref (z + 62), .ref (z + 63)]) := by rw [eG37, kb_un (by omega)]; exact u16_0
  have u16_1 : G37 (z + 61) = .inl (cy 0, 9, .inl (fun _ => 0)) := by rw [eG37, kb_un (by omega)]; exact u16_1
  have u16_2 : G37 (z + 62) = .inl (cy 0, 10, .inl (fun _ => 0)) := by rw [eG37, kb_un (by omega)]; exact u16_2
  have u16_3 : G37 (z + 63) = .inl (cy 0, 10, .inl (fun _ => 0)) := by rw [eG37, kb_un (by omega)]; exact u16_3
  have o18 : G37 (z + 64) = .inl (cy 0, 7, .inl (fun _ => 0)) := by rw [eG37, kb_un (by omega)]; exact o18
  have o20 : G37 (z + 65) = .inl (cy 0, 10, .inl (fun _ => 0)) := by rw [eG37, kb_un (by omega)]; exact o20
  have o22 : G37 (z + 66) = .inl (cy 0, 10, .inl (fun _ => 0)) := by rw [eG37, kb_un (by omega)]; exact o22
  have oh : G37 h0 = .inr (8, [.ref z, .ref (z + 27), .int 0, .ref (z + 54), .ref (z + 55), .ref (z + 57), .ref (z + 60), .ref (z + 64), .ref (z + 65), .ref (z + 66)]) := by rw [eG37, kb_un (by omega)]; exact oh
  have u26_0 : G37 (z + 67) = .inr (3, [.int 0, .int 0, .ref (z + 68)]) := by rw [eG37, kb_un (by omega)]; exact u26_0
  have u26_1 : G37 (z + 68) = .inl (cy 0, 24, .inl (fun _ => 0)) := by rw [eG37, kb_un (by omega)]; exact u26_1
  have u30_0 : G37 (z + 69) = .inr (3, [.int 0, .int 0, .ref (z + 70)]) := by rw [eG37, kb_un (by omega)]; exact u30_0
  have u30_1 : G37 (z + 70) = .inl (cy 0, 24, .inl (fun _ => 0)) := by rw [eG37, kb_un (by omega)]; exact u30_1
  have u34_0 : G37 (z + 71) = .inr (3, [.int 0, .int 0, .ref (z + 72)]) := by rw [eG37, kb_un (by omega)]; exact u34_0
  have u34_1 : G37 (z + 72) = .inl (cy 0, 24, .inl (fun _ => 0)) := by rw [eG37, kb_un (by omega)]; exact u34_1
  have o7 : G37 (z + 54) = .inl (cy 5, 4, .inr (.inr (.inr (.inr (va_up (va_up (va_up (fun _ => none) 0 (some (z + 67))) 1 (some (z + 69))) 2 (some (z + 71))))))) := by rw [eG37, kb_un (by omega)]; exact o7
  have o37 : G37 (z + 73) = .inr (3, [.int 0, .int 0, .null]) := by rw [eG37]; exact kb_us
  have w2a : kb_R cy G37 z (z + 1) := w2a.keep (fun q h => by rw [eG37, kb_un (by omega)])
  have w5a : kb_R cy G37 (z + 27) (z + 28) := w5a.keep (fun q h => by rw [eG37, kb_un (by omega)])
  have hP : kb_P D b G37 (z + 74) H := hP
  refine lv_dup hx hb dX8_init_106 rfl ?_
  refine kb_callN (rest := [.ref (z + 73), .int 3, .ref (z + 54)]) ⟨hx, hb, hml, hown, hts⟩ hK hP hS (c_X3_init l D cy b G37 (z + 74) (z + 73) (by omega) (by omega) o37) ⟨va_cnB 0 hts gX8_init_X3_init_n56 rfl rfl rfl (hK.2.2.2.2.2.2.2.2.2.2.2) (hts (.initialized RX3) (by decide +kernel)) (by decide +kernel) ⟨Nat.le_of_ble_eq_true rfl, Nat.le_of_ble_eq_true rfl⟩, rfl, hts (.instanceMethod yX3_init) (by decide +kernel)⟩ hl.1 (Nat.le_of_ble_eq_true rfl) dX8_init_107 ⟨Nat.le_of_ble_eq_true rfl, Nat.le_of_ble_eq_true rfl⟩ (fun G38 H locs w38 hP hS => ?_)
  obtain ⟨w38a, w38⟩ := w38
  have u10_0 : G38 (z + 55) = .inr (5, [.ref (z + 56), .int 0, .int 0, .int 0, .int 0, .int 0]) := (w38 _ (by omega) (by omega)).trans u10_0
  have u10_1 : G38 (z + 56) = .inl (cy 0, 30, .inl (fun _ => 0)) := (w38 _ (by omega) (by omega)).trans u10_1
  have u13_0 : G38 (z + 57) = .inr (7, [.int 0, .int 0, .ref (z + 58), .ref (z + 59), .int 0, .int 0]) := (w38 _ (by omega) (by omega)).trans u13_0
  have u13_1 : G38 (z + 58) = .inl (cy 0, 60, .inl (fun _ => 0)) := (w38 _ (by omega) (by omega)).trans u13_1
  have u13_2 : G38 (z + 59) = .inl (cy 1, 60, .inl (fun _ => 0)) := (w38 _ (by omega) (by omega)).trans u13_2
  have u16_0 : G38 (z + 60) = .inr (4, [.int 0, .int 0, .int 0, .int 0, .int 0, .ref (z + 61), .ref (z + 62), .ref (z + 63)]) := (w38 _ (by omega) (by omega)).trans u16_0
  have u16_1 : G38 (z + 61) = .inl (cy 0, 9, .inl (fun _ => 0)) := (w38 _ (by omega) (by omega)).trans u16_1
  have u16_2 : G38 (z + 62) = .inl (cy 0, 10, .inl (fun _ => 0)) := (w38 _ (by omega) (by omega)).trans u16_2
  have u16_3 : G38 (z + 63) = .inl (cy 0, 10, .inl (fun _ => 0)) := (w38 _ (by omega) (by omega)).trans u16_3
  have o18 : G38 (z + 64) = .inl (cy 0, 7, .inl (fun _ => 0)) := (w38 _ (by omega) (by omega)).trans o18
  have o20 : G38 (z + 65) = .inl (cy 0, 10, .inl (fun _ => 0)) := (w38 _ (by omega) (by omega)).trans o20
  have o22 : G38 (z + 66) = .inl (cy 0, 10, .inl (fun _ => 0)) := (w38 _ (by omega) (by omega)).trans o22
  have oh : G38 h0 = .inr (8, [.ref z, .ref (z + 27), .int 0, .ref (z + 54), .ref (z + 55), .ref (z + 57), .ref (z + 60), .ref (z + 64), .ref (z + 65), .ref (z + 66)]) := (w38 _ (by omega) (by omega)).trans oh
  have u26_0 : G38 (z + 67) = .inr (3, [.int 0, .int 0, .ref (z + 68)]) := (w38 _ (by omega) (by omega)).trans u26_0
  have u26_1 : G38 (z + 68) = .inl (cy 0, 24, .inl (fun _ => 0)) := (w38 _ (by omega) (by omega)).trans u26_1
  have u30_0 : G38 (z + 69) = .inr (3, [.int 0, .int 0, .ref (z + 70)]) := (w38 _ (by omega) (by omega)).trans u30_0
  have u30_1 : G38 (z + 70) = .inl (cy 0, 24, .inl (fun _ => 0)) := (w38 _ (by omega) (by omega)).trans u30_1
  have u34_0 : G38 (z + 71) = .inr (3, [.int 0, .int 0, .ref (z + 72)]) := (w38 _ (by omega) (by omega)).trans u34_0
  have u34_1 : G38 (z + 72) = .inl (cy 0, 24, .inl (fun _ => 0)) := (w38 _ (by omega) (by omega)).trans u34_1
  have o7 : G38 (z + 54) = .inl (cy 5, 4, .inr (.inr (.inr (.inr (va_up (va_up (va_up (fun _ => none) 0 (some (z + 67))) 1 (some (z + 69))) 2 (some (z + 71))))))) := (w38 _ (by omega) (by omega)).trans o7
  have w2a : kb_R cy G38 z (z + 1) := w2a.keep (fun q h => w38 _ (by omega) (by omega))
  have w5a : kb_R cy G38 (z + 27) (z + 28) := w5a.keep (fun q h => w38 _ (by omega) (by omega))
  have hF : ∀ q : Nat, q ≠ h0 → q < z → G38 q = G q := fun q h1 h2 => (w38 _ (by omega) (by omega)).trans (hF q h1 h2)
  obtain ⟨u38_0, u38_1⟩ := w38a
  have hP : kb_P D b G38 (z + 75) H := hP
  have k3 : (3 : Int32).toInt = 3 := by decide +kernel
  refine kb_aast hx hb hK hP hS (by omega) (by omega) 5 3 o7 rfl (by omega) (by omega) u38_0 rfl (by omega) (by omega) dX8_init_110 (fun j H locs ej hj hP hS => ?_)
  have ej : j = 3 := by omega
  subst ej
  obtain ⟨G39, eG39⟩ : ∃ q, q = kb_u G38 (z + 54) (.inl (cy 5, 4, .inr (.inr (.inr (.inr (va_up (va_up (va_up (va_up (fun _ => none) 0 (some (z + 67))) 1 (some (z + 69))) 2 (some (z + 71))) 3 (some (z + 73)))))))) := ⟨_, rfl⟩
  rw [← eG39] at hP
  have hF : ∀ q : Nat, q ≠ h0 → q < z → G39 q = G q := fun q h1 h2 => by rw [eG39, kb_un (by omega)]; exact hF q h1 h2
  have u10_0 : G39 (z + 55) = .inr (5, [.ref (z + 56), .int 0, .int 0, .int 0, .int 0, .int 0]) := by rw [eG39, kb_un (by omega)]; exact u10_0
  have u10_1 : G39 (z + 56) = .inl (cy 0, 30, .inl (fun _ => 0)) := by rw [eG39, kb_un (by omega)]; exact u10_1
  have u13_0 : G39 (z + 57) = .inr (7, [.int 0, .int 0, .ref (z + 58), .ref (z + 59), .int 0, .int 0]) := by rw [eG39, kb_un (by omega)]; exact u13_0
  have u13_1 : G39 (z + 58) = .inl (cy 0, 60, .inl (fun _ => 0)) := by rw [eG39, kb_un (by omega)]; exact u13_1
  have u13_2 : G39 (z + 59) = .inl (cy 1, 60, .inl (fun _ => 0)) := by rw [eG39, kb_un (by omega)]; exact u13_2
  have u16_0 : G39 (z + 60) = .inr (4, [.int 0, .int 0, .int 0, .int 0, .int 0, .ref (z + 61), .ref (z + 62), .ref (z + 63)]) := by rw [eG39, kb_un (by omega)]; exact u16_0
  have u16_1 : G39 (z + 61) = .inl (cy 0, 9, .inl (fun _ => 0)) := by rw [eG39, kb_un (by omega)]; exact u16_1
  have u16_2 : G39 (z + 62) = .inl (cy 0, 10, .inl (fun _ => 0)) := by rw [eG39, kb_un (by omega)]; exact u16_2
  have u16_3 : G39 (z + 63) = .inl (cy 0, 10, .inl (fun _ => 0)) := by rw [eG39, kb_un (by omega)]; exact u16_3
  have o18 : G39 (z + 64) = .inl (cy 0, 7, .inl (fun _ => 0)) := by rw [eG39, kb_un (by omega)]; exact o18
  have o20 : G39 (z + 65) = .inl (cy 0, 10, .inl (fun _ => 0)) := by rw [eG39, kb_un (by omega)]; exact o20
  have o22 : G39 (z + 66) = .inl (cy 0, 10, .inl (fun _ => 0)) := by rw [eG39, kb_un (by omega)]; exact o22
  have oh : G39 h0 = .inr (8, [.ref z, .ref (z + 27), .int 0, .ref (z + 54), .ref (z + 55), .ref (z + 57), .ref (z + 60), .ref (z + 64), .ref (z + 65), .ref (z + 66)]) := by rw [eG39, kb_un (by omega)]; exact oh
  have u26_0 : G39 (z + 67) = .inr (3, [.int 0, .int 0, .ref (z + 68)]) := by rw [eG39, kb_un (by omega)]; exact u26_0
  have u26_1 : G39 (z + 68) = .inl (cy 0, 24, .inl (fun _ => 0)) := by rw [eG39, kb_un (by omega)]; exact u26_1
  have u30_0 : G39 (z + 69) = .inr (3, [.int 0, .int 0, .ref (z + 70)]) := by rw [eG39, kb_un (by omega)]; exact u30_0
  have u30_1 : G39 (z + 70) = .inl (cy 0, 24, .inl (fun _ => 0)) := by rw [eG39, kb_un (by omega)]; exact u30_1
  have u34_0 : G39 (z + 71) = .inr (3, [.int 0, .int 0, .ref (z + 72)]) := by rw [eG39, kb_un (by omega)]; exact u34_0
  have u34_1 : G39 (z + 72) = .inl (cy 0, 24, .inl (fun _ => 0)) := by rw [eG39, kb_un (by omega)]; exact u34_1
  have u38_0 : G39 (z + 73) = .inr (3, [.int 0, .int 0, .ref (z + 74)]) := by rw [eG39, kb_un (by omega)]; exact u38_0
  have u38_1 : G39 (z + 74) = .inl (cy 0, 24, .inl (fun _ => 0)) := by rw [eG39, kb_un (by omega)]; exact u38_1
  have o7 : G39 (z + 54) = .inl (cy 5, 4, .inr (.inr (.inr (.inr (va_up (va_up (va_up (va_up (fun _ => none) 0 (some (z + 67))) 1 (some (z + 69))) 2 (some (z + 71))) 3 (some (z + 73))))))) := by rw [eG39]; exact kb_us
  have w2a : kb_R cy G39 z (z + 1) := w2a.keep (fun q h => by rw [eG39, kb_un (by omega)])
  have w5a : kb_R cy G39 (z + 27) (z + 28) := w5a.keep (fun q h => by rw [eG39, kb_un (by omega)])
  refine lv_iinc (v := 4) (lv' := [(1, .int 4), (0, .ref h0)]) hx hb dX8_init_111 hl (k := 0) rfl (by decide) (by decide) rfl (fun ls hl => ?_)
  refine lv_goto (tgt := 93) hx hb dX8_init_114 (by decide) ?_
  refine lv_iload_n hx hb dX8_init_93 rfl (lv_at hl 0 rfl) ?_
  refine lv_iconst (v := 4) hx hb dX8_init_94 (by decide) ?_
  refine lv_icmp_ge (tgt := 117) hx hb dX8_init_95 (by decide) (fun c40 => ?_) (fun c40 => absurd (by decide) c40)
  have p1 : ∀ j : Nat, j < 4 → (va_up (va_up (va_up (va_up (fun _ => none) 0 (some (z + 67))) 1 (some (z + 69))) 2 (some (z + 71))) 3 (some (z + 73))) j = some (z + 67 + 2 * j) := fun j hj => by rcases (show j = 0 ∨ j = 1 ∨ j = 2 ∨ j = 3 by omega) with rfl | rfl | rfl | rfl <;> rfl
  have p2 : ∀ j : Nat, j < 4 → G39 (z + 67 + 2 * j) = .inr (3, [.int 0, .int 0, .ref (z + 67 + 2 * j + 1)]) ∧ G39 (z + 67 + 2 * j + 1) = .inl (cy 0, 24, .inl (fun _ => 0)) := fun j hj => by rcases (show j = 0 ∨ j = 1 ∨ j = 2 ∨ j = 3 by omega) with rfl | rfl | rfl | rfl
    · exact ⟨u26_0, u26_1⟩
    · exact ⟨u30_0, u30_1⟩
    · exact ⟨u34_0, u34_1⟩
    · exact ⟨u38_0, u38_1⟩
  exact kb_vret hx hb hr hlocks hK hP hS dX8_init_117 ⟨⟨oh, w2a, w5a, ⟨_, o7, p1⟩, p2, ⟨u10_0, u10_1⟩, ⟨u13_0, u13_1, u13_2⟩, ⟨u16_0, u16_1, u16_2, u16_3⟩, o18, o20, o22⟩, hF⟩
