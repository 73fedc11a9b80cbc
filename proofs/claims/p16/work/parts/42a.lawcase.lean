theorem gL_law_X8_dream : GoodIn wsL_law (wsV RL 13 RX8 yX8_dream wzX8_dream) := wz_coL bm_105 (wz_coL bm_106 (wz_coL bm_107 (wz_coL bm_2 (wz_inL bm_108))))
theorem gL_law_X9_dream : GoodIn wsL_law (wsV RL 17 RX9 yX9_dream wzX9_dream) := wz_coL bm_134 (wz_coL bm_135 (wz_coL bm_136 (wz_coL bm_5 (wz_inL bm_137))))
theorem dW_1 (x y : Nat) (hxy : x + 76 ≤ y) : ∀ a k : Nat, y ≤ a → a ≤ y + 12 → ¬ ((a) = (x) + 24 ∨ (a) = (x) + 27 ∨ ((x) + 58 ≤ (a) ∧ (a) ≤ (x) + 67) ∨ ((a) = (x) + 1 ∧ (k) = 4) ∨ ((x) + 7 ≤ (a) ∧ (a) < (x) + 16)) := by intros; omega
theorem dW_2 (x y : Nat) (hxy : x + 76 ≤ y) : ∀ a k : Nat, x ≤ a → a < x + 76 → ¬ (((a) = (y) + 3 ∨ ((y) + 7 ≤ (a) ∧ (a) ≤ (y) + 11)) ∨ ((a) = (y) + 1 ∧ ((k) = 2 ∨ (7 ≤ (k) ∧ (k) < 61)))) := by intros; omega
theorem dW_3 (x y : Nat) (hxy : x + 76 ≤ y) : ∀ k : Nat, ¬ (((x + 28)) = (x) + 24 ∨ ((x + 28)) = (x) + 27 ∨ ((x) + 58 ≤ ((x + 28)) ∧ ((x + 28)) ≤ (x) + 67) ∨ (((x + 28)) = (x) + 1 ∧ (k) = 4) ∨ ((x) + 7 ≤ ((x + 28)) ∧ ((x + 28)) < (x) + 16)) := by intros; omega
theorem dW_4 (x y : Nat) (hxy : x + 76 ≤ y) : ¬ ((x) = (x) + 24 ∨ (x) = (x) + 27 ∨ ((x) + 58 ≤ (x) ∧ (x) ≤ (x) + 67) ∨ ((x) = (x) + 1 ∧ (2) = 4) ∨ ((x) + 7 ≤ (x) ∧ (x) < (x) + 16)) := by omega
theorem dW_5 (x y : Nat) (hxy : x + 76 ≤ y) : ∀ k : Nat, ¬ ((((y + 2)) = (y) + 3 ∨ ((y) + 7 ≤ ((y + 2)) ∧ ((y + 2)) ≤ (y) + 11)) ∨ (((y + 2)) = (y) + 1 ∧ ((k) = 2 ∨ (7 ≤ (k) ∧ (k) < 61)))) := by intros; omega
theorem dW_6 (x y : Nat) (hxy : x + 76 ≤ y) : ¬ (((y) = (y) + 3 ∨ ((y) + 7 ≤ (y) ∧ (y) ≤ (y) + 11)) ∨ ((y) = (y) + 1 ∧ ((2) = 2 ∨ (7 ≤ (2) ∧ (2) < 61)))) := by omega
theorem dW_7 (x y : Nat) (hxy : x + 76 ≤ y) : ¬ (((x + 1)) = (x) + 24 ∨ ((x + 1)) = (x) + 27 ∨ ((x) + 58 ≤ ((x + 1)) ∧ ((x + 1)) ≤ (x) + 67) ∨ (((x + 1)) = (x) + 1 ∧ (0) = 4) ∨ ((x) + 7 ≤ ((x + 1)) ∧ ((x + 1)) < (x) + 16)) := by omega
theorem dW_8 (x y : Nat) (hxy : x + 76 ≤ y) : ¬ ((((y + 1)) = (y) + 3 ∨ ((y) + 7 ≤ ((y + 1)) ∧ ((y + 1)) ≤ (y) + 11)) ∨ (((y + 1)) = (y) + 1 ∧ ((0) = 2 ∨ (7 ≤ (0) ∧ (0) < 61)))) := by omega
theorem dW_9 (x y : Nat) (hxy : x + 76 ≤ y) : ¬ (((x + 1)) = (x) + 24 ∨ ((x + 1)) = (x) + 27 ∨ ((x) + 58 ≤ ((x + 1)) ∧ ((x + 1)) ≤ (x) + 67) ∨ (((x + 1)) = (x) + 1 ∧ (1) = 4) ∨ ((x) + 7 ≤ ((x + 1)) ∧ ((x + 1)) < (x) + 16)) := by omega
theorem dW_10 (x y : Nat) (hxy : x + 76 ≤ y) : ¬ ((((y + 1)) = (y) + 3 ∨ ((y) + 7 ≤ ((y + 1)) ∧ ((y + 1)) ≤ (y) + 11)) ∨ (((y + 1)) = (y) + 1 ∧ ((4) = 2 ∨ (7 ≤ (4) ∧ (4) < 61)))) := by omega
theorem dW_11 (x y : Nat) (hxy : x + 76 ≤ y) : ¬ (((x + 1)) = (x) + 24 ∨ ((x + 1)) = (x) + 27 ∨ ((x) + 58 ≤ ((x + 1)) ∧ ((x + 1)) ≤ (x) + 67) ∨ (((x + 1)) = (x) + 1 ∧ (2) = 4) ∨ ((x) + 7 ≤ ((x + 1)) ∧ ((x + 1)) < (x) + 16)) := by omega
theorem dW_12 (x y : Nat) (hxy : x + 76 ≤ y) : ¬ ((((y + 1)) = (y) + 3 ∨ ((y) + 7 ≤ ((y + 1)) ∧ ((y + 1)) ≤ (y) + 11)) ∨ (((y + 1)) = (y) + 1 ∧ ((1) = 2 ∨ (7 ≤ (1) ∧ (1) < 61)))) := by omega
theorem dW_13 (x y : Nat) (hxy : x + 76 ≤ y) : ¬ (((x + 1)) = (x) + 24 ∨ ((x + 1)) = (x) + 27 ∨ ((x) + 58 ≤ ((x + 1)) ∧ ((x + 1)) ≤ (x) + 67) ∨ (((x + 1)) = (x) + 1 ∧ (6) = 4) ∨ ((x) + 7 ≤ ((x + 1)) ∧ ((x + 1)) < (x) + 16)) := by omega
theorem dW_14 (x y : Nat) (hxy : x + 76 ≤ y) : ¬ ((((y + 1)) = (y) + 3 ∨ ((y) + 7 ≤ ((y + 1)) ∧ ((y + 1)) ≤ (y) + 11)) ∨ (((y + 1)) = (y) + 1 ∧ ((3) = 2 ∨ (7 ≤ (3) ∧ (3) < 61)))) := by omega
theorem dW_15 (x y : Nat) (hxy : x + 76 ≤ y) : ¬ (((x + 1)) = (x) + 24 ∨ ((x + 1)) = (x) + 27 ∨ ((x) + 58 ≤ ((x + 1)) ∧ ((x + 1)) ≤ (x) + 67) ∨ (((x + 1)) = (x) + 1 ∧ (9) = 4) ∨ ((x) + 7 ≤ ((x + 1)) ∧ ((x + 1)) < (x) + 16)) := by omega
theorem dW_16 (x y : Nat) (hxy : x + 76 ≤ y) : ¬ ((((y + 1)) = (y) + 3 ∨ ((y) + 7 ≤ ((y + 1)) ∧ ((y + 1)) ≤ (y) + 11)) ∨ (((y + 1)) = (y) + 1 ∧ ((5) = 2 ∨ (7 ≤ (5) ∧ (5) < 61)))) := by omega
theorem dW_17 (x y : Nat) (hxy : x + 76 ≤ y) : ¬ (((x + 1)) = (x) + 24 ∨ ((x + 1)) = (x) + 27 ∨ ((x) + 58 ≤ ((x + 1)) ∧ ((x + 1)) ≤ (x) + 67) ∨ (((x + 1)) = (x) + 1 ∧ (11) = 4) ∨ ((x) + 7 ≤ ((x + 1)) ∧ ((x + 1)) < (x) + 16)) := by omega
theorem dW_18 (x y : Nat) (hxy : x + 76 ≤ y) : ¬ ((((y + 1)) = (y) + 3 ∨ ((y) + 7 ≤ ((y + 1)) ∧ ((y + 1)) ≤ (y) + 11)) ∨ (((y + 1)) = (y) + 1 ∧ ((6) = 2 ∨ (7 ≤ (6) ∧ (6) < 61)))) := by omega
theorem dW_19 (x y : Nat) (hxy : x + 76 ≤ y) : ∀ j : Nat, j < 6 → ¬ (((x + 1 + 15 + 1 * j)) = (x) + 24 ∨ ((x + 1 + 15 + 1 * j)) = (x) + 27 ∨ ((x) + 58 ≤ ((x + 1 + 15 + 1 * j)) ∧ ((x + 1 + 15 + 1 * j)) ≤ (x) + 67) ∨ (((x + 1 + 15 + 1 * j)) = (x) + 1 ∧ (0) = 4) ∨ ((x) + 7 ≤ ((x + 1 + 15 + 1 * j)) ∧ ((x + 1 + 15 + 1 * j)) < (x) + 16)) := by intros; omega
theorem dW_20 (x y : Nat) (hxy : x + 76 ≤ y) : ∀ j : Nat, j < 6 → ¬ ((((y + 1)) = (y) + 3 ∨ ((y) + 7 ≤ ((y + 1)) ∧ ((y + 1)) ≤ (y) + 11)) ∨ (((y + 1)) = (y) + 1 ∧ (((61 + 2 * j + 0)) = 2 ∨ (7 ≤ ((61 + 2 * j + 0)) ∧ ((61 + 2 * j + 0)) < 61)))) := by intros; omega
theorem dW_21 (x y : Nat) (hxy : x + 76 ≤ y) : ∀ j : Nat, j < 4 → ¬ (((x + 68 + 2 * j)) = (x) + 24 ∨ ((x + 68 + 2 * j)) = (x) + 27 ∨ ((x) + 58 ≤ ((x + 68 + 2 * j)) ∧ ((x + 68 + 2 * j)) ≤ (x) + 67) ∨ (((x + 68 + 2 * j)) = (x) + 1 ∧ (0) = 4) ∨ ((x) + 7 ≤ ((x + 68 + 2 * j)) ∧ ((x + 68 + 2 * j)) < (x) + 16)) := by intros; omega
theorem dW_22 (x y : Nat) (hxy : x + 76 ≤ y) : ∀ j : Nat, j < 4 → ¬ ((((y + 4)) = (y) + 3 ∨ ((y) + 7 ≤ ((y + 4)) ∧ ((y + 4)) ≤ (y) + 11)) ∨ (((y + 4)) = (y) + 1 ∧ ((j) = 2 ∨ (7 ≤ (j) ∧ (j) < 61)))) := by intros; omega
theorem dW_23 (x y : Nat) (hxy : x + 76 ≤ y) : ∀ j : Nat, j < 4 → ¬ (((x + 68 + 2 * j)) = (x) + 24 ∨ ((x + 68 + 2 * j)) = (x) + 27 ∨ ((x) + 58 ≤ ((x + 68 + 2 * j)) ∧ ((x + 68 + 2 * j)) ≤ (x) + 67) ∨ (((x + 68 + 2 * j)) = (x) + 1 ∧ (1) = 4) ∨ ((x) + 7 ≤ ((x + 68 + 2 * j)) ∧ ((x + 68 + 2 * j)) < (x) + 16)) := by intros; omega
theorem dW_24 (x y : Nat) (hxy : x + 76 ≤ y) : ∀ j : Nat, j < 4 → ¬ ((((y + 5)) = (y) + 3 ∨ ((y) + 7 ≤ ((y + 5)) ∧ ((y + 5)) ≤ (y) + 11)) ∨ (((y + 5)) = (y) + 1 ∧ ((j) = 2 ∨ (7 ≤ (j) ∧ (j) < 61)))) := by intros; omega
theorem dW_25 (x y : Nat) (hxy : x + 76 ≤ y) : ∀ j : Nat, j < 4 → ∀ k : Nat, k < 24 → ¬ (((x + 68 + 2 * j + 1)) = (x) + 24 ∨ ((x + 68 + 2 * j + 1)) = (x) + 27 ∨ ((x) + 58 ≤ ((x + 68 + 2 * j + 1)) ∧ ((x + 68 + 2 * j + 1)) ≤ (x) + 67) ∨ (((x + 68 + 2 * j + 1)) = (x) + 1 ∧ (k) = 4) ∨ ((x) + 7 ≤ ((x + 68 + 2 * j + 1)) ∧ ((x + 68 + 2 * j + 1)) < (x) + 16)) := by intros; omega
theorem dW_26 (x y : Nat) (hxy : x + 76 ≤ y) : ∀ k : Nat, k < 96 → ¬ ((((y + 6)) = (y) + 3 ∨ ((y) + 7 ≤ ((y + 6)) ∧ ((y + 6)) ≤ (y) + 11)) ∨ (((y + 6)) = (y) + 1 ∧ ((k) = 2 ∨ (7 ≤ (k) ∧ (k) < 61)))) := by intros; omega
theorem dW_27 (x y : Nat) (hxy : x + 76 ≤ y) : ¬ (((x + 56)) = (x) + 24 ∨ ((x + 56)) = (x) + 27 ∨ ((x) + 58 ≤ ((x + 56)) ∧ ((x + 56)) ≤ (x) + 67) ∨ (((x + 56)) = (x) + 1 ∧ (1) = 4) ∨ ((x) + 7 ≤ ((x + 56)) ∧ ((x + 56)) < (x) + 16)) := by omega
theorem dW_28 (x y : Nat) (hxy : x + 76 ≤ y) : ¬ (((y) = (y) + 3 ∨ ((y) + 7 ≤ (y) ∧ (y) ≤ (y) + 11)) ∨ ((y) = (y) + 1 ∧ ((18) = 2 ∨ (7 ≤ (18) ∧ (18) < 61)))) := by omega
theorem dW_29 (x y : Nat) (hxy : x + 76 ≤ y) : ∀ k : Nat, ¬ (((x + 56 + 1)) = (x) + 24 ∨ ((x + 56 + 1)) = (x) + 27 ∨ ((x) + 58 ≤ ((x + 56 + 1)) ∧ ((x + 56 + 1)) ≤ (x) + 67) ∨ (((x + 56 + 1)) = (x) + 1 ∧ (k) = 4) ∨ ((x) + 7 ≤ ((x + 56 + 1)) ∧ ((x + 56 + 1)) < (x) + 16)) := by intros; omega
theorem dW_30 (x y : Nat) (hxy : x + 76 ≤ y) : ∀ k : Nat, ¬ ((((y + 12)) = (y) + 3 ∨ ((y) + 7 ≤ ((y + 12)) ∧ ((y + 12)) ≤ (y) + 11)) ∨ (((y + 12)) = (y) + 1 ∧ ((k) = 2 ∨ (7 ≤ (k) ∧ (k) < 61)))) := by intros; omega
theorem dW_31 (x y : Nat) (hxy : x + 76 ≤ y) : ∀ k : Nat, ¬ (((x + 1 + 4)) = (x) + 24 ∨ ((x + 1 + 4)) = (x) + 27 ∨ ((x) + 58 ≤ ((x + 1 + 4)) ∧ ((x + 1 + 4)) ≤ (x) + 67) ∨ (((x + 1 + 4)) = (x) + 1 ∧ (k) = 4) ∨ ((x) + 7 ≤ ((x + 1 + 4)) ∧ ((x + 1 + 4)) < (x) + 16)) := by intros; omega
theorem dW_32 (x y : Nat) (hxy : x + 76 ≤ y) : ∀ k : Nat, k < 60 → ¬ ((((y + 1)) = (y) + 3 ∨ ((y) + 7 ≤ ((y + 1)) ∧ ((y + 1)) ≤ (y) + 11)) ∨ (((y + 1)) = (y) + 1 ∧ (((73 + k)) = 2 ∨ (7 ≤ ((73 + k)) ∧ ((73 + k)) < 61)))) := by intros; omega
theorem dW_33 (x y : Nat) (hxy : x + 76 ≤ y) : ∀ a : Nat, (a = x + 1 + 21 ∨ a = x + 1 + 22 ∨ a = x + 1 + 24 ∨ a = x + 1 + 25) → ∀ k : Nat, ¬ ((a) = (x) + 24 ∨ (a) = (x) + 27 ∨ ((x) + 58 ≤ (a) ∧ (a) ≤ (x) + 67) ∨ ((a) = (x) + 1 ∧ (k) = 4) ∨ ((x) + 7 ≤ (a) ∧ (a) < (x) + 16)) := by intros; omega
theorem dW_34 (x y : Nat) (hxy : x + 76 ≤ y) : ∀ k : Nat, 157 ≤ k → ¬ ((((y + 1)) = (y) + 3 ∨ ((y) + 7 ≤ ((y + 1)) ∧ ((y + 1)) ≤ (y) + 11)) ∨ (((y + 1)) = (y) + 1 ∧ ((k) = 2 ∨ (7 ≤ (k) ∧ (k) < 61)))) := by intros; omega
theorem dW_35 (x y : Nat) (hxy : x + 76 ≤ y) : ∀ j : Nat, j < 6 → ¬ (((x + 1 + 15 + 1 * j)) = (x) + 24 ∨ ((x + 1 + 15 + 1 * j)) = (x) + 27 ∨ ((x) + 58 ≤ ((x + 1 + 15 + 1 * j)) ∧ ((x + 1 + 15 + 1 * j)) ≤ (x) + 67) ∨ (((x + 1 + 15 + 1 * j)) = (x) + 1 ∧ (1) = 4) ∨ ((x) + 7 ≤ ((x + 1 + 15 + 1 * j)) ∧ ((x + 1 + 15 + 1 * j)) < (x) + 16)) := by intros; omega
theorem dW_36 (x y : Nat) (hxy : x + 76 ≤ y) : ∀ j : Nat, j < 6 → ¬ ((((y + 1)) = (y) + 3 ∨ ((y) + 7 ≤ ((y + 1)) ∧ ((y + 1)) ≤ (y) + 11)) ∨ (((y + 1)) = (y) + 1 ∧ (((61 + 2 * j + 1)) = 2 ∨ (7 ≤ ((61 + 2 * j + 1)) ∧ ((61 + 2 * j + 1)) < 61)))) := by intros; omega
theorem dW_37 (x y : Nat) (hxy : x + 76 ≤ y) : ∀ k : Nat, k < 24 → ¬ (((x + 1 + 5)) = (x) + 24 ∨ ((x + 1 + 5)) = (x) + 27 ∨ ((x) + 58 ≤ ((x + 1 + 5)) ∧ ((x + 1 + 5)) ≤ (x) + 67) ∨ (((x + 1 + 5)) = (x) + 1 ∧ ((0 + k)) = 4) ∨ ((x) + 7 ≤ ((x + 1 + 5)) ∧ ((x + 1 + 5)) < (x) + 16)) := by intros; omega
theorem dW_38 (x y : Nat) (hxy : x + 76 ≤ y) : ∀ k : Nat, k < 24 → ¬ ((((y + 1)) = (y) + 3 ∨ ((y) + 7 ≤ ((y + 1)) ∧ ((y + 1)) ≤ (y) + 11)) ∨ (((y + 1)) = (y) + 1 ∧ (((133 + k)) = 2 ∨ (7 ≤ ((133 + k)) ∧ ((133 + k)) < 61)))) := by intros; omega
theorem dW_39 (x y : Nat) (hxy : x + 76 ≤ y) : ∀ j : Nat, j < 9 → ∀ k : Nat, k < 6 → ¬ (((x + 28 + 6 + 1 * j)) = (x) + 24 ∨ ((x + 28 + 6 + 1 * j)) = (x) + 27 ∨ ((x) + 58 ≤ ((x + 28 + 6 + 1 * j)) ∧ ((x + 28 + 6 + 1 * j)) ≤ (x) + 67) ∨ (((x + 28 + 6 + 1 * j)) = (x) + 1 ∧ (k) = 4) ∨ ((x) + 7 ≤ ((x + 28 + 6 + 1 * j)) ∧ ((x + 28 + 6 + 1 * j)) < (x) + 16)) := by intros; omega
theorem dW_40 (x y : Nat) (hxy : x + 76 ≤ y) : ∀ k : Nat, 7 ≤ k → k < 61 → ¬ ((((y + 2)) = (y) + 3 ∨ ((y) + 7 ≤ ((y + 2)) ∧ ((y + 2)) ≤ (y) + 11)) ∨ (((y + 2)) = (y) + 1 ∧ ((k) = 2 ∨ (7 ≤ (k) ∧ (k) < 61)))) := by intros; omega
theorem dW_41 (x y : Nat) (hxy : x + 76 ≤ y) : ∀ j : Nat, j < 6 → ¬ (((x + 28 + 15 + 1 * j)) = (x) + 24 ∨ ((x + 28 + 15 + 1 * j)) = (x) + 27 ∨ ((x) + 58 ≤ ((x + 28 + 15 + 1 * j)) ∧ ((x + 28 + 15 + 1 * j)) ≤ (x) + 67) ∨ (((x + 28 + 15 + 1 * j)) = (x) + 1 ∧ (0) = 4) ∨ ((x) + 7 ≤ ((x + 28 + 15 + 1 * j)) ∧ ((x + 28 + 15 + 1 * j)) < (x) + 16)) := by intros; omega
theorem dW_42 (x y : Nat) (hxy : x + 76 ≤ y) : ∀ j : Nat, j < 6 → ¬ ((((y + 2)) = (y) + 3 ∨ ((y) + 7 ≤ ((y + 2)) ∧ ((y + 2)) ≤ (y) + 11)) ∨ (((y + 2)) = (y) + 1 ∧ (((61 + 2 * j + 0)) = 2 ∨ (7 ≤ ((61 + 2 * j + 0)) ∧ ((61 + 2 * j + 0)) < 61)))) := by intros; omega
theorem dW_43 (x y : Nat) (hxy : x + 76 ≤ y) : ¬ (((x + 28)) = (x) + 24 ∨ ((x + 28)) = (x) + 27 ∨ ((x) + 58 ≤ ((x + 28)) ∧ ((x + 28)) ≤ (x) + 67) ∨ (((x + 28)) = (x) + 1 ∧ (9) = 4) ∨ ((x) + 7 ≤ ((x + 28)) ∧ ((x + 28)) < (x) + 16)) := by omega
theorem dW_44 (x y : Nat) (hxy : x + 76 ≤ y) : ∀ k : Nat, ¬ (((x + 28 + 4)) = (x) + 24 ∨ ((x + 28 + 4)) = (x) + 27 ∨ ((x) + 58 ≤ ((x + 28 + 4)) ∧ ((x + 28 + 4)) ≤ (x) + 67) ∨ (((x + 28 + 4)) = (x) + 1 ∧ (k) = 4) ∨ ((x) + 7 ≤ ((x + 28 + 4)) ∧ ((x + 28 + 4)) < (x) + 16)) := by intros; omega
theorem dW_45 (x y : Nat) (hxy : x + 76 ≤ y) : ¬ ((((y + 2)) = (y) + 3 ∨ ((y) + 7 ≤ ((y + 2)) ∧ ((y + 2)) ≤ (y) + 11)) ∨ (((y + 2)) = (y) + 1 ∧ ((5) = 2 ∨ (7 ≤ (5) ∧ (5) < 61)))) := by omega
theorem dW_46 (x y : Nat) (hxy : x + 76 ≤ y) : ∀ k : Nat, k < 60 → ¬ ((((y + 2)) = (y) + 3 ∨ ((y) + 7 ≤ ((y + 2)) ∧ ((y + 2)) ≤ (y) + 11)) ∨ (((y + 2)) = (y) + 1 ∧ (((73 + k)) = 2 ∨ (7 ≤ ((73 + k)) ∧ ((73 + k)) < 61)))) := by intros; omega
theorem dW_47 (x y : Nat) (hxy : x + 76 ≤ y) : ∀ a : Nat, (a = x + 28 + 21 ∨ a = x + 28 + 22 ∨ a = x + 28 + 24 ∨ a = x + 28 + 25) → ∀ k : Nat, ¬ ((a) = (x) + 24 ∨ (a) = (x) + 27 ∨ ((x) + 58 ≤ (a) ∧ (a) ≤ (x) + 67) ∨ ((a) = (x) + 1 ∧ (k) = 4) ∨ ((x) + 7 ≤ (a) ∧ (a) < (x) + 16)) := by intros; omega
theorem dW_48 (x y : Nat) (hxy : x + 76 ≤ y) : ∀ k : Nat, 157 ≤ k → ¬ ((((y + 2)) = (y) + 3 ∨ ((y) + 7 ≤ ((y + 2)) ∧ ((y + 2)) ≤ (y) + 11)) ∨ (((y + 2)) = (y) + 1 ∧ ((k) = 2 ∨ (7 ≤ (k) ∧ (k) < 61)))) := by intros; omega
theorem dW_49 (x y : Nat) (hxy : x + 76 ≤ y) : ∀ j : Nat, j < 6 → ¬ (((x + 28 + 15 + 1 * j)) = (x) + 24 ∨ ((x + 28 + 15 + 1 * j)) = (x) + 27 ∨ ((x) + 58 ≤ ((x + 28 + 15 + 1 * j)) ∧ ((x + 28 + 15 + 1 * j)) ≤ (x) + 67) ∨ (((x + 28 + 15 + 1 * j)) = (x) + 1 ∧ (1) = 4) ∨ ((x) + 7 ≤ ((x + 28 + 15 + 1 * j)) ∧ ((x + 28 + 15 + 1 * j)) < (x) + 16)) := by intros; omega
theorem dW_50 (x y : Nat) (hxy : x + 76 ≤ y) : ∀ j : Nat, j < 6 → ¬ ((((y + 2)) = (y) + 3 ∨ ((y) + 7 ≤ ((y + 2)) ∧ ((y + 2)) ≤ (y) + 11)) ∨ (((y + 2)) = (y) + 1 ∧ (((61 + 2 * j + 1)) = 2 ∨ (7 ≤ ((61 + 2 * j + 1)) ∧ ((61 + 2 * j + 1)) < 61)))) := by intros; omega
theorem dW_51 (x y : Nat) (hxy : x + 76 ≤ y) : ¬ (((x + 28)) = (x) + 24 ∨ ((x + 28)) = (x) + 27 ∨ ((x) + 58 ≤ ((x + 28)) ∧ ((x + 28)) ≤ (x) + 67) ∨ (((x + 28)) = (x) + 1 ∧ (11) = 4) ∨ ((x) + 7 ≤ ((x + 28)) ∧ ((x + 28)) < (x) + 16)) := by omega
theorem dW_52 (x y : Nat) (hxy : x + 76 ≤ y) : ∀ k : Nat, k < 24 → ¬ (((x + 28 + 5)) = (x) + 24 ∨ ((x + 28 + 5)) = (x) + 27 ∨ ((x) + 58 ≤ ((x + 28 + 5)) ∧ ((x + 28 + 5)) ≤ (x) + 67) ∨ (((x + 28 + 5)) = (x) + 1 ∧ ((0 + k)) = 4) ∨ ((x) + 7 ≤ ((x + 28 + 5)) ∧ ((x + 28 + 5)) < (x) + 16)) := by intros; omega
theorem dW_53 (x y : Nat) (hxy : x + 76 ≤ y) : ¬ ((((y + 2)) = (y) + 3 ∨ ((y) + 7 ≤ ((y + 2)) ∧ ((y + 2)) ≤ (y) + 11)) ∨ (((y + 2)) = (y) + 1 ∧ ((6) = 2 ∨ (7 ≤ (6) ∧ (6) < 61)))) := by omega
theorem dW_54 (x y : Nat) (hxy : x + 76 ≤ y) : ∀ k : Nat, k < 24 → ¬ ((((y + 2)) = (y) + 3 ∨ ((y) + 7 ≤ ((y + 2)) ∧ ((y + 2)) ≤ (y) + 11)) ∨ (((y + 2)) = (y) + 1 ∧ (((133 + k)) = 2 ∨ (7 ≤ ((133 + k)) ∧ ((133 + k)) < 61)))) := by intros; omega
set_option maxHeartbeats 4000000 in
set_option maxRecDepth 100000 in
theorem lc_dream {p : Program} {l : Launch} {e : Env} {s : State} {m : MethodId} {below : List Frame} {meth : Method} {c : Code} {b L x y : Nat} {xs : Nat → Int32} {E : zz_E} {Q : State → Prop} (hA : zz_LA p s m c b L xs E x y) (i : Int32) (hi : 0 ≤ i.toInt ∧ i.toInt + 6 ≤ L) (σ : zz_S) (H : Heap) (locs : List Loc) (ls : Array Slot) (hR : zz_RL σ x y) (hQ : zz_RD σ x y) (hP : zz_P E σ H) (hS : va_S (zz_A E) s.heap H locs) (hl : lv_has ls 4 [(0, .ref b), (1, .ref x), (2, .ref y), (3, .int i)])
    (kk : ∀ (σ1 : zz_S) (H1 : Heap) (locs1 : List Loc), zz_RL σ1 x y → zz_RD σ1 x y → zz_P E σ1 H1 → va_S (zz_A E) s.heap H1 locs1 → W p l e room_1 s m #[Value.ref b] below meth c H1 locs1 600000 7302250 Q (F0 m 1384 ls [])) : W p l e room_1 s m #[Value.ref b] below meth c H locs 600000 7302250 Q (F0 m 200 ls []) := by
  obtain ⟨hx, hb, hml, hown, hts, hX, hbl, hbE, hL, gL, gM, hxy, hK⟩ := hA
  have hbA : ¬ zz_A E b := fun h => absurd (hbE b h) (Nat.not_le.mpr hbl)
  have k_1 : (1 : Int32).toInt = 1 := by decide +kernel
  have k_2 : (2 : Int32).toInt = 2 := by decide +kernel
  have k_3 : (3 : Int32).toInt = 3 := by decide +kernel
  refine lv_aload_n hx hb dL_law_200 rfl (lv_at hl 1 rfl) ?_
  refine lv_aload_n hx hb dL_law_201 rfl (lv_at hl 0 rfl) ?_
  refine lv_iload_n hx hb dL_law_202 rfl (lv_at hl 3 rfl) ?_
  refine lv_iconst (v := 1) hx hb dL_law_203 (by decide) ?_
  refine lv_iadd hx hb dL_law_204 ?_
  refine lv_topi (fun n1 e1 => ?_)
  have f1 : n1.toInt = (i).toInt + (1 : Int32).toInt := zz_addT e1 (by omega) (by omega)
  refine va_sld hx hb hX hbl hbA hS (vp_in_iff.mpr ⟨by omega, by omega⟩) dL_law_205 ?_
  refine lv_topi (fun v2 u2 => ?_)
  refine lv_aload_n hx hb dL_law_206 rfl (lv_at hl 0 rfl) ?_
  refine lv_iload_n hx hb dL_law_207 rfl (lv_at hl 3 rfl) ?_
  refine lv_iconst (v := 2) hx hb dL_law_208 (by decide) ?_
  refine lv_iadd hx hb dL_law_209 ?_
  refine lv_topi (fun n3 e3 => ?_)
  have f3 : n3.toInt = (i).toInt + (2 : Int32).toInt := zz_addT e3 (by omega) (by omega)
  refine va_sld hx hb hX hbl hbA hS (vp_in_iff.mpr ⟨by omega, by omega⟩) dL_law_210 ?_
  refine lv_topi (fun v4 u4 => ?_)
  refine lv_aload_n hx hb dL_law_211 rfl (lv_at hl 0 rfl) ?_
  refine lv_iload_n hx hb dL_law_212 rfl (lv_at hl 3 rfl) ?_
  refine lv_iconst (v := 3) hx hb dL_law_213 (by decide) ?_
  refine lv_iadd hx hb dL_law_214 ?_
  refine lv_topi (fun n5 e5 => ?_)
  have f5 : n5.toInt = (i).toInt + (3 : Int32).toInt := zz_addT e5 (by omega) (by omega)
  refine va_sld hx hb hX hbl hbA hS (vp_in_iff.mpr ⟨by omega, by omega⟩) dL_law_215 ?_
  refine lv_topi (fun v6 u6 => ?_)
  refine zz_callVi (As := [.int v2, .int v4, .int v6]) (rest := []) ⟨hx, hb, hml, hown, hts⟩ hK hP hS (c_X8_dream l E σ x v2 v4 v6 gL hR.1) (cwV 3 hts gL_law_X8_dream rfl rfl rfl (by decide +kernel) ⟨Nat.le_of_ble_eq_true rfl, Nat.le_of_ble_eq_true rfl⟩) (gL.1) rfl rfl hl.1 rfl (Nat.le_of_ble_eq_true rfl) dL_law_216 ⟨Nat.le_refl _, Nat.le_refl _⟩ (fun r1 σ1 H locs q1 hP hS => ?_)
  try dsimp only at q1
  obtain ⟨w1, p1⟩ := q1
  have B : ∀ a k : Nat, y ≤ a → a ≤ y + 12 → σ1 a k = σ a k := fun a k h1 h2 => w1 a k ((dW_1 x y hxy) a k h1 h2)
  have hJ1 : zz_IM σ1 y := hR.2.1.far B
  refine lv_pop hx hb dL_law_219 rfl ?_
  refine lv_aload_n hx hb dL_law_220 rfl (lv_at hl 2 rfl) ?_
  refine lv_aload_n hx hb dL_law_221 rfl (lv_at hl 0 rfl) ?_
  refine lv_iload_n hx hb dL_law_222 rfl (lv_at hl 3 rfl) ?_
  refine lv_iconst (v := 1) hx hb dL_law_223 (by decide) ?_
  refine lv_iadd hx hb dL_law_224 ?_
  refine lv_topi (fun n8 e8 => ?_)
  have f8 : n8.toInt = (i).toInt + (1 : Int32).toInt := zz_addT e8 (by omega) (by omega)
  refine va_sld hx hb hX hbl hbA hS (vp_in_iff.mpr ⟨by omega, by omega⟩) dL_law_225 ?_
  refine lv_topi (fun v9 u9 => ?_)
  have z9 : v9 = v2 := by rw [u9, u2, e8, e1]
  have zt9 := congrArg Int32.toInt z9
  refine lv_aload_n hx hb dL_law_226 rfl (lv_at hl 0 rfl) ?_
  refine lv_iload_n hx hb dL_law_227 rfl (lv_at hl 3 rfl) ?_
  refine lv_iconst (v := 2) hx hb dL_law_228 (by decide) ?_
  refine lv_iadd hx hb dL_law_229 ?_
  refine lv_topi (fun n10 e10 => ?_)
  have f10 : n10.toInt = (i).toInt + (2 : Int32).toInt := zz_addT e10 (by omega) (by omega)
  refine va_sld hx hb hX hbl hbA hS (vp_in_iff.mpr ⟨by omega, by omega⟩) dL_law_230 ?_
  refine lv_topi (fun v11 u11 => ?_)
  have z11 : v11 = v4 := by rw [u11, u4, e10, e3]
  have zt11 := congrArg Int32.toInt z11
  refine lv_aload_n hx hb dL_law_231 rfl (lv_at hl 0 rfl) ?_
  refine lv_iload_n hx hb dL_law_232 rfl (lv_at hl 3 rfl) ?_
  refine lv_iconst (v := 3) hx hb dL_law_233 (by decide) ?_
  refine lv_iadd hx hb dL_law_234 ?_
  refine lv_topi (fun n12 e12 => ?_)
  have f12 : n12.toInt = (i).toInt + (3 : Int32).toInt := zz_addT e12 (by omega) (by omega)
  refine va_sld hx hb hX hbl hbA hS (vp_in_iff.mpr ⟨by omega, by omega⟩) dL_law_235 ?_
  refine lv_topi (fun v13 u13 => ?_)
  have z13 : v13 = v6 := by rw [u13, u6, e12, e5]
  have zt13 := congrArg Int32.toInt z13
  refine zz_callVi (As := [.int v9, .int v11, .int v13]) (rest := []) ⟨hx, hb, hml, hown, hts⟩ hK hP hS (c_X9_dream l E σ1 y v9 v11 v13 gM hJ1) (cwV 3 hts gL_law_X9_dream rfl rfl rfl (by decide +kernel) ⟨Nat.le_of_ble_eq_true rfl, Nat.le_of_ble_eq_true rfl⟩) (gM.1) rfl rfl hl.1 rfl (Nat.le_of_ble_eq_true rfl) dL_law_236 ⟨Nat.le_refl _, Nat.le_refl _⟩ (fun r2 σ2 H locs q2 hP hS => ?_)
  try dsimp only at q2
  obtain ⟨w2, p2⟩ := q2
  have A : ∀ a k : Nat, x ≤ a → a < x + 76 → σ2 a k = σ1 a k := fun a k h1 h2 => w2 a k ((dW_2 x y hxy) a k h1 h2)
  obtain ⟨i1, p1⟩ := p1
  obtain ⟨i2, p2⟩ := p2
  try simp only [z9, z11, z13] at p2
  obtain ⟨h0, h1, h2, h3, h4, h5, h6⟩ := hR.2.2.1
  have ga3 := congrArg Int32.toInt (A (x + 1) 4 (by omega) (by omega))
  have gb3 := congrArg Int32.toInt (B (y + 1) 2 (by omega) (by omega))
  have rr2 : zz_RR σ2 (x + 1) (y + 1) := ⟨(congrArg Int32.toInt (A (x + 1) 0 (by omega) (by omega))).trans ((congrArg Int32.toInt (w1 (x + 1) 0 (dW_7 x y hxy))).trans (h0.trans ((congrArg Int32.toInt (B (y + 1) 0 (by omega) (by omega))).symm.trans (congrArg Int32.toInt (w2 (y + 1) 0 (dW_8 x y hxy))).symm))), (congrArg Int32.toInt (A (x + 1) 1 (by omega) (by omega))).trans ((congrArg Int32.toInt (w1 (x + 1) 1 (dW_9 x y hxy))).trans (h1.trans ((congrArg Int32.toInt (B (y + 1) 4 (by omega) (by omega))).symm.trans (congrArg Int32.toInt (w2 (y + 1) 4 (dW_10 x y hxy))).symm))), (congrArg Int32.toInt (A (x + 1) 2 (by omega) (by omega))).trans ((congrArg Int32.toInt (w1 (x + 1) 2 (dW_11 x y hxy))).trans (h2.trans ((congrArg Int32.toInt (B (y + 1) 1 (by omega) (by omega))).symm.trans (congrArg Int32.toInt (w2 (y + 1) 1 (dW_12 x y hxy))).symm))), by omega, (congrArg Int32.toInt (A (x + 1) 6 (by omega) (by omega))).trans ((congrArg Int32.toInt (w1 (x + 1) 6 (dW_13 x y hxy))).trans (h4.trans ((congrArg Int32.toInt (B (y + 1) 3 (by omega) (by omega))).symm.trans (congrArg Int32.toInt (w2 (y + 1) 3 (dW_14 x y hxy))).symm))), (congrArg Int32.toInt (A (x + 1) 9 (by omega) (by omega))).trans ((congrArg Int32.toInt (w1 (x + 1) 9 (dW_15 x y hxy))).trans (h5.trans ((congrArg Int32.toInt (B (y + 1) 5 (by omega) (by omega))).symm.trans (congrArg Int32.toInt (w2 (y + 1) 5 (dW_16 x y hxy))).symm))), (congrArg Int32.toInt (A (x + 1) 11 (by omega) (by omega))).trans ((congrArg Int32.toInt (w1 (x + 1) 11 (dW_17 x y hxy))).trans (h6.trans ((congrArg Int32.toInt (B (y + 1) 6 (by omega) (by omega))).symm.trans (congrArg Int32.toInt (w2 (y + 1) 6 (dW_18 x y hxy))).symm)))⟩
  have hRL : zz_RL σ2 x y := hR.real i1 i2 A B rr2 (fun k => w1 (x + 28) k ((dW_3 x y hxy) k)) (w1 x 2 (dW_4 x y hxy)) (fun k => w2 (y + 2) k ((dW_5 x y hxy) k)) (w2 y 2 (dW_6 x y hxy))
  obtain ⟨hqD, hqW, hqK, hqB, hqN, hqC, hqL, hqT, hqP, hqX, hqF, hqG, hqV⟩ := hQ
  obtain ⟨aD, aW, aKD, aKW, aB, aN, aC, aL, aT, aP, aX, aKP, aKX⟩ := zz_aX A
  obtain ⟨bD, bW, bKD, bKW, bB, bN, bC, bL, bT, bP, bX, bKP, bKX⟩ := zz_bM hR.2.1 B
  obtain ⟨aF, aKF, aV, aKV⟩ := zy_aX2 A
  obtain ⟨bF, bKF, bV, bKV⟩ := zy_bM2 B
  have rW : zz_PX 0 σ2 (x + 1) = zz_PM 0 σ2 (y + 1) := by rw [aW, zz_PXk (f := 0) (r := x + 1) w1 (dW_19 x y hxy), zz_PMk (f := 0) (a := y + 1) w2 (dW_20 x y hxy), bW, hqW]
  have rB : zz_HX 0 σ2 x = zz_HM σ2 (y + 4) := by rw [aB, zz_HX.eq (f := 0) (x := x) (fun j hj => w1 _ _ ((dW_21 x y hxy) j hj)), zz_HM.eq (a := y + 4) (fun j hj => w2 _ _ ((dW_22 x y hxy) j hj)), bB, hqB]
  have rN : zz_HX 1 σ2 x = zz_HM σ2 (y + 5) := by rw [aN, zz_HX.eq (f := 1) (x := x) (fun j hj => w1 _ _ ((dW_23 x y hxy) j hj)), zz_HM.eq (a := y + 5) (fun j hj => w2 _ _ ((dW_24 x y hxy) j hj)), bN, hqN]
  have rC : zz_CX σ2 x = zz_CM σ2 (y + 6) := by rw [aC, zz_CX.eq (x := x) (fun j hj k hk => w1 _ _ ((dW_25 x y hxy) j hj k hk)), zz_CM.eq (a := y + 6) (fun k hk => w2 _ _ ((dW_26 x y hxy) k hk)), bC, hqC]
  have rL : (σ2 (x + 56) 1).toInt = (σ2 y 18).toInt := by rw [aL, congrArg Int32.toInt (w1 (x + 56) 1 (dW_27 x y hxy)), congrArg Int32.toInt (w2 y 18 (dW_28 x y hxy)), bL, hqL]
  have rT : zz_TV σ2 (x + 56 + 1) = zz_TV σ2 (y + 12) := by rw [aT, zz_TV.eq (a := x + 56 + 1) (b := x + 56 + 1) (fun k _ => w1 _ k ((dW_29 x y hxy) k)), zz_TV.eq (a := y + 12) (b := y + 12) (fun k _ => w2 _ k ((dW_30 x y hxy) k)), bT, hqT]
  have rP : zz_Tp σ2 (x + 1 + 4) (σ2 (x + 1) 9).toInt = zz_Tm σ2 (y + 1) := by rw [aP, zz_Tp.all (a := x + 1 + 4) (b := x + 1 + 4) (congrArg Int32.toInt (w1 (x + 1) 9 (dW_15 x y hxy))) (fun k => w1 _ k ((dW_31 x y hxy) k)), zz_Tm.eq (a := y + 1) (b := y + 1) (w2 (y + 1) 5 (dW_16 x y hxy)) hJ1.1.2.2.2.2.1.2 (fun k hk => w2 (y + 1) (73 + k) ((dW_32 x y hxy) k hk)), bP, hqP]
  have rX : zz_tts (zz_XT σ2 (x + 1)) (zz_MT σ2 (y + 1)) := by rw [aX, zz_XT.all (r := x + 1) (fun a ha k => w1 a k ((dW_33 x y hxy) a ha k)), zz_MT.hi (a := y + 1) (b := y + 1) (fun k hk => w2 (y + 1) k ((dW_34 x y hxy) k hk)), bX]; exact hqX
  have rF : zz_PX 1 σ2 (x + 1) = zz_PM 1 σ2 (y + 1) := by rw [aF, zz_PXk (f := 1) (r := x + 1) w1 (dW_35 x y hxy), zz_PMk (f := 1) (a := y + 1) w2 (dW_36 x y hxy), bF, hqF]
  have rV : zy_wv σ2 (x + 1 + 5) 0 (σ2 (x + 1) 11).toInt = zy_wv σ2 (y + 1) 133 (σ2 (y + 1) 6).toInt := by rw [aV, zy_wv.eq (a := x + 1 + 5) (a1 := x + 1 + 5) (b := 0) (b1 := 0) (congrArg Int32.toInt (w1 (x + 1) 11 (dW_17 x y hxy))) (fun k hk => w1 (x + 1 + 5) (0 + k) ((dW_37 x y hxy) k hk)), zy_wv.eq (a := y + 1) (a1 := y + 1) (b := 133) (b1 := 133) (congrArg Int32.toInt (w2 (y + 1) 6 (dW_18 x y hxy))) (fun k hk => w2 (y + 1) (133 + k) ((dW_38 x y hxy) k hk)), bV, hqV]
  have rG : zy_FB (zz_PM 1 σ2 (y + 1)) := by rw [zz_PMk (f := 1) (a := y + 1) w2 (dW_36 x y hxy), bF]; exact hqG
  have rK : (σ2 x 2).toInt = 0 ∨ (zz_DX σ2 (x + 28) = zz_DM σ2 (y + 2) ∧ zz_PX 0 σ2 (x + 28) = zz_PM 0 σ2 (y + 2) ∧ zz_Tp σ2 (x + 28 + 4) (σ2 (x + 28) 9).toInt = zz_Tm σ2 (y + 2) ∧ zz_tts (zz_XT σ2 (x + 28)) (zz_MT σ2 (y + 2)) ∧ zz_PX 1 σ2 (x + 28) = zz_PM 1 σ2 (y + 2) ∧ zy_FB (zz_PM 1 σ2 (y + 2)) ∧ zy_wv σ2 (x + 28 + 5) 0 (σ2 (x + 28) 11).toInt = zy_wv σ2 (y + 2) 133 (σ2 (y + 2) 6).toInt) := hqK.elim (fun q => Or.inl ((congrArg Int32.toInt ((A x 2 (by omega) (by omega)).trans (w1 x 2 (dW_4 x y hxy)))).trans q)) (fun q => Or.inr ⟨by rw [aKD, zz_DXk (r := x + 28) w1 (dW_39 x y hxy), zz_DMk (a := y + 2) w2 (dW_40 x y hxy), bKD, q.1], by rw [aKW, zz_PXk (f := 0) (r := x + 28) w1 (dW_41 x y hxy), zz_PMk (f := 0) (a := y + 2) w2 (dW_42 x y hxy), bKW, q.2.1], by rw [aKP, zz_Tp.all (a := x + 28 + 4) (b := x + 28 + 4) (congrArg Int32.toInt (w1 (x + 28) 9 (dW_43 x y hxy))) (fun k => w1 _ k ((dW_44 x y hxy) k)), zz_Tm.eq (a := y + 2) (b := y + 2) (w2 (y + 2) 5 (dW_45 x y hxy)) hJ1.2.1.2.2.2.2.1.2 (fun k hk => w2 (y + 2) (73 + k) ((dW_46 x y hxy) k hk)), bKP, q.2.2.1], by rw [aKX, zz_XT.all (r := x + 28) (fun a ha k => w1 a k ((dW_47 x y hxy) a ha k)), zz_MT.hi (a := y + 2) (b := y + 2) (fun k hk => w2 (y + 2) k ((dW_48 x y hxy) k hk)), bKX]; exact q.2.2.2.1, by rw [aKF, zz_PXk (f := 1) (r := x + 28) w1 (dW_49 x y hxy), zz_PMk (f := 1) (a := y + 2) w2 (dW_50 x y hxy), bKF, q.2.2.2.2.1], by rw [zz_PMk (f := 1) (a := y + 2) w2 (dW_50 x y hxy), bKF]; exact q.2.2.2.2.2.1, by rw [aKV, zy_wv.eq (a := x + 28 + 5) (a1 := x + 28 + 5) (b := 0) (b1 := 0) (congrArg Int32.toInt (w1 (x + 28) 11 (dW_51 x y hxy))) (fun k hk => w1 (x + 28 + 5) (0 + k) ((dW_52 x y hxy) k hk)), zy_wv.eq (a := y + 2) (a1 := y + 2) (b := 133) (b1 := 133) (congrArg Int32.toInt (w2 (y + 2) 6 (dW_53 x y hxy))) (fun k hk => w2 (y + 2) (133 + k) ((dW_54 x y hxy) k hk)), bKV, q.2.2.2.2.2.2]⟩)
  have gc4 : (σ (x + 1) 4).toInt = (σ1 (y + 1) 2).toInt := hR.2.2.1.2.2.2.1.trans (congrArg Int32.toInt (B (y + 1) 2 (by omega) (by omega))).symm
  have hrr0 : r1.toInt = r2.toInt := by omega
  have rD : zz_DX σ2 (x + 1) = zz_DM σ2 (y + 1) := by
    by_cases q : r1.toInt < 0
    · rw [aD, p1.2.1 q, p2.2.1 (by omega), bD, hqD]
    · rw [aD, p1.2.2 (by omega), p2.2.2 (by omega), bD, hqD, gc4]
  have hQ2 : zz_RD σ2 x y := ⟨rD, rW, rK, rB, rN, rC, rL, rT, rP, rX, rF, rG, rV⟩
  refine lv_pop hx hb dL_law_239 rfl ?_
  refine lv_goto (tgt := 1384) hx hb dL_law_240 (by decide) ?_
  exact kk _ _ _ hRL hQ2 hP hS
theorem gL_law_X8_dreamIs : GoodIn wsL_law (wsV RL 18 RX8 yX8_dreamIs wzX8_dreamIs) := wz_coL bm_155 (wz_coL bm_156 (wz_coL bm_157 (wz_coL bm_2 (wz_inL bm_158))))
theorem gL_law_X9_dreamIs : GoodIn wsL_law (wsV RL 22 RX9 yX9_dreamIs wzX9_dreamIs) := wz_coL bm_232 (wz_coL bm_233 (wz_coL bm_234 (wz_coL bm_5 (wz_inL bm_235))))
theorem dW_55 (x y : Nat) (hxy : x + 76 ≤ y) : ∀ a k : Nat, y ≤ a → a ≤ y + 12 → ¬ ((a) = (x) + 24 ∨ (a) = (x) + 27 ∨ ((x) + 58 ≤ (a) ∧ (a) ≤ (x) + 67)) := by intros; omega
theorem dW_56 (x y : Nat) (hxy : x + 76 ≤ y) : ∀ a k : Nat, x ≤ a → a < x + 76 → ¬ (((a) = (y) + 3 ∨ ((y) + 7 ≤ (a) ∧ (a) ≤ (y) + 11))) := by intros; omega
theorem dW_57 (x y : Nat) (hxy : x + 76 ≤ y) : ∀ a k : Nat, ((a) = (x) + 24 ∨ (a) = (x) + 27 ∨ ((x) + 58 ≤ (a) ∧ (a) ≤ (x) + 67)) → (a = (x) + 24 ∨ a = (x) + 27 ∨ ((x) + 58 ≤ a ∧ a ≤ (x) + 67)) := by intros; omega
theorem dW_58 (x y : Nat) (hxy : x + 76 ≤ y) : ∀ a k : Nat, (((a) = (y) + 3 ∨ ((y) + 7 ≤ (a) ∧ (a) ≤ (y) + 11))) → ((a = (y) + 3 ∨ ((y) + 6 ≤ a ∧ a ≤ (y) + 12))) := by intros; omega
theorem dW_59 (x y : Nat) (hxy : x + 76 ≤ y) : ∀ k : Nat, k ≤ 6 → ¬ ((((y + 1)) = (y) + 3 ∨ ((y) + 7 ≤ ((y + 1)) ∧ ((y + 1)) ≤ (y) + 11))) := by intros; omega
theorem dW_60 (x y : Nat) (hxy : x + 76 ≤ y) : ∀ k : Nat, ¬ (((x + 28)) = (x) + 24 ∨ ((x + 28)) = (x) + 27 ∨ ((x) + 58 ≤ ((x + 28)) ∧ ((x + 28)) ≤ (x) + 67)) := by intros; omega
theorem dW_61 (x y : Nat) (hxy : x + 76 ≤ y) : ¬ ((x) = (x) + 24 ∨ (x) = (x) + 27 ∨ ((x) + 58 ≤ (x) ∧ (x) ≤ (x) + 67)) := by omega
theorem dW_62 (x y : Nat) (hxy : x + 76 ≤ y) : ∀ k : Nat, ¬ ((((y + 2)) = (y) + 3 ∨ ((y) + 7 ≤ ((y + 2)) ∧ ((y + 2)) ≤ (y) + 11))) := by intros; omega
theorem dW_63 (x y : Nat) (hxy : x + 76 ≤ y) : ¬ (((y) = (y) + 3 ∨ ((y) + 7 ≤ (y) ∧ (y) ≤ (y) + 11))) := by omega
theorem dW_64 (x y : Nat) (hxy : x + 76 ≤ y) : ∀ k : Nat, ¬ (((x + 1)) = (x) + 24 ∨ ((x + 1)) = (x) + 27 ∨ ((x) + 58 ≤ ((x + 1)) ∧ ((x + 1)) ≤ (x) + 67)) := by intros; omega
theorem dW_65 (x y : Nat) (hxy : x + 76 ≤ y) : ∀ j : Nat, j < 9 → ∀ k : Nat, k < 6 → ¬ (((x + 1 + 6 + 1 * j)) = (x) + 24 ∨ ((x + 1 + 6 + 1 * j)) = (x) + 27 ∨ ((x) + 58 ≤ ((x + 1 + 6 + 1 * j)) ∧ ((x + 1 + 6 + 1 * j)) ≤ (x) + 67)) := by intros; omega
theorem dW_66 (x y : Nat) (hxy : x + 76 ≤ y) : ∀ k : Nat, 7 ≤ k → k < 61 → ¬ ((((y + 1)) = (y) + 3 ∨ ((y) + 7 ≤ ((y + 1)) ∧ ((y + 1)) ≤ (y) + 11))) := by intros; omega
theorem dW_67 (x y : Nat) (hxy : x + 76 ≤ y) : ∀ j : Nat, j < 6 → ¬ (((x + 1 + 15 + 1 * j)) = (x) + 24 ∨ ((x + 1 + 15 + 1 * j)) = (x) + 27 ∨ ((x) + 58 ≤ ((x + 1 + 15 + 1 * j)) ∧ ((x + 1 + 15 + 1 * j)) ≤ (x) + 67)) := by intros; omega
theorem dW_68 (x y : Nat) (hxy : x + 76 ≤ y) : ∀ j : Nat, j < 6 → ¬ ((((y + 1)) = (y) + 3 ∨ ((y) + 7 ≤ ((y + 1)) ∧ ((y + 1)) ≤ (y) + 11))) := by intros; omega
theorem dW_69 (x y : Nat) (hxy : x + 76 ≤ y) : ∀ j : Nat, j < 4 → ¬ (((x + 68 + 2 * j)) = (x) + 24 ∨ ((x + 68 + 2 * j)) = (x) + 27 ∨ ((x) + 58 ≤ ((x + 68 + 2 * j)) ∧ ((x + 68 + 2 * j)) ≤ (x) + 67)) := by intros; omega
theorem dW_70 (x y : Nat) (hxy : x + 76 ≤ y) : ∀ j : Nat, j < 4 → ¬ ((((y + 4)) = (y) + 3 ∨ ((y) + 7 ≤ ((y + 4)) ∧ ((y + 4)) ≤ (y) + 11))) := by intros; omega
theorem dW_71 (x y : Nat) (hxy : x + 76 ≤ y) : ∀ j : Nat, j < 4 → ¬ ((((y + 5)) = (y) + 3 ∨ ((y) + 7 ≤ ((y + 5)) ∧ ((y + 5)) ≤ (y) + 11))) := by intros; omega
theorem dW_72 (x y : Nat) (hxy : x + 76 ≤ y) : ∀ j : Nat, j < 4 → ∀ k : Nat, k < 24 → ¬ (((x + 68 + 2 * j + 1)) = (x) + 24 ∨ ((x + 68 + 2 * j + 1)) = (x) + 27 ∨ ((x) + 58 ≤ ((x + 68 + 2 * j + 1)) ∧ ((x + 68 + 2 * j + 1)) ≤ (x) + 67)) := by intros; omega
theorem dW_73 (x y : Nat) (hxy : x + 76 ≤ y) : ∀ k : Nat, k < 96 → ¬ ((((y + 6)) = (y) + 3 ∨ ((y) + 7 ≤ ((y + 6)) ∧ ((y + 6)) ≤ (y) + 11))) := by intros; omega
theorem dW_74 (x y : Nat) (hxy : x + 76 ≤ y) : ¬ (((x + 56)) = (x) + 24 ∨ ((x + 56)) = (x) + 27 ∨ ((x) + 58 ≤ ((x + 56)) ∧ ((x + 56)) ≤ (x) + 67)) := by omega
theorem dW_75 (x y : Nat) (hxy : x + 76 ≤ y) : ∀ k : Nat, ¬ (((x + 56 + 1)) = (x) + 24 ∨ ((x + 56 + 1)) = (x) + 27 ∨ ((x) + 58 ≤ ((x + 56 + 1)) ∧ ((x + 56 + 1)) ≤ (x) + 67)) := by intros; omega
theorem dW_76 (x y : Nat) (hxy : x + 76 ≤ y) : ∀ k : Nat, ¬ ((((y + 12)) = (y) + 3 ∨ ((y) + 7 ≤ ((y + 12)) ∧ ((y + 12)) ≤ (y) + 11))) := by intros; omega
theorem dW_77 (x y : Nat) (hxy : x + 76 ≤ y) : ¬ (((x + 1)) = (x) + 24 ∨ ((x + 1)) = (x) + 27 ∨ ((x) + 58 ≤ ((x + 1)) ∧ ((x + 1)) ≤ (x) + 67)) := by omega
theorem dW_78 (x y : Nat) (hxy : x + 76 ≤ y) : ∀ k : Nat, ¬ (((x + 1 + 4)) = (x) + 24 ∨ ((x + 1 + 4)) = (x) + 27 ∨ ((x) + 58 ≤ ((x + 1 + 4)) ∧ ((x + 1 + 4)) ≤ (x) + 67)) := by intros; omega
theorem dW_79 (x y : Nat) (hxy : x + 76 ≤ y) : ¬ ((((y + 1)) = (y) + 3 ∨ ((y) + 7 ≤ ((y + 1)) ∧ ((y + 1)) ≤ (y) + 11))) := by omega
theorem dW_80 (x y : Nat) (hxy : x + 76 ≤ y) : ∀ k : Nat, k < 60 → ¬ ((((y + 1)) = (y) + 3 ∨ ((y) + 7 ≤ ((y + 1)) ∧ ((y + 1)) ≤ (y) + 11))) := by intros; omega
theorem dW_81 (x y : Nat) (hxy : x + 76 ≤ y) : ∀ a : Nat, (a = x + 1 + 21 ∨ a = x + 1 + 22 ∨ a = x + 1 + 24 ∨ a = x + 1 + 25) → ∀ k : Nat, ¬ ((a) = (x) + 24 ∨ (a) = (x) + 27 ∨ ((x) + 58 ≤ (a) ∧ (a) ≤ (x) + 67)) := by intros; omega
theorem dW_82 (x y : Nat) (hxy : x + 76 ≤ y) : ∀ k : Nat, 157 ≤ k → ¬ ((((y + 1)) = (y) + 3 ∨ ((y) + 7 ≤ ((y + 1)) ∧ ((y + 1)) ≤ (y) + 11))) := by intros; omega
theorem dW_83 (x y : Nat) (hxy : x + 76 ≤ y) : ∀ k : Nat, k < 24 → ¬ (((x + 1 + 5)) = (x) + 24 ∨ ((x + 1 + 5)) = (x) + 27 ∨ ((x) + 58 ≤ ((x + 1 + 5)) ∧ ((x + 1 + 5)) ≤ (x) + 67)) := by intros; omega
theorem dW_84 (x y : Nat) (hxy : x + 76 ≤ y) : ∀ k : Nat, k < 24 → ¬ ((((y + 1)) = (y) + 3 ∨ ((y) + 7 ≤ ((y + 1)) ∧ ((y + 1)) ≤ (y) + 11))) := by intros; omega
theorem dW_85 (x y : Nat) (hxy : x + 76 ≤ y) : ∀ j : Nat, j < 9 → ∀ k : Nat, k < 6 → ¬ (((x + 28 + 6 + 1 * j)) = (x) + 24 ∨ ((x + 28 + 6 + 1 * j)) = (x) + 27 ∨ ((x) + 58 ≤ ((x + 28 + 6 + 1 * j)) ∧ ((x + 28 + 6 + 1 * j)) ≤ (x) + 67)) := by intros; omega
theorem dW_86 (x y : Nat) (hxy : x + 76 ≤ y) : ∀ k : Nat, 7 ≤ k → k < 61 → ¬ ((((y + 2)) = (y) + 3 ∨ ((y) + 7 ≤ ((y + 2)) ∧ ((y + 2)) ≤ (y) + 11))) := by intros; omega
theorem dW_87 (x y : Nat) (hxy : x + 76 ≤ y) : ∀ j : Nat, j < 6 → ¬ (((x + 28 + 15 + 1 * j)) = (x) + 24 ∨ ((x + 28 + 15 + 1 * j)) = (x) + 27 ∨ ((x) + 58 ≤ ((x + 28 + 15 + 1 * j)) ∧ ((x + 28 + 15 + 1 * j)) ≤ (x) + 67)) := by intros; omega
theorem dW_88 (x y : Nat) (hxy : x + 76 ≤ y) : ∀ j : Nat, j < 6 → ¬ ((((y + 2)) = (y) + 3 ∨ ((y) + 7 ≤ ((y + 2)) ∧ ((y + 2)) ≤ (y) + 11))) := by intros; omega
theorem dW_89 (x y : Nat) (hxy : x + 76 ≤ y) : ¬ (((x + 28)) = (x) + 24 ∨ ((x + 28)) = (x) + 27 ∨ ((x) + 58 ≤ ((x + 28)) ∧ ((x + 28)) ≤ (x) + 67)) := by omega
theorem dW_90 (x y : Nat) (hxy : x + 76 ≤ y) : ∀ k : Nat, ¬ (((x + 28 + 4)) = (x) + 24 ∨ ((x + 28 + 4)) = (x) + 27 ∨ ((x) + 58 ≤ ((x + 28 + 4)) ∧ ((x + 28 + 4)) ≤ (x) + 67)) := by intros; omega
theorem dW_91 (x y : Nat) (hxy : x + 76 ≤ y) : ¬ ((((y + 2)) = (y) + 3 ∨ ((y) + 7 ≤ ((y + 2)) ∧ ((y + 2)) ≤ (y) + 11))) := by omega
theorem dW_92 (x y : Nat) (hxy : x + 76 ≤ y) : ∀ k : Nat, k < 60 → ¬ ((((y + 2)) = (y) + 3 ∨ ((y) + 7 ≤ ((y + 2)) ∧ ((y + 2)) ≤ (y) + 11))) := by intros; omega
theorem dW_93 (x y : Nat) (hxy : x + 76 ≤ y) : ∀ a : Nat, (a = x + 28 + 21 ∨ a = x + 28 + 22 ∨ a = x + 28 + 24 ∨ a = x + 28 + 25) → ∀ k : Nat, ¬ ((a) = (x) + 24 ∨ (a) = (x) + 27 ∨ ((x) + 58 ≤ (a) ∧ (a) ≤ (x) + 67)) := by intros; omega
theorem dW_94 (x y : Nat) (hxy : x + 76 ≤ y) : ∀ k : Nat, 157 ≤ k → ¬ ((((y + 2)) = (y) + 3 ∨ ((y) + 7 ≤ ((y + 2)) ∧ ((y + 2)) ≤ (y) + 11))) := by intros; omega
theorem dW_95 (x y : Nat) (hxy : x + 76 ≤ y) : ∀ k : Nat, k < 24 → ¬ (((x + 28 + 5)) = (x) + 24 ∨ ((x + 28 + 5)) = (x) + 27 ∨ ((x) + 58 ≤ ((x + 28 + 5)) ∧ ((x + 28 + 5)) ≤ (x) + 67)) := by intros; omega
theorem dW_96 (x y : Nat) (hxy : x + 76 ≤ y) : ∀ k : Nat, k < 24 → ¬ ((((y + 2)) = (y) + 3 ∨ ((y) + 7 ≤ ((y + 2)) ∧ ((y + 2)) ≤ (y) + 11))) := by intros; omega
set_option maxHeartbeats 4000000 in
set_option maxRecDepth 100000 in
theorem lc_dreamIs {p : Program} {l : Launch} {e : Env} {s : State} {m : MethodId} {below : List Frame} {meth : Method} {c : Code} {b L x y : Nat} {xs : Nat → Int32} {E : zz_E} {Q : State → Prop} (hA : zz_LA p s m c b L xs E x y) (i : Int32) (hi : 0 ≤ i.toInt ∧ i.toInt + 6 ≤ L) (σ : zz_S) (H : Heap) (locs : List Loc) (ls : Array Slot) (hR : zz_RL σ x y) (hQ : zz_RD σ x y) (hP : zz_P E σ H) (hS : va_S (zz_A E) s.heap H locs) (hl : lv_has ls 4 [(0, .ref b), (1, .ref x), (2, .ref y), (3, .int i)])
    (kk : ∀ (σ1 : zz_S) (H1 : Heap) (locs1 : List Loc), zz_RL σ1 x y → zz_RD σ1 x y → zz_P E σ1 H1 → va_S (zz_A E) s.heap H1 locs1 → W p l e room_1 s m #[Value.ref b] below meth c H1 locs1 600000 7302250 Q (F0 m 1384 ls [])) : W p l e room_1 s m #[Value.ref b] below meth c H locs 600000 7302250 Q (F0 m 243 ls []) := by
  obtain ⟨hx, hb, hml, hown, hts, hX, hbl, hbE, hL, gL, gM, hxy, hK⟩ := hA
  have hbA : ¬ zz_A E b := fun h => absurd (hbE b h) (Nat.not_le.mpr hbl)
  have k_1 : (1 : Int32).toInt = 1 := by decide +kernel
  have k_2 : (2 : Int32).toInt = 2 := by decide +kernel
  refine lv_aload_n hx hb dL_law_243 rfl (lv_at hl 1 rfl) ?_
  refine lv_aload_n hx hb dL_law_244 rfl (lv_at hl 0 rfl) ?_
  refine lv_iload_n hx hb dL_law_245 rfl (lv_at hl 3 rfl) ?_
  refine lv_iconst (v := 1) hx hb dL_law_246 (by decide) ?_
  refine lv_iadd hx hb dL_law_247 ?_
  refine lv_topi (fun n1 e1 => ?_)
  have f1 : n1.toInt = (i).toInt + (1 : Int32).toInt := zz_addT e1 (by omega) (by omega)
  refine va_sld hx hb hX hbl hbA hS (vp_in_iff.mpr ⟨by omega, by omega⟩) dL_law_248 ?_
  refine lv_topi (fun v2 u2 => ?_)
  refine lv_aload_n hx hb dL_law_249 rfl (lv_at hl 0 rfl) ?_
  refine lv_iload_n hx hb dL_law_250 rfl (lv_at hl 3 rfl) ?_
  refine lv_iconst (v := 2) hx hb dL_law_251 (by decide) ?_
  refine lv_iadd hx hb dL_law_252 ?_
  refine lv_topi (fun n3 e3 => ?_)
  have f3 : n3.toInt = (i).toInt + (2 : Int32).toInt := zz_addT e3 (by omega) (by omega)
  refine va_sld hx hb hX hbl hbA hS (vp_in_iff.mpr ⟨by omega, by omega⟩) dL_law_253 ?_
  refine lv_topi (fun v4 u4 => ?_)
  refine zz_callVi (As := [.int v2, .int v4]) (rest := []) ⟨hx, hb, hml, hown, hts⟩ hK hP hS (c_X8_dreamIs l E σ x v2 v4 gL hR.1 (zy_KK σ x y) (zy_KX hR hQ)) (cwV 2 hts gL_law_X8_dreamIs rfl rfl rfl (by decide +kernel) ⟨Nat.le_of_ble_eq_true rfl, Nat.le_of_ble_eq_true rfl⟩) (gL.1) rfl rfl hl.1 rfl (Nat.le_of_ble_eq_true rfl) dL_law_254 ⟨Nat.le_refl _, Nat.le_refl _⟩ (fun r1 σ1 H locs q1 hP hS => ?_)
  try dsimp only at q1
  obtain ⟨w1, p1⟩ := q1
  have B : ∀ a k : Nat, y ≤ a → a ≤ y + 12 → σ1 a k = σ a k := fun a k h1 h2 => w1 a k ((dW_55 x y hxy) a k h1 h2)
  have hJ1 : zz_IM σ1 y := hR.2.1.far B
  refine lv_pop hx hb dL_law_257 rfl ?_
  refine lv_aload_n hx hb dL_law_258 rfl (lv_at hl 2 rfl) ?_
  refine lv_aload_n hx hb dL_law_259 rfl (lv_at hl 0 rfl) ?_
  refine lv_iload_n hx hb dL_law_260 rfl (lv_at hl 3 rfl) ?_
  refine lv_iconst (v := 1) hx hb dL_law_261 (by decide) ?_
  refine lv_iadd hx hb dL_law_262 ?_
  refine lv_topi (fun n6 e6 => ?_)
  have f6 : n6.toInt = (i).toInt + (1 : Int32).toInt := zz_addT e6 (by omega) (by omega)
  refine va_sld hx hb hX hbl hbA hS (vp_in_iff.mpr ⟨by omega, by omega⟩) dL_law_263 ?_
  refine lv_topi (fun v7 u7 => ?_)
  have z7 : v7 = v2 := by rw [u7, u2, e6, e1]
  have zt7 := congrArg Int32.toInt z7
  refine lv_aload_n hx hb dL_law_264 rfl (lv_at hl 0 rfl) ?_
  refine lv_iload_n hx hb dL_law_265 rfl (lv_at hl 3 rfl) ?_
  refine lv_iconst (v := 2) hx hb dL_law_266 (by decide) ?_
  refine lv_iadd hx hb dL_law_267 ?_
  refine lv_topi (fun n8 e8 => ?_)
  have f8 : n8.toInt = (i).toInt + (2 : Int32).toInt := zz_addT e8 (by omega) (by omega)
  refine va_sld hx hb hX hbl hbA hS (vp_in_iff.mpr ⟨by omega, by omega⟩) dL_law_268 ?_
  refine lv_topi (fun v9 u9 => ?_)
  have z9 : v9 = v4 := by rw [u9, u4, e8, e3]
  have zt9 := congrArg Int32.toInt z9
  refine zz_callVi (As := [.int v7, .int v9]) (rest := []) ⟨hx, hb, hml, hown, hts⟩ hK hP hS (c_X9_dreamIs l E σ1 y v7 v9 gM hJ1 (zy_KK σ x y) (zy_KY hR hQ B)) (cwV 2 hts gL_law_X9_dreamIs rfl rfl rfl (by decide +kernel) ⟨Nat.le_of_ble_eq_true rfl, Nat.le_of_ble_eq_true rfl⟩) (gM.1) rfl rfl hl.1 rfl (Nat.le_of_ble_eq_true rfl) dL_law_269 ⟨Nat.le_refl _, Nat.le_refl _⟩ (fun r2 σ2 H locs q2 hP hS => ?_)
  try dsimp only at q2
  obtain ⟨w2, p2⟩ := q2
  have A : ∀ a k : Nat, x ≤ a → a < x + 76 → σ2 a k = σ1 a k := fun a k h1 h2 => w2 a k ((dW_56 x y hxy) a k h1 h2)
  have i1 : zz_IX σ1 x := hR.1.soft (w1.mono (dW_57 x y hxy))
  have i2 : zz_IM σ2 y := hJ1.soft (w2.mono (dW_58 x y hxy))
  try simp only [z7, z9] at p2
  have hRL : zz_RL σ2 x y := hR.soft i1 i2 A B (fun k => w1 (x + 1) k ((dW_64 x y hxy) k)) (fun k hk => w2 (y + 1) k ((dW_59 x y hxy) k hk)) (fun k => w1 (x + 28) k ((dW_60 x y hxy) k)) (w1 x 2 (dW_61 x y hxy)) (fun k => w2 (y + 2) k ((dW_62 x y hxy) k)) (w2 y 2 (dW_63 x y hxy))
  obtain ⟨hqD, hqW, hqK, hqB, hqN, hqC, hqL, hqT, hqP, hqX, hqF, hqG, hqV⟩ := hQ
  obtain ⟨aD, aW, aKD, aKW, aB, aN, aC, aL, aT, aP, aX, aKP, aKX⟩ := zz_aX A
  obtain ⟨bD, bW, bKD, bKW, bB, bN, bC, bL, bT, bP, bX, bKP, bKX⟩ := zz_bM hR.2.1 B
  obtain ⟨aF, aKF, aV, aKV⟩ := zy_aX2 A
  obtain ⟨bF, bKF, bV, bKV⟩ := zy_bM2 B
  have rD : zz_DX σ2 (x + 1) = zz_DM σ2 (y + 1) := by rw [aD, zz_DXk (r := x + 1) w1 (dW_65 x y hxy), zz_DMk (a := y + 1) w2 (dW_66 x y hxy), bD, hqD]
  have rW : zz_PX 0 σ2 (x + 1) = zz_PM 0 σ2 (y + 1) := by rw [aW, zz_PXk (f := 0) (r := x + 1) w1 (dW_67 x y hxy), zz_PMk (f := 0) (a := y + 1) w2 (dW_68 x y hxy), bW, hqW]
  have rB : zz_HX 0 σ2 x = zz_HM σ2 (y + 4) := by rw [aB, zz_HX.eq (f := 0) (x := x) (fun j hj => w1 _ _ ((dW_69 x y hxy) j hj)), zz_HM.eq (a := y + 4) (fun j hj => w2 _ _ ((dW_70 x y hxy) j hj)), bB, hqB]
  have rN : zz_HX 1 σ2 x = zz_HM σ2 (y + 5) := by rw [aN, zz_HX.eq (f := 1) (x := x) (fun j hj => w1 _ _ ((dW_69 x y hxy) j hj)), zz_HM.eq (a := y + 5) (fun j hj => w2 _ _ ((dW_71 x y hxy) j hj)), bN, hqN]
  have rC : zz_CX σ2 x = zz_CM σ2 (y + 6) := by rw [aC, zz_CX.eq (x := x) (fun j hj k hk => w1 _ _ ((dW_72 x y hxy) j hj k hk)), zz_CM.eq (a := y + 6) (fun k hk => w2 _ _ ((dW_73 x y hxy) k hk)), bC, hqC]
  have rL : (σ2 (x + 56) 1).toInt = (σ2 y 18).toInt := by rw [aL, congrArg Int32.toInt (w1 (x + 56) 1 (dW_74 x y hxy)), congrArg Int32.toInt (w2 y 18 (dW_63 x y hxy)), bL, hqL]
  have rT : zz_TV σ2 (x + 56 + 1) = zz_TV σ2 (y + 12) := by rw [aT, zz_TV.eq (a := x + 56 + 1) (b := x + 56 + 1) (fun k _ => w1 _ k ((dW_75 x y hxy) k)), zz_TV.eq (a := y + 12) (b := y + 12) (fun k _ => w2 _ k ((dW_76 x y hxy) k)), bT, hqT]
  have rP : zz_Tp σ2 (x + 1 + 4) (σ2 (x + 1) 9).toInt = zz_Tm σ2 (y + 1) := by rw [aP, zz_Tp.all (a := x + 1 + 4) (b := x + 1 + 4) (congrArg Int32.toInt (w1 (x + 1) 9 (dW_77 x y hxy))) (fun k => w1 _ k ((dW_78 x y hxy) k)), zz_Tm.eq (a := y + 1) (b := y + 1) (w2 (y + 1) 5 (dW_79 x y hxy)) hJ1.1.2.2.2.2.1.2 (fun k hk => w2 (y + 1) (73 + k) ((dW_80 x y hxy) k hk)), bP, hqP]
  have rX : zz_tts (zz_XT σ2 (x + 1)) (zz_MT σ2 (y + 1)) := by rw [aX, zz_XT.all (r := x + 1) (fun a ha k => w1 a k ((dW_81 x y hxy) a ha k)), zz_MT.hi (a := y + 1) (b := y + 1) (fun k hk => w2 (y + 1) k ((dW_82 x y hxy) k hk)), bX]; exact hqX
  have rF : zz_PX 1 σ2 (x + 1) = zz_PM 1 σ2 (y + 1) := by rw [aF, zz_PXk (f := 1) (r := x + 1) w1 (dW_67 x y hxy), zz_PMk (f := 1) (a := y + 1) w2 (dW_68 x y hxy), bF, hqF]
  have rV : zy_wv σ2 (x + 1 + 5) 0 (σ2 (x + 1) 11).toInt = zy_wv σ2 (y + 1) 133 (σ2 (y + 1) 6).toInt := by rw [aV, zy_wv.eq (a := x + 1 + 5) (a1 := x + 1 + 5) (b := 0) (b1 := 0) (congrArg Int32.toInt (w1 (x + 1) 11 (dW_77 x y hxy))) (fun k hk => w1 (x + 1 + 5) (0 + k) ((dW_83 x y hxy) k hk)), zy_wv.eq (a := y + 1) (a1 := y + 1) (b := 133) (b1 := 133) (congrArg Int32.toInt (w2 (y + 1) 6 (dW_79 x y hxy))) (fun k hk => w2 (y + 1) (133 + k) ((dW_84 x y hxy) k hk)), bV, hqV]
  have rG : zy_FB (zz_PM 1 σ2 (y + 1)) := by rw [zz_PMk (f := 1) (a := y + 1) w2 (dW_68 x y hxy), bF]; exact hqG
  have rK : (σ2 x 2).toInt = 0 ∨ (zz_DX σ2 (x + 28) = zz_DM σ2 (y + 2) ∧ zz_PX 0 σ2 (x + 28) = zz_PM 0 σ2 (y + 2) ∧ zz_Tp σ2 (x + 28 + 4) (σ2 (x + 28) 9).toInt = zz_Tm σ2 (y + 2) ∧ zz_tts (zz_XT σ2 (x + 28)) (zz_MT σ2 (y + 2)) ∧ zz_PX 1 σ2 (x + 28) = zz_PM 1 σ2 (y + 2) ∧ zy_FB (zz_PM 1 σ2 (y + 2)) ∧ zy_wv σ2 (x + 28 + 5) 0 (σ2 (x + 28) 11).toInt = zy_wv σ2 (y + 2) 133 (σ2 (y + 2) 6).toInt) := hqK.elim (fun q => Or.inl ((congrArg Int32.toInt ((A x 2 (by omega) (by omega)).trans (w1 x 2 (dW_61 x y hxy)))).trans q)) (fun q => Or.inr ⟨by rw [aKD, zz_DXk (r := x + 28) w1 (dW_85 x y hxy), zz_DMk (a := y + 2) w2 (dW_86 x y hxy), bKD, q.1], by rw [aKW, zz_PXk (f := 0) (r := x + 28) w1 (dW_87 x y hxy), zz_PMk (f := 0) (a := y + 2) w2 (dW_88 x y hxy), bKW, q.2.1], by rw [aKP, zz_Tp.all (a := x + 28 + 4) (b := x + 28 + 4) (congrArg Int32.toInt (w1 (x + 28) 9 (dW_89 x y hxy))) (fun k => w1 _ k ((dW_90 x y hxy) k)), zz_Tm.eq (a := y + 2) (b := y + 2) (w2 (y + 2) 5 (dW_91 x y hxy)) hJ1.2.1.2.2.2.2.1.2 (fun k hk => w2 (y + 2) (73 + k) ((dW_92 x y hxy) k hk)), bKP, q.2.2.1], by rw [aKX, zz_XT.all (r := x + 28) (fun a ha k => w1 a k ((dW_93 x y hxy) a ha k)), zz_MT.hi (a := y + 2) (b := y + 2) (fun k hk => w2 (y + 2) k ((dW_94 x y hxy) k hk)), bKX]; exact q.2.2.2.1, by rw [aKF, zz_PXk (f := 1) (r := x + 28) w1 (dW_87 x y hxy), zz_PMk (f := 1) (a := y + 2) w2 (dW_88 x y hxy), bKF, q.2.2.2.2.1], by rw [zz_PMk (f := 1) (a := y + 2) w2 (dW_88 x y hxy), bKF]; exact q.2.2.2.2.2.1, by rw [aKV, zy_wv.eq (a := x + 28 + 5) (a1 := x + 28 + 5) (b := 0) (b1 := 0) (congrArg Int32.toInt (w1 (x + 28) 11 (dW_89 x y hxy))) (fun k hk => w1 (x + 28 + 5) (0 + k) ((dW_95 x y hxy) k hk)), zy_wv.eq (a := y + 2) (a1 := y + 2) (b := 133) (b1 := 133) (congrArg Int32.toInt (w2 (y + 2) 6 (dW_91 x y hxy))) (fun k hk => w2 (y + 2) (133 + k) ((dW_96 x y hxy) k hk)), bKV, q.2.2.2.2.2.2]⟩)
  have hQ2 : zz_RD σ2 x y := ⟨rD, rW, rK, rB, rN, rC, rL, rT, rP, rX, rF, rG, rV⟩
  refine lv_pop hx hb dL_law_272 rfl ?_
  refine lv_goto (tgt := 1384) hx hb dL_law_273 (by decide) ?_
  exact kk _ _ _ hRL hQ2 hP hS
theorem gL_law_X8_become : GoodIn wsL_law (wsV RL 23 RX8 yX8_become wzX8_become) := wz_coL bm_270 (wz_coL bm_271 (wz_coL bm_272 (wz_coL bm_2 (wz_inL bm_273))))
theorem gL_law_X9_become : GoodIn wsL_law (wsV RL 26 RX9 yX9_become wzX9_become) := wz_coL bm_274 (wz_coL bm_275 (wz_coL bm_276 (wz_coL bm_5 (wz_inL bm_277))))
theorem dW_97 (x y : Nat) (hxy : x + 76 ≤ y) : ∀ a k : Nat, y ≤ a → a ≤ y + 12 → ¬ ((a) = (x) + 24 ∨ (a) = (x) + 27 ∨ ((x) + 58 ≤ (a) ∧ (a) ≤ (x) + 67) ∨ ((x) + 7 ≤ (a) ∧ (a) < (x) + 16)) := by intros; omega
theorem dW_98 (x y : Nat) (hxy : x + 76 ≤ y) : ∀ a k : Nat, x ≤ a → a < x + 76 → ¬ (((a) = (y) + 3 ∨ ((y) + 7 ≤ (a) ∧ (a) ≤ (y) + 11)) ∨ ((a) = (y) + 1 ∧ 7 ≤ (k) ∧ (k) < 61)) := by intros; omega
theorem dW_99 (x y : Nat) (hxy : x + 76 ≤ y) : ∀ k : Nat, k ≤ 6 → ¬ ((((y + 1)) = (y) + 3 ∨ ((y) + 7 ≤ ((y + 1)) ∧ ((y + 1)) ≤ (y) + 11)) ∨ (((y + 1)) = (y) + 1 ∧ 7 ≤ (k) ∧ (k) < 61)) := by intros; omega
theorem dW_100 (x y : Nat) (hxy : x + 76 ≤ y) : ∀ k : Nat, ¬ (((x + 28)) = (x) + 24 ∨ ((x + 28)) = (x) + 27 ∨ ((x) + 58 ≤ ((x + 28)) ∧ ((x + 28)) ≤ (x) + 67) ∨ ((x) + 7 ≤ ((x + 28)) ∧ ((x + 28)) < (x) + 16)) := by intros; omega
theorem dW_101 (x y : Nat) (hxy : x + 76 ≤ y) : ¬ ((x) = (x) + 24 ∨ (x) = (x) + 27 ∨ ((x) + 58 ≤ (x) ∧ (x) ≤ (x) + 67) ∨ ((x) + 7 ≤ (x) ∧ (x) < (x) + 16)) := by omega
theorem dW_102 (x y : Nat) (hxy : x + 76 ≤ y) : ∀ k : Nat, ¬ ((((y + 2)) = (y) + 3 ∨ ((y) + 7 ≤ ((y + 2)) ∧ ((y + 2)) ≤ (y) + 11)) ∨ (((y + 2)) = (y) + 1 ∧ 7 ≤ (k) ∧ (k) < 61)) := by intros; omega
theorem dW_103 (x y : Nat) (hxy : x + 76 ≤ y) : ¬ (((y) = (y) + 3 ∨ ((y) + 7 ≤ (y) ∧ (y) ≤ (y) + 11)) ∨ ((y) = (y) + 1 ∧ 7 ≤ (2) ∧ (2) < 61)) := by omega
theorem dW_104 (x y : Nat) (hxy : x + 76 ≤ y) : ∀ k : Nat, ¬ (((x + 1)) = (x) + 24 ∨ ((x + 1)) = (x) + 27 ∨ ((x) + 58 ≤ ((x + 1)) ∧ ((x + 1)) ≤ (x) + 67) ∨ ((x) + 7 ≤ ((x + 1)) ∧ ((x + 1)) < (x) + 16)) := by intros; omega
theorem dW_105 (x y : Nat) (hxy : x + 76 ≤ y) : ∀ j : Nat, j < 6 → ¬ (((x + 1 + 15 + 1 * j)) = (x) + 24 ∨ ((x + 1 + 15 + 1 * j)) = (x) + 27 ∨ ((x) + 58 ≤ ((x + 1 + 15 + 1 * j)) ∧ ((x + 1 + 15 + 1 * j)) ≤ (x) + 67) ∨ ((x) + 7 ≤ ((x + 1 + 15 + 1 * j)) ∧ ((x + 1 + 15 + 1 * j)) < (x) + 16)) := by intros; omega
theorem dW_106 (x y : Nat) (hxy : x + 76 ≤ y) : ∀ j : Nat, j < 6 → ¬ ((((y + 1)) = (y) + 3 ∨ ((y) + 7 ≤ ((y + 1)) ∧ ((y + 1)) ≤ (y) + 11)) ∨ (((y + 1)) = (y) + 1 ∧ 7 ≤ ((61 + 2 * j + 0)) ∧ ((61 + 2 * j + 0)) < 61)) := by intros; omega
theorem dW_107 (x y : Nat) (hxy : x + 76 ≤ y) : ∀ j : Nat, j < 4 → ¬ (((x + 68 + 2 * j)) = (x) + 24 ∨ ((x + 68 + 2 * j)) = (x) + 27 ∨ ((x) + 58 ≤ ((x + 68 + 2 * j)) ∧ ((x + 68 + 2 * j)) ≤ (x) + 67) ∨ ((x) + 7 ≤ ((x + 68 + 2 * j)) ∧ ((x + 68 + 2 * j)) < (x) + 16)) := by intros; omega
theorem dW_108 (x y : Nat) (hxy : x + 76 ≤ y) : ∀ j : Nat, j < 4 → ¬ ((((y + 4)) = (y) + 3 ∨ ((y) + 7 ≤ ((y + 4)) ∧ ((y + 4)) ≤ (y) + 11)) ∨ (((y + 4)) = (y) + 1 ∧ 7 ≤ (j) ∧ (j) < 61)) := by intros; omega
theorem dW_109 (x y : Nat) (hxy : x + 76 ≤ y) : ∀ j : Nat, j < 4 → ¬ ((((y + 5)) = (y) + 3 ∨ ((y) + 7 ≤ ((y + 5)) ∧ ((y + 5)) ≤ (y) + 11)) ∨ (((y + 5)) = (y) + 1 ∧ 7 ≤ (j) ∧ (j) < 61)) := by intros; omega
theorem dW_110 (x y : Nat) (hxy : x + 76 ≤ y) : ∀ j : Nat, j < 4 → ∀ k : Nat, k < 24 → ¬ (((x + 68 + 2 * j + 1)) = (x) + 24 ∨ ((x + 68 + 2 * j + 1)) = (x) + 27 ∨ ((x) + 58 ≤ ((x + 68 + 2 * j + 1)) ∧ ((x + 68 + 2 * j + 1)) ≤ (x) + 67) ∨ ((x) + 7 ≤ ((x + 68 + 2 * j + 1)) ∧ ((x + 68 + 2 * j + 1)) < (x) + 16)) := by intros; omega
theorem dW_111 (x y : Nat) (hxy : x + 76 ≤ y) : ∀ k : Nat, k < 96 → ¬ ((((y + 6)) = (y) + 3 ∨ ((y) + 7 ≤ ((y + 6)) ∧ ((y + 6)) ≤ (y) + 11)) ∨ (((y + 6)) = (y) + 1 ∧ 7 ≤ (k) ∧ (k) < 61)) := by intros; omega
theorem dW_112 (x y : Nat) (hxy : x + 76 ≤ y) : ¬ (((x + 56)) = (x) + 24 ∨ ((x + 56)) = (x) + 27 ∨ ((x) + 58 ≤ ((x + 56)) ∧ ((x + 56)) ≤ (x) + 67) ∨ ((x) + 7 ≤ ((x + 56)) ∧ ((x + 56)) < (x) + 16)) := by omega
theorem dW_113 (x y : Nat) (hxy : x + 76 ≤ y) : ¬ (((y) = (y) + 3 ∨ ((y) + 7 ≤ (y) ∧ (y) ≤ (y) + 11)) ∨ ((y) = (y) + 1 ∧ 7 ≤ (18) ∧ (18) < 61)) := by omega
theorem dW_114 (x y : Nat) (hxy : x + 76 ≤ y) : ∀ k : Nat, ¬ (((x + 56 + 1)) = (x) + 24 ∨ ((x + 56 + 1)) = (x) + 27 ∨ ((x) + 58 ≤ ((x + 56 + 1)) ∧ ((x + 56 + 1)) ≤ (x) + 67) ∨ ((x) + 7 ≤ ((x + 56 + 1)) ∧ ((x + 56 + 1)) < (x) + 16)) := by intros; omega
theorem dW_115 (x y : Nat) (hxy : x + 76 ≤ y) : ∀ k : Nat, ¬ ((((y + 12)) = (y) + 3 ∨ ((y) + 7 ≤ ((y + 12)) ∧ ((y + 12)) ≤ (y) + 11)) ∨ (((y + 12)) = (y) + 1 ∧ 7 ≤ (k) ∧ (k) < 61)) := by intros; omega
theorem dW_116 (x y : Nat) (hxy : x + 76 ≤ y) : ¬ (((x + 1)) = (x) + 24 ∨ ((x + 1)) = (x) + 27 ∨ ((x) + 58 ≤ ((x + 1)) ∧ ((x + 1)) ≤ (x) + 67) ∨ ((x) + 7 ≤ ((x + 1)) ∧ ((x + 1)) < (x) + 16)) := by omega
theorem dW_117 (x y : Nat) (hxy : x + 76 ≤ y) : ∀ k : Nat, ¬ (((x + 1 + 4)) = (x) + 24 ∨ ((x + 1 + 4)) = (x) + 27 ∨ ((x) + 58 ≤ ((x + 1 + 4)) ∧ ((x + 1 + 4)) ≤ (x) + 67) ∨ ((x) + 7 ≤ ((x + 1 + 4)) ∧ ((x + 1 + 4)) < (x) + 16)) := by intros; omega
theorem dW_118 (x y : Nat) (hxy : x + 76 ≤ y) : ¬ ((((y + 1)) = (y) + 3 ∨ ((y) + 7 ≤ ((y + 1)) ∧ ((y + 1)) ≤ (y) + 11)) ∨ (((y + 1)) = (y) + 1 ∧ 7 ≤ (5) ∧ (5) < 61)) := by omega
theorem dW_119 (x y : Nat) (hxy : x + 76 ≤ y) : ∀ k : Nat, k < 60 → ¬ ((((y + 1)) = (y) + 3 ∨ ((y) + 7 ≤ ((y + 1)) ∧ ((y + 1)) ≤ (y) + 11)) ∨ (((y + 1)) = (y) + 1 ∧ 7 ≤ ((73 + k)) ∧ ((73 + k)) < 61)) := by intros; omega
theorem dW_120 (x y : Nat) (hxy : x + 76 ≤ y) : ∀ a : Nat, (a = x + 1 + 21 ∨ a = x + 1 + 22 ∨ a = x + 1 + 24 ∨ a = x + 1 + 25) → ∀ k : Nat, ¬ ((a) = (x) + 24 ∨ (a) = (x) + 27 ∨ ((x) + 58 ≤ (a) ∧ (a) ≤ (x) + 67) ∨ ((x) + 7 ≤ (a) ∧ (a) < (x) + 16)) := by intros; omega
theorem dW_121 (x y : Nat) (hxy : x + 76 ≤ y) : ∀ k : Nat, 157 ≤ k → ¬ ((((y + 1)) = (y) + 3 ∨ ((y) + 7 ≤ ((y + 1)) ∧ ((y + 1)) ≤ (y) + 11)) ∨ (((y + 1)) = (y) + 1 ∧ 7 ≤ (k) ∧ (k) < 61)) := by intros; omega
theorem dW_122 (x y : Nat) (hxy : x + 76 ≤ y) : ∀ j : Nat, j < 6 → ¬ ((((y + 1)) = (y) + 3 ∨ ((y) + 7 ≤ ((y + 1)) ∧ ((y + 1)) ≤ (y) + 11)) ∨ (((y + 1)) = (y) + 1 ∧ 7 ≤ ((61 + 2 * j + 1)) ∧ ((61 + 2 * j + 1)) < 61)) := by intros; omega
theorem dW_123 (x y : Nat) (hxy : x + 76 ≤ y) : ∀ k : Nat, k < 24 → ¬ (((x + 1 + 5)) = (x) + 24 ∨ ((x + 1 + 5)) = (x) + 27 ∨ ((x) + 58 ≤ ((x + 1 + 5)) ∧ ((x + 1 + 5)) ≤ (x) + 67) ∨ ((x) + 7 ≤ ((x + 1 + 5)) ∧ ((x + 1 + 5)) < (x) + 16)) := by intros; omega
theorem dW_124 (x y : Nat) (hxy : x + 76 ≤ y) : ¬ ((((y + 1)) = (y) + 3 ∨ ((y) + 7 ≤ ((y + 1)) ∧ ((y + 1)) ≤ (y) + 11)) ∨ (((y + 1)) = (y) + 1 ∧ 7 ≤ (6) ∧ (6) < 61)) := by omega
theorem dW_125 (x y : Nat) (hxy : x + 76 ≤ y) : ∀ k : Nat, k < 24 → ¬ ((((y + 1)) = (y) + 3 ∨ ((y) + 7 ≤ ((y + 1)) ∧ ((y + 1)) ≤ (y) + 11)) ∨ (((y + 1)) = (y) + 1 ∧ 7 ≤ ((133 + k)) ∧ ((133 + k)) < 61)) := by intros; omega
theorem dW_126 (x y : Nat) (hxy : x + 76 ≤ y) : ∀ j : Nat, j < 9 → ∀ k : Nat, k < 6 → ¬ (((x + 28 + 6 + 1 * j)) = (x) + 24 ∨ ((x + 28 + 6 + 1 * j)) = (x) + 27 ∨ ((x) + 58 ≤ ((x + 28 + 6 + 1 * j)) ∧ ((x + 28 + 6 + 1 * j)) ≤ (x) + 67) ∨ ((x) + 7 ≤ ((x + 28 + 6 + 1 * j)) ∧ ((x + 28 + 6 + 1 * j)) < (x) + 16)) := by intros; omega
theorem dW_127 (x y : Nat) (hxy : x + 76 ≤ y) : ∀ k : Nat, 7 ≤ k → k < 61 → ¬ ((((y + 2)) = (y) + 3 ∨ ((y) + 7 ≤ ((y + 2)) ∧ ((y + 2)) ≤ (y) + 11)) ∨ (((y + 2)) = (y) + 1 ∧ 7 ≤ (k) ∧ (k) < 61)) := by intros; omega
theorem dW_128 (x y : Nat) (hxy : x + 76 ≤ y) : ∀ j : Nat, j < 6 → ¬ (((x + 28 + 15 + 1 * j)) = (x) + 24 ∨ ((x + 28 + 15 + 1 * j)) = (x) + 27 ∨ ((x) + 58 ≤ ((x + 28 + 15 + 1 * j)) ∧ ((x + 28 + 15 + 1 * j)) ≤ (x) + 67) ∨ ((x) + 7 ≤ ((x + 28 + 15 + 1 * j)) ∧ ((x + 28 + 15 + 1 * j)) < (x) + 16)) := by intros; omega
theorem dW_129 (x y : Nat) (hxy : x + 76 ≤ y) : ∀ j : Nat, j < 6 → ¬ ((((y + 2)) = (y) + 3 ∨ ((y) + 7 ≤ ((y + 2)) ∧ ((y + 2)) ≤ (y) + 11)) ∨ (((y + 2)) = (y) + 1 ∧ 7 ≤ ((61 + 2 * j + 0)) ∧ ((61 + 2 * j + 0)) < 61)) := by intros; omega
theorem dW_130 (x y : Nat) (hxy : x + 76 ≤ y) : ¬ (((x + 28)) = (x) + 24 ∨ ((x + 28)) = (x) + 27 ∨ ((x) + 58 ≤ ((x + 28)) ∧ ((x + 28)) ≤ (x) + 67) ∨ ((x) + 7 ≤ ((x + 28)) ∧ ((x + 28)) < (x) + 16)) := by omega
theorem dW_131 (x y : Nat) (hxy : x + 76 ≤ y) : ∀ k : Nat, ¬ (((x + 28 + 4)) = (x) + 24 ∨ ((x + 28 + 4)) = (x) + 27 ∨ ((x) + 58 ≤ ((x + 28 + 4)) ∧ ((x + 28 + 4)) ≤ (x) + 67) ∨ ((x) + 7 ≤ ((x + 28 + 4)) ∧ ((x + 28 + 4)) < (x) + 16)) := by intros; omega
theorem dW_132 (x y : Nat) (hxy : x + 76 ≤ y) : ¬ ((((y + 2)) = (y) + 3 ∨ ((y) + 7 ≤ ((y + 2)) ∧ ((y + 2)) ≤ (y) + 11)) ∨ (((y + 2)) = (y) + 1 ∧ 7 ≤ (5) ∧ (5) < 61)) := by omega
theorem dW_133 (x y : Nat) (hxy : x + 76 ≤ y) : ∀ k : Nat, k < 60 → ¬ ((((y + 2)) = (y) + 3 ∨ ((y) + 7 ≤ ((y + 2)) ∧ ((y + 2)) ≤ (y) + 11)) ∨ (((y + 2)) = (y) + 1 ∧ 7 ≤ ((73 + k)) ∧ ((73 + k)) < 61)) := by intros; omega
theorem dW_134 (x y : Nat) (hxy : x + 76 ≤ y) : ∀ a : Nat, (a = x + 28 + 21 ∨ a = x + 28 + 22 ∨ a = x + 28 + 24 ∨ a = x + 28 + 25) → ∀ k : Nat, ¬ ((a) = (x) + 24 ∨ (a) = (x) + 27 ∨ ((x) + 58 ≤ (a) ∧ (a) ≤ (x) + 67) ∨ ((x) + 7 ≤ (a) ∧ (a) < (x) + 16)) := by intros; omega
theorem dW_135 (x y : Nat) (hxy : x + 76 ≤ y) : ∀ k : Nat, 157 ≤ k → ¬ ((((y + 2)) = (y) + 3 ∨ ((y) + 7 ≤ ((y + 2)) ∧ ((y + 2)) ≤ (y) + 11)) ∨ (((y + 2)) = (y) + 1 ∧ 7 ≤ (k) ∧ (k) < 61)) := by intros; omega
theorem dW_136 (x y : Nat) (hxy : x + 76 ≤ y) : ∀ j : Nat, j < 6 → ¬ ((((y + 2)) = (y) + 3 ∨ ((y) + 7 ≤ ((y + 2)) ∧ ((y + 2)) ≤ (y) + 11)) ∨ (((y + 2)) = (y) + 1 ∧ 7 ≤ ((61 + 2 * j + 1)) ∧ ((61 + 2 * j + 1)) < 61)) := by intros; omega
theorem dW_137 (x y : Nat) (hxy : x + 76 ≤ y) : ∀ k : Nat, k < 24 → ¬ (((x + 28 + 5)) = (x) + 24 ∨ ((x + 28 + 5)) = (x) + 27 ∨ ((x) + 58 ≤ ((x + 28 + 5)) ∧ ((x + 28 + 5)) ≤ (x) + 67) ∨ ((x) + 7 ≤ ((x + 28 + 5)) ∧ ((x + 28 + 5)) < (x) + 16)) := by intros; omega
theorem dW_138 (x y : Nat) (hxy : x + 76 ≤ y) : ¬ ((((y + 2)) = (y) + 3 ∨ ((y) + 7 ≤ ((y + 2)) ∧ ((y + 2)) ≤ (y) + 11)) ∨ (((y + 2)) = (y) + 1 ∧ 7 ≤ (6) ∧ (6) < 61)) := by omega
theorem dW_139 (x y : Nat) (hxy : x + 76 ≤ y) : ∀ k : Nat, k < 24 → ¬ ((((y + 2)) = (y) + 3 ∨ ((y) + 7 ≤ ((y + 2)) ∧ ((y + 2)) ≤ (y) + 11)) ∨ (((y + 2)) = (y) + 1 ∧ 7 ≤ ((133 + k)) ∧ ((133 + k)) < 61)) := by intros; omega
set_option maxHeartbeats 4000000 in
set_option maxRecDepth 100000 in
theorem lc_become {p : Program} {l : Launch} {e : Env} {s : State} {m : MethodId} {below : List Frame} {meth : Method} {c : Code} {b L x y : Nat} {xs : Nat → Int32} {E : zz_E} {Q : State → Prop} (hA : zz_LA p s m c b L xs E x y) (i : Int32) (hi : 0 ≤ i.toInt ∧ i.toInt + 6 ≤ L) (σ : zz_S) (H : Heap) (locs : List Loc) (ls : Array Slot) (hR : zz_RL σ x y) (hQ : zz_RD σ x y) (hP : zz_P E σ H) (hS : va_S (zz_A E) s.heap H locs) (hl : lv_has ls 4 [(0, .ref b), (1, .ref x), (2, .ref y), (3, .int i)])
    (kk : ∀ (σ1 : zz_S) (H1 : Heap) (locs1 : List Loc), zz_RL σ1 x y → zz_RD σ1 x y → zz_P E σ1 H1 → va_S (zz_A E) s.heap H1 locs1 → W p l e room_1 s m #[Value.ref b] below meth c H1 locs1 600000 7302250 Q (F0 m 1384 ls [])) : W p l e room_1 s m #[Value.ref b] below meth c H locs 600000 7302250 Q (F0 m 276 ls []) := by
  obtain ⟨hx, hb, hml, hown, hts, hX, hbl, hbE, hL, gL, gM, hxy, hK⟩ := hA
  have hbA : ¬ zz_A E b := fun h => absurd (hbE b h) (Nat.not_le.mpr hbl)
  have k_1 : (1 : Int32).toInt = 1 := by decide +kernel
  have k_2 : (2 : Int32).toInt = 2 := by decide +kernel
  refine lv_aload_n hx hb dL_law_276 rfl (lv_at hl 1 rfl) ?_
  refine lv_aload_n hx hb dL_law_277 rfl (lv_at hl 0 rfl) ?_
  refine lv_iload_n hx hb dL_law_278 rfl (lv_at hl 3 rfl) ?_
  refine lv_iconst (v := 1) hx hb dL_law_279 (by decide) ?_
  refine lv_iadd hx hb dL_law_280 ?_
  refine lv_topi (fun n1 e1 => ?_)
  have f1 : n1.toInt = (i).toInt + (1 : Int32).toInt := zz_addT e1 (by omega) (by omega)
  refine va_sld hx hb hX hbl hbA hS (vp_in_iff.mpr ⟨by omega, by omega⟩) dL_law_281 ?_
  refine lv_topi (fun v2 u2 => ?_)
  refine lv_aload_n hx hb dL_law_282 rfl (lv_at hl 0 rfl) ?_
  refine lv_iload_n hx hb dL_law_283 rfl (lv_at hl 3 rfl) ?_
  refine lv_iconst (v := 2) hx hb dL_law_284 (by decide) ?_
  refine lv_iadd hx hb dL_law_285 ?_
  refine lv_topi (fun n3 e3 => ?_)
  have f3 : n3.toInt = (i).toInt + (2 : Int32).toInt := zz_addT e3 (by omega) (by omega)
  refine va_sld hx hb hX hbl hbA hS (vp_in_iff.mpr ⟨by omega, by omega⟩) dL_law_286 ?_
  refine lv_topi (fun v4 u4 => ?_)
  refine zz_callVi (As := [.int v2, .int v4]) (rest := []) ⟨hx, hb, hml, hown, hts⟩ hK hP hS (c_X8_become l E σ x v2 v4 gL hR.1) (cwV 2 hts gL_law_X8_become rfl rfl rfl (by decide +kernel) ⟨Nat.le_of_ble_eq_true rfl, Nat.le_of_ble_eq_true rfl⟩) (gL.1) rfl rfl hl.1 rfl (Nat.le_of_ble_eq_true rfl) dL_law_287 ⟨Nat.le_refl _, Nat.le_refl _⟩ (fun r1 σ1 H locs q1 hP hS => ?_)
  try dsimp only at q1
  obtain ⟨w1, p1⟩ := q1
  have B : ∀ a k : Nat, y ≤ a → a ≤ y + 12 → σ1 a k = σ a k := fun a k h1 h2 => w1 a k ((dW_97 x y hxy) a k h1 h2)
  have hJ1 : zz_IM σ1 y := hR.2.1.far B
  refine lv_pop hx hb dL_law_290 rfl ?_
  refine lv_aload_n hx hb dL_law_291 rfl (lv_at hl 2 rfl) ?_
  refine lv_aload_n hx hb dL_law_292 rfl (lv_at hl 0 rfl) ?_
  refine lv_iload_n hx hb dL_law_293 rfl (lv_at hl 3 rfl) ?_
  refine lv_iconst (v := 1) hx hb dL_law_294 (by decide) ?_
  refine lv_iadd hx hb dL_law_295 ?_
  refine lv_topi (fun n6 e6 => ?_)
  have f6 : n6.toInt = (i).toInt + (1 : Int32).toInt := zz_addT e6 (by omega) (by omega)
  refine va_sld hx hb hX hbl hbA hS (vp_in_iff.mpr ⟨by omega, by omega⟩) dL_law_296 ?_
  refine lv_topi (fun v7 u7 => ?_)
  have z7 : v7 = v2 := by rw [u7, u2, e6, e1]
  have zt7 := congrArg Int32.toInt z7
  refine lv_aload_n hx hb dL_law_297 rfl (lv_at hl 0 rfl) ?_
  refine lv_iload_n hx hb dL_law_298 rfl (lv_at hl 3 rfl) ?_
  refine lv_iconst (v := 2) hx hb dL_law_299 (by decide) ?_
  refine lv_iadd hx hb dL_law_300 ?_
  refine lv_topi (fun n8 e8 => ?_)
  have f8 : n8.toInt = (i).toInt + (2 : Int32).toInt := zz_addT e8 (by omega) (by omega)
  refine va_sld hx hb hX hbl hbA hS (vp_in_iff.mpr ⟨by omega, by omega⟩) dL_law_301 ?_
  refine lv_topi (fun v9 u9 => ?_)
  have z9 : v9 = v4 := by rw [u9, u4, e8, e3]
  have zt9 := congrArg Int32.toInt z9
  refine zz_callVi (As := [.int v7, .int v9]) (rest := []) ⟨hx, hb, hml, hown, hts⟩ hK hP hS (c_X9_become l E σ1 y v7 v9 gM hJ1) (cwV 2 hts gL_law_X9_become rfl rfl rfl (by decide +kernel) ⟨Nat.le_of_ble_eq_true rfl, Nat.le_of_ble_eq_true rfl⟩) (gM.1) rfl rfl hl.1 rfl (Nat.le_of_ble_eq_true rfl) dL_law_302 ⟨Nat.le_refl _, Nat.le_refl _⟩ (fun r2 σ2 H locs q2 hP hS => ?_)
  try dsimp only at q2
  obtain ⟨w2, p2⟩ := q2
  have A : ∀ a k : Nat, x ≤ a → a < x + 76 → σ2 a k = σ1 a k := fun a k h1 h2 => w2 a k ((dW_98 x y hxy) a k h1 h2)
  obtain ⟨i1, p1⟩ := p1
  obtain ⟨i2, p2⟩ := p2
  try simp only [z7, z9] at p2
  have hRL : zz_RL σ2 x y := hR.soft i1 i2 A B (fun k => w1 (x + 1) k ((dW_104 x y hxy) k)) (fun k hk => w2 (y + 1) k ((dW_99 x y hxy) k hk)) (fun k => w1 (x + 28) k ((dW_100 x y hxy) k)) (w1 x 2 (dW_101 x y hxy)) (fun k => w2 (y + 2) k ((dW_102 x y hxy) k)) (w2 y 2 (dW_103 x y hxy))
  obtain ⟨hqD, hqW, hqK, hqB, hqN, hqC, hqL, hqT, hqP, hqX, hqF, hqG, hqV⟩ := hQ
  obtain ⟨aD, aW, aKD, aKW, aB, aN, aC, aL, aT, aP, aX, aKP, aKX⟩ := zz_aX A
  obtain ⟨bD, bW, bKD, bKW, bB, bN, bC, bL, bT, bP, bX, bKP, bKX⟩ := zz_bM hR.2.1 B
  obtain ⟨aF, aKF, aV, aKV⟩ := zy_aX2 A
  obtain ⟨bF, bKF, bV, bKV⟩ := zy_bM2 B
  have rW : zz_PX 0 σ2 (x + 1) = zz_PM 0 σ2 (y + 1) := by rw [aW, zz_PXk (f := 0) (r := x + 1) w1 (dW_105 x y hxy), zz_PMk (f := 0) (a := y + 1) w2 (dW_106 x y hxy), bW, hqW]
  have rB : zz_HX 0 σ2 x = zz_HM σ2 (y + 4) := by rw [aB, zz_HX.eq (f := 0) (x := x) (fun j hj => w1 _ _ ((dW_107 x y hxy) j hj)), zz_HM.eq (a := y + 4) (fun j hj => w2 _ _ ((dW_108 x y hxy) j hj)), bB, hqB]
  have rN : zz_HX 1 σ2 x = zz_HM σ2 (y + 5) := by rw [aN, zz_HX.eq (f := 1) (x := x) (fun j hj => w1 _ _ ((dW_107 x y hxy) j hj)), zz_HM.eq (a := y + 5) (fun j hj => w2 _ _ ((dW_109 x y hxy) j hj)), bN, hqN]
  have rC : zz_CX σ2 x = zz_CM σ2 (y + 6) := by rw [aC, zz_CX.eq (x := x) (fun j hj k hk => w1 _ _ ((dW_110 x y hxy) j hj k hk)), zz_CM.eq (a := y + 6) (fun k hk => w2 _ _ ((dW_111 x y hxy) k hk)), bC, hqC]
  have rL : (σ2 (x + 56) 1).toInt = (σ2 y 18).toInt := by rw [aL, congrArg Int32.toInt (w1 (x + 56) 1 (dW_112 x y hxy)), congrArg Int32.toInt (w2 y 18 (dW_113 x y hxy)), bL, hqL]
  have rT : zz_TV σ2 (x + 56 + 1) = zz_TV σ2 (y + 12) := by rw [aT, zz_TV.eq (a := x + 56 + 1) (b := x + 56 + 1) (fun k _ => w1 _ k ((dW_114 x y hxy) k)), zz_TV.eq (a := y + 12) (b := y + 12) (fun k _ => w2 _ k ((dW_115 x y hxy) k)), bT, hqT]
  have rP : zz_Tp σ2 (x + 1 + 4) (σ2 (x + 1) 9).toInt = zz_Tm σ2 (y + 1) := by rw [aP, zz_Tp.all (a := x + 1 + 4) (b := x + 1 + 4) (congrArg Int32.toInt (w1 (x + 1) 9 (dW_116 x y hxy))) (fun k => w1 _ k ((dW_117 x y hxy) k)), zz_Tm.eq (a := y + 1) (b := y + 1) (w2 (y + 1) 5 (dW_118 x y hxy)) hJ1.1.2.2.2.2.1.2 (fun k hk => w2 (y + 1) (73 + k) ((dW_119 x y hxy) k hk)), bP, hqP]
  have rX : zz_tts (zz_XT σ2 (x + 1)) (zz_MT σ2 (y + 1)) := by rw [aX, zz_XT.all (r := x + 1) (fun a ha k => w1 a k ((dW_120 x y hxy) a ha k)), zz_MT.hi (a := y + 1) (b := y + 1) (fun k hk => w2 (y + 1) k ((dW_121 x y hxy) k hk)), bX]; exact hqX
  have rF : zz_PX 1 σ2 (x + 1) = zz_PM 1 σ2 (y + 1) := by rw [aF, zz_PXk (f := 1) (r := x + 1) w1 (dW_105 x y hxy), zz_PMk (f := 1) (a := y + 1) w2 (dW_122 x y hxy), bF, hqF]
  have rV : zy_wv σ2 (x + 1 + 5) 0 (σ2 (x + 1) 11).toInt = zy_wv σ2 (y + 1) 133 (σ2 (y + 1) 6).toInt := by rw [aV, zy_wv.eq (a := x + 1 + 5) (a1 := x + 1 + 5) (b := 0) (b1 := 0) (congrArg Int32.toInt (w1 (x + 1) 11 (dW_116 x y hxy))) (fun k hk => w1 (x + 1 + 5) (0 + k) ((dW_123 x y hxy) k hk)), zy_wv.eq (a := y + 1) (a1 := y + 1) (b := 133) (b1 := 133) (congrArg Int32.toInt (w2 (y + 1) 6 (dW_124 x y hxy))) (fun k hk => w2 (y + 1) (133 + k) ((dW_125 x y hxy) k hk)), bV, hqV]
  have rG : zy_FB (zz_PM 1 σ2 (y + 1)) := by rw [zz_PMk (f := 1) (a := y + 1) w2 (dW_122 x y hxy), bF]; exact hqG
  have rK : (σ2 x 2).toInt = 0 ∨ (zz_DX σ2 (x + 28) = zz_DM σ2 (y + 2) ∧ zz_PX 0 σ2 (x + 28) = zz_PM 0 σ2 (y + 2) ∧ zz_Tp σ2 (x + 28 + 4) (σ2 (x + 28) 9).toInt = zz_Tm σ2 (y + 2) ∧ zz_tts (zz_XT σ2 (x + 28)) (zz_MT σ2 (y + 2)) ∧ zz_PX 1 σ2 (x + 28) = zz_PM 1 σ2 (y + 2) ∧ zy_FB (zz_PM 1 σ2 (y + 2)) ∧ zy_wv σ2 (x + 28 + 5) 0 (σ2 (x + 28) 11).toInt = zy_wv σ2 (y + 2) 133 (σ2 (y + 2) 6).toInt) := hqK.elim (fun q => Or.inl ((congrArg Int32.toInt ((A x 2 (by omega) (by omega)).trans (w1 x 2 (dW_101 x y hxy)))).trans q)) (fun q => Or.inr ⟨by rw [aKD, zz_DXk (r := x + 28) w1 (dW_126 x y hxy), zz_DMk (a := y + 2) w2 (dW_127 x y hxy), bKD, q.1], by rw [aKW, zz_PXk (f := 0) (r := x + 28) w1 (dW_128 x y hxy), zz_PMk (f := 0) (a := y + 2) w2 (dW_129 x y hxy), bKW, q.2.1], by rw [aKP, zz_Tp.all (a := x + 28 + 4) (b := x + 28 + 4) (congrArg Int32.toInt (w1 (x + 28) 9 (dW_130 x y hxy))) (fun k => w1 _ k ((dW_131 x y hxy) k)), zz_Tm.eq (a := y + 2) (b := y + 2) (w2 (y + 2) 5 (dW_132 x y hxy)) hJ1.2.1.2.2.2.2.1.2 (fun k hk => w2 (y + 2) (73 + k) ((dW_133 x y hxy) k hk)), bKP, q.2.2.1], by rw [aKX, zz_XT.all (r := x + 28) (fun a ha k => w1 a k ((dW_134 x y hxy) a ha k)), zz_MT.hi (a := y + 2) (b := y + 2) (fun k hk => w2 (y + 2) k ((dW_135 x y hxy) k hk)), bKX]; exact q.2.2.2.1, by rw [aKF, zz_PXk (f := 1) (r := x + 28) w1 (dW_128 x y hxy), zz_PMk (f := 1) (a := y + 2) w2 (dW_136 x y hxy), bKF, q.2.2.2.2.1], by rw [zz_PMk (f := 1) (a := y + 2) w2 (dW_136 x y hxy), bKF]; exact q.2.2.2.2.2.1, by rw [aKV, zy_wv.eq (a := x + 28 + 5) (a1 := x + 28 + 5) (b := 0) (b1 := 0) (congrArg Int32.toInt (w1 (x + 28) 11 (dW_130 x y hxy))) (fun k hk => w1 (x + 28 + 5) (0 + k) ((dW_137 x y hxy) k hk)), zy_wv.eq (a := y + 2) (a1 := y + 2) (b := 133) (b1 := 133) (congrArg Int32.toInt (w2 (y + 2) 6 (dW_138 x y hxy))) (fun k hk => w2 (y + 2) (133 + k) ((dW_139 x y hxy) k hk)), bKV, q.2.2.2.2.2.2]⟩)
  have gc4 : (σ (x + 1) 4).toInt = (σ1 (y + 1) 2).toInt := hR.2.2.1.2.2.2.1.trans (congrArg Int32.toInt (B (y + 1) 2 (by omega) (by omega))).symm
  have rB2 : zz_DX σ2 (x + 1) = zz_DM σ2 (y + 1) ∧ r1.toInt = r2.toInt := by
    rcases p1 with ⟨a1, a2, a3⟩ | ⟨a1, a2, a3⟩
    · rcases p2 with ⟨b1, b2, b3⟩ | ⟨b1, b2, b3⟩
      · exact ⟨by rw [aD, a3, b3, bD, hqD], by omega⟩
      · exact absurd b1 (by omega)
    · rcases p2 with ⟨b1, b2, b3⟩ | ⟨b1, b2, b3⟩
      · exact absurd a1 (by omega)
      · exact ⟨by rw [aD, a3, b3, bD, hqD], by rw [a2, b2, bD, hqD]⟩
  have rD := rB2.1
  have hQ2 : zz_RD σ2 x y := ⟨rD, rW, rK, rB, rN, rC, rL, rT, rP, rX, rF, rG, rV⟩
  refine lv_pop hx hb dL_law_305 rfl ?_
  refine lv_goto (tgt := 1384) hx hb dL_law_306 (by decide) ?_
  exact kk _ _ _ hRL hQ2 hP hS
theorem gL_law_X8_as : GoodIn wsL_law (wsV RL 27 RX8 yX8_as wzX8_as) := wz_coL bm_282 (wz_coL bm_283 (wz_coL bm_284 (wz_coL bm_2 (wz_inL bm_285))))
theorem gL_law_X9_as : GoodIn wsL_law (wsV RL 30 RX9 yX9_as wzX9_as) := wz_coL bm_293 (wz_coL bm_294 (wz_coL bm_295 (wz_coL bm_5 (wz_inL bm_296))))
set_option maxHeartbeats 4000000 in
set_option maxRecDepth 100000 in
theorem lc_as {p : Program} {l : Launch} {e : Env} {s : State} {m : MethodId} {below : List Frame} {meth : Method} {c : Code} {b L x y : Nat} {xs : Nat → Int32} {E : zz_E} {Q : State → Prop} (hA : zz_LA p s m c b L xs E x y) (i : Int32) (hi : 0 ≤ i.toInt ∧ i.toInt + 6 ≤ L) (σ : zz_S) (H : Heap) (locs : List Loc) (ls : Array Slot) (hR : zz_RL σ x y) (hQ : zz_RD σ x y) (hP : zz_P E σ H) (hS : va_S (zz_A E) s.heap H locs) (hl : lv_has ls 4 [(0, .ref b), (1, .ref x), (2, .ref y), (3, .int i)])
    (kk : ∀ (σ1 : zz_S) (H1 : Heap) (locs1 : List Loc), zz_RL σ1 x y → zz_RD σ1 x y → zz_P E σ1 H1 → va_S (zz_A E) s.heap H1 locs1 → W p l e room_1 s m #[Value.ref b] below meth c H1 locs1 600000 7302250 Q (F0 m 1384 ls [])) : W p l e room_1 s m #[Value.ref b] below meth c H locs 600000 7302250 Q (F0 m 309 ls []) := by
  obtain ⟨hx, hb, hml, hown, hts, hX, hbl, hbE, hL, gL, gM, hxy, hK⟩ := hA
  have hbA : ¬ zz_A E b := fun h => absurd (hbE b h) (Nat.not_le.mpr hbl)
  have k_1 : (1 : Int32).toInt = 1 := by decide +kernel
  have k_2 : (2 : Int32).toInt = 2 := by decide +kernel
  refine lv_aload_n hx hb dL_law_309 rfl (lv_at hl 1 rfl) ?_
  refine lv_aload_n hx hb dL_law_310 rfl (lv_at hl 0 rfl) ?_
  refine lv_iload_n hx hb dL_law_311 rfl (lv_at hl 3 rfl) ?_
  refine lv_iconst (v := 1) hx hb dL_law_312 (by decide) ?_
  refine lv_iadd hx hb dL_law_313 ?_
  refine lv_topi (fun n1 e1 => ?_)
  have f1 : n1.toInt = (i).toInt + (1 : Int32).toInt := zz_addT e1 (by omega) (by omega)
  refine va_sld hx hb hX hbl hbA hS (vp_in_iff.mpr ⟨by omega, by omega⟩) dL_law_314 ?_
  refine lv_topi (fun v2 u2 => ?_)
  refine lv_aload_n hx hb dL_law_315 rfl (lv_at hl 0 rfl) ?_
  refine lv_iload_n hx hb dL_law_316 rfl (lv_at hl 3 rfl) ?_
  refine lv_iconst (v := 2) hx hb dL_law_317 (by decide) ?_
  refine lv_iadd hx hb dL_law_318 ?_
  refine lv_topi (fun n3 e3 => ?_)
  have f3 : n3.toInt = (i).toInt + (2 : Int32).toInt := zz_addT e3 (by omega) (by omega)
  refine va_sld hx hb hX hbl hbA hS (vp_in_iff.mpr ⟨by omega, by omega⟩) dL_law_319 ?_
  refine lv_topi (fun v4 u4 => ?_)
  refine zz_callVi (As := [.int v2, .int v4]) (rest := []) ⟨hx, hb, hml, hown, hts⟩ hK hP hS (c_X8_as l E σ x v2 v4 gL hR.1) (cwV 2 hts gL_law_X8_as rfl rfl rfl (by decide +kernel) ⟨Nat.le_of_ble_eq_true rfl, Nat.le_of_ble_eq_true rfl⟩) (gL.1) rfl rfl hl.1 rfl (Nat.le_of_ble_eq_true rfl) dL_law_320 ⟨Nat.le_refl _, Nat.le_refl _⟩ (fun r1 σ1 H locs q1 hP hS => ?_)
  try dsimp only at q1
  obtain ⟨w1, p1⟩ := q1
  have B : ∀ a k : Nat, y ≤ a → a ≤ y + 12 → σ1 a k = σ a k := fun a k h1 h2 => w1 a k ((dW_55 x y hxy) a k h1 h2)
  have hJ1 : zz_IM σ1 y := hR.2.1.far B
  refine lv_pop hx hb dL_law_323 rfl ?_
  refine lv_aload_n hx hb dL_law_324 rfl (lv_at hl 2 rfl) ?_
  refine lv_aload_n hx hb dL_law_325 rfl (lv_at hl 0 rfl) ?_
  refine lv_iload_n hx hb dL_law_326 rfl (lv_at hl 3 rfl) ?_
  refine lv_iconst (v := 1) hx hb dL_law_327 (by decide) ?_
  refine lv_iadd hx hb dL_law_328 ?_
  refine lv_topi (fun n6 e6 => ?_)
  have f6 : n6.toInt = (i).toInt + (1 : Int32).toInt := zz_addT e6 (by omega) (by omega)
  refine va_sld hx hb hX hbl hbA hS (vp_in_iff.mpr ⟨by omega, by omega⟩) dL_law_329 ?_
  refine lv_topi (fun v7 u7 => ?_)
  have z7 : v7 = v2 := by rw [u7, u2, e6, e1]
  have zt7 := congrArg Int32.toInt z7
  refine lv_aload_n hx hb dL_law_330 rfl (lv_at hl 0 rfl) ?_
  refine lv_iload_n hx hb dL_law_331 rfl (lv_at hl 3 rfl) ?_
  refine lv_iconst (v := 2) hx hb dL_law_332 (by decide) ?_
  refine lv_iadd hx hb dL_law_333 ?_
  refine lv_topi (fun n8 e8 => ?_)
  have f8 : n8.toInt = (i).toInt + (2 : Int32).toInt := zz_addT e8 (by omega) (by omega)
  refine va_sld hx hb hX hbl hbA hS (vp_in_iff.mpr ⟨by omega, by omega⟩) dL_law_334 ?_
  refine lv_topi (fun v9 u9 => ?_)
  have z9 : v9 = v4 := by rw [u9, u4, e8, e3]
  have zt9 := congrArg Int32.toInt z9
  refine zz_callVi (As := [.int v7, .int v9]) (rest := []) ⟨hx, hb, hml, hown, hts⟩ hK hP hS (c_X9_as l E σ1 y v7 v9 gM hJ1) (cwV 2 hts gL_law_X9_as rfl rfl rfl (by decide +kernel) ⟨Nat.le_of_ble_eq_true rfl, Nat.le_of_ble_eq_true rfl⟩) (gM.1) rfl rfl hl.1 rfl (Nat.le_of_ble_eq_true rfl) dL_law_335 ⟨Nat.le_refl _, Nat.le_refl _⟩ (fun r2 σ2 H locs q2 hP hS => ?_)
  try dsimp only at q2
  obtain ⟨w2, p2⟩ := q2
  have A : ∀ a k : Nat, x ≤ a → a < x + 76 → σ2 a k = σ1 a k := fun a k h1 h2 => w2 a k ((dW_56 x y hxy) a k h1 h2)
  have i1 : zz_IX σ1 x := hR.1.soft (w1.mono (dW_57 x y hxy))
  have i2 : zz_IM σ2 y := hJ1.soft (w2.mono (dW_58 x y hxy))
  try simp only [z7, z9] at p2
  have hRL : zz_RL σ2 x y := hR.soft i1 i2 A B (fun k => w1 (x + 1) k ((dW_64 x y hxy) k)) (fun k hk => w2 (y + 1) k ((dW_59 x y hxy) k hk)) (fun k => w1 (x + 28) k ((dW_60 x y hxy) k)) (w1 x 2 (dW_61 x y hxy)) (fun k => w2 (y + 2) k ((dW_62 x y hxy) k)) (w2 y 2 (dW_63 x y hxy))
  obtain ⟨hqD, hqW, hqK, hqB, hqN, hqC, hqL, hqT, hqP, hqX, hqF, hqG, hqV⟩ := hQ
  obtain ⟨aD, aW, aKD, aKW, aB, aN, aC, aL, aT, aP, aX, aKP, aKX⟩ := zz_aX A
  obtain ⟨bD, bW, bKD, bKW, bB, bN, bC, bL, bT, bP, bX, bKP, bKX⟩ := zz_bM hR.2.1 B
  obtain ⟨aF, aKF, aV, aKV⟩ := zy_aX2 A
  obtain ⟨bF, bKF, bV, bKV⟩ := zy_bM2 B
  have rD : zz_DX σ2 (x + 1) = zz_DM σ2 (y + 1) := by rw [aD, zz_DXk (r := x + 1) w1 (dW_65 x y hxy), zz_DMk (a := y + 1) w2 (dW_66 x y hxy), bD, hqD]
  have rW : zz_PX 0 σ2 (x + 1) = zz_PM 0 σ2 (y + 1) := by rw [aW, zz_PXk (f := 0) (r := x + 1) w1 (dW_67 x y hxy), zz_PMk (f := 0) (a := y + 1) w2 (dW_68 x y hxy), bW, hqW]
  have rB : zz_HX 0 σ2 x = zz_HM σ2 (y + 4) := by rw [aB, zz_HX.eq (f := 0) (x := x) (fun j hj => w1 _ _ ((dW_69 x y hxy) j hj)), zz_HM.eq (a := y + 4) (fun j hj => w2 _ _ ((dW_70 x y hxy) j hj)), bB, hqB]
  have rN : zz_HX 1 σ2 x = zz_HM σ2 (y + 5) := by rw [aN, zz_HX.eq (f := 1) (x := x) (fun j hj => w1 _ _ ((dW_69 x y hxy) j hj)), zz_HM.eq (a := y + 5) (fun j hj => w2 _ _ ((dW_71 x y hxy) j hj)), bN, hqN]
  have rC : zz_CX σ2 x = zz_CM σ2 (y + 6) := by rw [aC, zz_CX.eq (x := x) (fun j hj k hk => w1 _ _ ((dW_72 x y hxy) j hj k hk)), zz_CM.eq (a := y + 6) (fun k hk => w2 _ _ ((dW_73 x y hxy) k hk)), bC, hqC]
  have rL : (σ2 (x + 56) 1).toInt = (σ2 y 18).toInt := by rw [aL, congrArg Int32.toInt (w1 (x + 56) 1 (dW_74 x y hxy)), congrArg Int32.toInt (w2 y 18 (dW_63 x y hxy)), bL, hqL]
  have rT : zz_TV σ2 (x + 56 + 1) = zz_TV σ2 (y + 12) := by rw [aT, zz_TV.eq (a := x + 56 + 1) (b := x + 56 + 1) (fun k _ => w1 _ k ((dW_75 x y hxy) k)), zz_TV.eq (a := y + 12) (b := y + 12) (fun k _ => w2 _ k ((dW_76 x y hxy) k)), bT, hqT]
  have rP : zz_Tp σ2 (x + 1 + 4) (σ2 (x + 1) 9).toInt = zz_Tm σ2 (y + 1) := by rw [aP, zz_Tp.all (a := x + 1 + 4) (b := x + 1 + 4) (congrArg Int32.toInt (w1 (x + 1) 9 (dW_77 x y hxy))) (fun k => w1 _ k ((dW_78 x y hxy) k)), zz_Tm.eq (a := y + 1) (b := y + 1) (w2 (y + 1) 5 (dW_79 x y hxy)) hJ1.1.2.2.2.2.1.2 (fun k hk => w2 (y + 1) (73 + k) ((dW_80 x y hxy) k hk)), bP, hqP]
  have rX : zz_tts (zz_XT σ2 (x + 1)) (zz_MT σ2 (y + 1)) := by rw [aX, zz_XT.all (r := x + 1) (fun a ha k => w1 a k ((dW_81 x y hxy) a ha k)), zz_MT.hi (a := y + 1) (b := y + 1) (fun k hk => w2 (y + 1) k ((dW_82 x y hxy) k hk)), bX]; exact hqX
  have rF : zz_PX 1 σ2 (x + 1) = zz_PM 1 σ2 (y + 1) := by rw [aF, zz_PXk (f := 1) (r := x + 1) w1 (dW_67 x y hxy), zz_PMk (f := 1) (a := y + 1) w2 (dW_68 x y hxy), bF, hqF]
  have rV : zy_wv σ2 (x + 1 + 5) 0 (σ2 (x + 1) 11).toInt = zy_wv σ2 (y + 1) 133 (σ2 (y + 1) 6).toInt := by rw [aV, zy_wv.eq (a := x + 1 + 5) (a1 := x + 1 + 5) (b := 0) (b1 := 0) (congrArg Int32.toInt (w1 (x + 1) 11 (dW_77 x y hxy))) (fun k hk => w1 (x + 1 + 5) (0 + k) ((dW_83 x y hxy) k hk)), zy_wv.eq (a := y + 1) (a1 := y + 1) (b := 133) (b1 := 133) (congrArg Int32.toInt (w2 (y + 1) 6 (dW_79 x y hxy))) (fun k hk => w2 (y + 1) (133 + k) ((dW_84 x y hxy) k hk)), bV, hqV]
  have rG : zy_FB (zz_PM 1 σ2 (y + 1)) := by rw [zz_PMk (f := 1) (a := y + 1) w2 (dW_68 x y hxy), bF]; exact hqG
  have rK : (σ2 x 2).toInt = 0 ∨ (zz_DX σ2 (x + 28) = zz_DM σ2 (y + 2) ∧ zz_PX 0 σ2 (x + 28) = zz_PM 0 σ2 (y + 2) ∧ zz_Tp σ2 (x + 28 + 4) (σ2 (x + 28) 9).toInt = zz_Tm σ2 (y + 2) ∧ zz_tts (zz_XT σ2 (x + 28)) (zz_MT σ2 (y + 2)) ∧ zz_PX 1 σ2 (x + 28) = zz_PM 1 σ2 (y + 2) ∧ zy_FB (zz_PM 1 σ2 (y + 2)) ∧ zy_wv σ2 (x + 28 + 5) 0 (σ2 (x + 28) 11).toInt = zy_wv σ2 (y + 2) 133 (σ2 (y + 2) 6).toInt) := hqK.elim (fun q => Or.inl ((congrArg Int32.toInt ((A x 2 (by omega) (by omega)).trans (w1 x 2 (dW_61 x y hxy)))).trans q)) (fun q => Or.inr ⟨by rw [aKD, zz_DXk (r := x + 28) w1 (dW_85 x y hxy), zz_DMk (a := y + 2) w2 (dW_86 x y hxy), bKD, q.1], by rw [aKW, zz_PXk (f := 0) (r := x + 28) w1 (dW_87 x y hxy), zz_PMk (f := 0) (a := y + 2) w2 (dW_88 x y hxy), bKW, q.2.1], by rw [aKP, zz_Tp.all (a := x + 28 + 4) (b := x + 28 + 4) (congrArg Int32.toInt (w1 (x + 28) 9 (dW_89 x y hxy))) (fun k => w1 _ k ((dW_90 x y hxy) k)), zz_Tm.eq (a := y + 2) (b := y + 2) (w2 (y + 2) 5 (dW_91 x y hxy)) hJ1.2.1.2.2.2.2.1.2 (fun k hk => w2 (y + 2) (73 + k) ((dW_92 x y hxy) k hk)), bKP, q.2.2.1], by rw [aKX, zz_XT.all (r := x + 28) (fun a ha k => w1 a k ((dW_93 x y hxy) a ha k)), zz_MT.hi (a := y + 2) (b := y + 2) (fun k hk => w2 (y + 2) k ((dW_94 x y hxy) k hk)), bKX]; exact q.2.2.2.1, by rw [aKF, zz_PXk (f := 1) (r := x + 28) w1 (dW_87 x y hxy), zz_PMk (f := 1) (a := y + 2) w2 (dW_88 x y hxy), bKF, q.2.2.2.2.1], by rw [zz_PMk (f := 1) (a := y + 2) w2 (dW_88 x y hxy), bKF]; exact q.2.2.2.2.2.1, by rw [aKV, zy_wv.eq (a := x + 28 + 5) (a1 := x + 28 + 5) (b := 0) (b1 := 0) (congrArg Int32.toInt (w1 (x + 28) 11 (dW_89 x y hxy))) (fun k hk => w1 (x + 28 + 5) (0 + k) ((dW_95 x y hxy) k hk)), zy_wv.eq (a := y + 2) (a1 := y + 2) (b := 133) (b1 := 133) (congrArg Int32.toInt (w2 (y + 2) 6 (dW_91 x y hxy))) (fun k hk => w2 (y + 2) (133 + k) ((dW_96 x y hxy) k hk)), bKV, q.2.2.2.2.2.2]⟩)
  have hQ2 : zz_RD σ2 x y := ⟨rD, rW, rK, rB, rN, rC, rL, rT, rP, rX, rF, rG, rV⟩
  refine lv_pop hx hb dL_law_338 rfl ?_
  refine lv_goto (tgt := 1384) hx hb dL_law_339 (by decide) ?_
  exact kk _ _ _ hRL hQ2 hP hS
theorem gL_law_X8_forgets : GoodIn wsL_law (wsV RL 31 RX8 yX8_forgets wzX8_forgets) := wz_coL bm_298 (wz_coL bm_299 (wz_coL bm_300 (wz_coL bm_2 (wz_inL bm_301))))
theorem gL_law_X9_forgets : GoodIn wsL_law (wsV RL 34 RX9 yX9_forgets wzX9_forgets) := wz_coL bm_302 (wz_coL bm_303 (wz_coL bm_304 (wz_coL bm_5 (wz_inL bm_305))))
set_option maxHeartbeats 4000000 in
set_option maxRecDepth 100000 in
theorem lc_forgets {p : Program} {l : Launch} {e : Env} {s : State} {m : MethodId} {below : List Frame} {meth : Method} {c : Code} {b L x y : Nat} {xs : Nat → Int32} {E : zz_E} {Q : State → Prop} (hA : zz_LA p s m c b L xs E x y) (i : Int32) (hi : 0 ≤ i.toInt ∧ i.toInt + 6 ≤ L) (σ : zz_S) (H : Heap) (locs : List Loc) (ls : Array Slot) (hR : zz_RL σ x y) (hQ : zz_RD σ x y) (hP : zz_P E σ H) (hS : va_S (zz_A E) s.heap H locs) (hl : lv_has ls 4 [(0, .ref b), (1, .ref x), (2, .ref y), (3, .int i)])
    (kk : ∀ (σ1 : zz_S) (H1 : Heap) (locs1 : List Loc), zz_RL σ1 x y → zz_RD σ1 x y → zz_P E σ1 H1 → va_S (zz_A E) s.heap H1 locs1 → W p l e room_1 s m #[Value.ref b] below meth c H1 locs1 600000 7302250 Q (F0 m 1384 ls [])) : W p l e room_1 s m #[Value.ref b] below meth c H locs 600000 7302250 Q (F0 m 342 ls []) := by
  obtain ⟨hx, hb, hml, hown, hts, hX, hbl, hbE, hL, gL, gM, hxy, hK⟩ := hA
  have hbA : ¬ zz_A E b := fun h => absurd (hbE b h) (Nat.not_le.mpr hbl)
  have k_1 : (1 : Int32).toInt = 1 := by decide +kernel
  have k_2 : (2 : Int32).toInt = 2 := by decide +kernel
  refine lv_aload_n hx hb dL_law_342 rfl (lv_at hl 1 rfl) ?_
  refine lv_aload_n hx hb dL_law_343 rfl (lv_at hl 0 rfl) ?_
  refine lv_iload_n hx hb dL_law_344 rfl (lv_at hl 3 rfl) ?_
  refine lv_iconst (v := 1) hx hb dL_law_345 (by decide) ?_
  refine lv_iadd hx hb dL_law_346 ?_
  refine lv_topi (fun n1 e1 => ?_)
  have f1 : n1.toInt = (i).toInt + (1 : Int32).toInt := zz_addT e1 (by omega) (by omega)
  refine va_sld hx hb hX hbl hbA hS (vp_in_iff.mpr ⟨by omega, by omega⟩) dL_law_347 ?_
  refine lv_topi (fun v2 u2 => ?_)
  refine lv_aload_n hx hb dL_law_348 rfl (lv_at hl 0 rfl) ?_
  refine lv_iload_n hx hb dL_law_349 rfl (lv_at hl 3 rfl) ?_
  refine lv_iconst (v := 2) hx hb dL_law_350 (by decide) ?_
  refine lv_iadd hx hb dL_law_351 ?_
  refine lv_topi (fun n3 e3 => ?_)
  have f3 : n3.toInt = (i).toInt + (2 : Int32).toInt := zz_addT e3 (by omega) (by omega)
  refine va_sld hx hb hX hbl hbA hS (vp_in_iff.mpr ⟨by omega, by omega⟩) dL_law_352 ?_
  refine lv_topi (fun v4 u4 => ?_)
  refine zz_callVi (As := [.int v2, .int v4]) (rest := []) ⟨hx, hb, hml, hown, hts⟩ hK hP hS (c_X8_forgets l E σ x v2 v4 gL hR.1) (cwV 2 hts gL_law_X8_forgets rfl rfl rfl (by decide +kernel) ⟨Nat.le_of_ble_eq_true rfl, Nat.le_of_ble_eq_true rfl⟩) (gL.1) rfl rfl hl.1 rfl (Nat.le_of_ble_eq_true rfl) dL_law_353 ⟨Nat.le_refl _, Nat.le_refl _⟩ (fun r1 σ1 H locs q1 hP hS => ?_)
  try dsimp only at q1
  obtain ⟨w1, p1⟩ := q1
  have B : ∀ a k : Nat, y ≤ a → a ≤ y + 12 → σ1 a k = σ a k := fun a k h1 h2 => w1 a k ((dW_97 x y hxy) a k h1 h2)
  have hJ1 : zz_IM σ1 y := hR.2.1.far B
  refine lv_pop hx hb dL_law_356 rfl ?_
  refine lv_aload_n hx hb dL_law_357 rfl (lv_at hl 2 rfl) ?_
  refine lv_aload_n hx hb dL_law_358 rfl (lv_at hl 0 rfl) ?_
  refine lv_iload_n hx hb dL_law_359 rfl (lv_at hl 3 rfl) ?_
  refine lv_iconst (v := 1) hx hb dL_law_360 (by decide) ?_
  refine lv_iadd hx hb dL_law_361 ?_
  refine lv_topi (fun n6 e6 => ?_)
  have f6 : n6.toInt = (i).toInt + (1 : Int32).toInt := zz_addT e6 (by omega) (by omega)
  refine va_sld hx hb hX hbl hbA hS (vp_in_iff.mpr ⟨by omega, by omega⟩) dL_law_362 ?_
  refine lv_topi (fun v7 u7 => ?_)
  have z7 : v7 = v2 := by rw [u7, u2, e6, e1]
  have zt7 := congrArg Int32.toInt z7
  refine lv_aload_n hx hb dL_law_363 rfl (lv_at hl 0 rfl) ?_
  refine lv_iload_n hx hb dL_law_364 rfl (lv_at hl 3 rfl) ?_
  refine lv_iconst (v := 2) hx hb dL_law_365 (by decide) ?_
  refine lv_iadd hx hb dL_law_366 ?_
  refine lv_topi (fun n8 e8 => ?_)
  have f8 : n8.toInt = (i).toInt + (2 : Int32).toInt := zz_addT e8 (by omega) (by omega)
  refine va_sld hx hb hX hbl hbA hS (vp_in_iff.mpr ⟨by omega, by omega⟩) dL_law_367 ?_
  refine lv_topi (fun v9 u9 => ?_)
  have z9 : v9 = v4 := by rw [u9, u4, e8, e3]
  have zt9 := congrArg Int32.toInt z9
  refine zz_callVi (As := [.int v7, .int v9]) (rest := []) ⟨hx, hb, hml, hown, hts⟩ hK hP hS (c_X9_forgets l E σ1 y v7 v9 gM hJ1) (cwV 2 hts gL_law_X9_forgets rfl rfl rfl (by decide +kernel) ⟨Nat.le_of_ble_eq_true rfl, Nat.le_of_ble_eq_true rfl⟩) (gM.1) rfl rfl hl.1 rfl (Nat.le_of_ble_eq_true rfl) dL_law_368 ⟨Nat.le_refl _, Nat.le_refl _⟩ (fun r2 σ2 H locs q2 hP hS => ?_)
  try dsimp only at q2
  obtain ⟨w2, p2⟩ := q2
  have A : ∀ a k : Nat, x ≤ a → a < x + 76 → σ2 a k = σ1 a k := fun a k h1 h2 => w2 a k ((dW_98 x y hxy) a k h1 h2)
  obtain ⟨i1, p1⟩ := p1
  obtain ⟨i2, p2⟩ := p2
  try simp only [z7, z9] at p2
  have hRL : zz_RL σ2 x y := hR.soft i1 i2 A B (fun k => w1 (x + 1) k ((dW_104 x y hxy) k)) (fun k hk => w2 (y + 1) k ((dW_99 x y hxy) k hk)) (fun k => w1 (x + 28) k ((dW_100 x y hxy) k)) (w1 x 2 (dW_101 x y hxy)) (fun k => w2 (y + 2) k ((dW_102 x y hxy) k)) (w2 y 2 (dW_103 x y hxy))
  obtain ⟨hqD, hqW, hqK, hqB, hqN, hqC, hqL, hqT, hqP, hqX, hqF, hqG, hqV⟩ := hQ
  obtain ⟨aD, aW, aKD, aKW, aB, aN, aC, aL, aT, aP, aX, aKP, aKX⟩ := zz_aX A
  obtain ⟨bD, bW, bKD, bKW, bB, bN, bC, bL, bT, bP, bX, bKP, bKX⟩ := zz_bM hR.2.1 B
  obtain ⟨aF, aKF, aV, aKV⟩ := zy_aX2 A
  obtain ⟨bF, bKF, bV, bKV⟩ := zy_bM2 B
  have rW : zz_PX 0 σ2 (x + 1) = zz_PM 0 σ2 (y + 1) := by rw [aW, zz_PXk (f := 0) (r := x + 1) w1 (dW_105 x y hxy), zz_PMk (f := 0) (a := y + 1) w2 (dW_106 x y hxy), bW, hqW]
  have rB : zz_HX 0 σ2 x = zz_HM σ2 (y + 4) := by rw [aB, zz_HX.eq (f := 0) (x := x) (fun j hj => w1 _ _ ((dW_107 x y hxy) j hj)), zz_HM.eq (a := y + 4) (fun j hj => w2 _ _ ((dW_108 x y hxy) j hj)), bB, hqB]
  have rN : zz_HX 1 σ2 x = zz_HM σ2 (y + 5) := by rw [aN, zz_HX.eq (f := 1) (x := x) (fun j hj => w1 _ _ ((dW_107 x y hxy) j hj)), zz_HM.eq (a := y + 5) (fun j hj => w2 _ _ ((dW_109 x y hxy) j hj)), bN, hqN]
  have rC : zz_CX σ2 x = zz_CM σ2 (y + 6) := by rw [aC, zz_CX.eq (x := x) (fun j hj k hk => w1 _ _ ((dW_110 x y hxy) j hj k hk)), zz_CM.eq (a := y + 6) (fun k hk => w2 _ _ ((dW_111 x y hxy) k hk)), bC, hqC]
  have rL : (σ2 (x + 56) 1).toInt = (σ2 y 18).toInt := by rw [aL, congrArg Int32.toInt (w1 (x + 56) 1 (dW_112 x y hxy)), congrArg Int32.toInt (w2 y 18 (dW_113 x y hxy)), bL, hqL]
  have rT : zz_TV σ2 (x + 56 + 1) = zz_TV σ2 (y + 12) := by rw [aT, zz_TV.eq (a := x + 56 + 1) (b := x + 56 + 1) (fun k _ => w1 _ k ((dW_114 x y hxy) k)), zz_TV.eq (a := y + 12) (b := y + 12) (fun k _ => w2 _ k ((dW_115 x y hxy) k)), bT, hqT]
  have rP : zz_Tp σ2 (x + 1 + 4) (σ2 (x + 1) 9).toInt = zz_Tm σ2 (y + 1) := by rw [aP, zz_Tp.all (a := x + 1 + 4) (b := x + 1 + 4) (congrArg Int32.toInt (w1 (x + 1) 9 (dW_116 x y hxy))) (fun k => w1 _ k ((dW_117 x y hxy) k)), zz_Tm.eq (a := y + 1) (b := y + 1) (w2 (y + 1) 5 (dW_118 x y hxy)) hJ1.1.2.2.2.2.1.2 (fun k hk => w2 (y + 1) (73 + k) ((dW_119 x y hxy) k hk)), bP, hqP]
  have rX : zz_tts (zz_XT σ2 (x + 1)) (zz_MT σ2 (y + 1)) := by rw [aX, zz_XT.all (r := x + 1) (fun a ha k => w1 a k ((dW_120 x y hxy) a ha k)), zz_MT.hi (a := y + 1) (b := y + 1) (fun k hk => w2 (y + 1) k ((dW_121 x y hxy) k hk)), bX]; exact hqX
  have rF : zz_PX 1 σ2 (x + 1) = zz_PM 1 σ2 (y + 1) := by rw [aF, zz_PXk (f := 1) (r := x + 1) w1 (dW_105 x y hxy), zz_PMk (f := 1) (a := y + 1) w2 (dW_122 x y hxy), bF, hqF]
  have rV : zy_wv σ2 (x + 1 + 5) 0 (σ2 (x + 1) 11).toInt = zy_wv σ2 (y + 1) 133 (σ2 (y + 1) 6).toInt := by rw [aV, zy_wv.eq (a := x + 1 + 5) (a1 := x + 1 + 5) (b := 0) (b1 := 0) (congrArg Int32.toInt (w1 (x + 1) 11 (dW_116 x y hxy))) (fun k hk => w1 (x + 1 + 5) (0 + k) ((dW_123 x y hxy) k hk)), zy_wv.eq (a := y + 1) (a1 := y + 1) (b := 133) (b1 := 133) (congrArg Int32.toInt (w2 (y + 1) 6 (dW_124 x y hxy))) (fun k hk => w2 (y + 1) (133 + k) ((dW_125 x y hxy) k hk)), bV, hqV]
  have rG : zy_FB (zz_PM 1 σ2 (y + 1)) := by rw [zz_PMk (f := 1) (a := y + 1) w2 (dW_122 x y hxy), bF]; exact hqG
  have rK : (σ2 x 2).toInt = 0 ∨ (zz_DX σ2 (x + 28) = zz_DM σ2 (y + 2) ∧ zz_PX 0 σ2 (x + 28) = zz_PM 0 σ2 (y + 2) ∧ zz_Tp σ2 (x + 28 + 4) (σ2 (x + 28) 9).toInt = zz_Tm σ2 (y + 2) ∧ zz_tts (zz_XT σ2 (x + 28)) (zz_MT σ2 (y + 2)) ∧ zz_PX 1 σ2 (x + 28) = zz_PM 1 σ2 (y + 2) ∧ zy_FB (zz_PM 1 σ2 (y + 2)) ∧ zy_wv σ2 (x + 28 + 5) 0 (σ2 (x + 28) 11).toInt = zy_wv σ2 (y + 2) 133 (σ2 (y + 2) 6).toInt) := hqK.elim (fun q => Or.inl ((congrArg Int32.toInt ((A x 2 (by omega) (by omega)).trans (w1 x 2 (dW_101 x y hxy)))).trans q)) (fun q => Or.inr ⟨by rw [aKD, zz_DXk (r := x + 28) w1 (dW_126 x y hxy), zz_DMk (a := y + 2) w2 (dW_127 x y hxy), bKD, q.1], by rw [aKW, zz_PXk (f := 0) (r := x + 28) w1 (dW_128 x y hxy), zz_PMk (f := 0) (a := y + 2) w2 (dW_129 x y hxy), bKW, q.2.1], by rw [aKP, zz_Tp.all (a := x + 28 + 4) (b := x + 28 + 4) (congrArg Int32.toInt (w1 (x + 28) 9 (dW_130 x y hxy))) (fun k => w1 _ k ((dW_131 x y hxy) k)), zz_Tm.eq (a := y + 2) (b := y + 2) (w2 (y + 2) 5 (dW_132 x y hxy)) hJ1.2.1.2.2.2.2.1.2 (fun k hk => w2 (y + 2) (73 + k) ((dW_133 x y hxy) k hk)), bKP, q.2.2.1], by rw [aKX, zz_XT.all (r := x + 28) (fun a ha k => w1 a k ((dW_134 x y hxy) a ha k)), zz_MT.hi (a := y + 2) (b := y + 2) (fun k hk => w2 (y + 2) k ((dW_135 x y hxy) k hk)), bKX]; exact q.2.2.2.1, by rw [aKF, zz_PXk (f := 1) (r := x + 28) w1 (dW_128 x y hxy), zz_PMk (f := 1) (a := y + 2) w2 (dW_136 x y hxy), bKF, q.2.2.2.2.1], by rw [zz_PMk (f := 1) (a := y + 2) w2 (dW_136 x y hxy), bKF]; exact q.2.2.2.2.2.1, by rw [aKV, zy_wv.eq (a := x + 28 + 5) (a1 := x + 28 + 5) (b := 0) (b1 := 0) (congrArg Int32.toInt (w1 (x + 28) 11 (dW_130 x y hxy))) (fun k hk => w1 (x + 28 + 5) (0 + k) ((dW_137 x y hxy) k hk)), zy_wv.eq (a := y + 2) (a1 := y + 2) (b := 133) (b1 := 133) (congrArg Int32.toInt (w2 (y + 2) 6 (dW_138 x y hxy))) (fun k hk => w2 (y + 2) (133 + k) ((dW_139 x y hxy) k hk)), bKV, q.2.2.2.2.2.2]⟩)
  have gc4 : (σ (x + 1) 4).toInt = (σ1 (y + 1) 2).toInt := hR.2.2.1.2.2.2.1.trans (congrArg Int32.toInt (B (y + 1) 2 (by omega) (by omega))).symm
  have rB2 : zz_DX σ2 (x + 1) = zz_DM σ2 (y + 1) ∧ r1.toInt = r2.toInt := by
    rcases p1 with ⟨a1, a2, a3⟩ | ⟨a1, a2, a3⟩
    · rcases p2 with ⟨b1, b2, b3⟩ | ⟨b1, b2, b3⟩
      · exact ⟨by rw [aD, a3, b3, bD, hqD], by omega⟩
      · exact absurd b1 (by omega)
    · rcases p2 with ⟨b1, b2, b3⟩ | ⟨b1, b2, b3⟩
      · exact absurd a1 (by omega)
      · exact ⟨by rw [aD, a3, b3, bD, hqD], by rw [a2, b2, bD, hqD]⟩
  have rD := rB2.1
  have hQ2 : zz_RD σ2 x y := ⟨rD, rW, rK, rB, rN, rC, rL, rT, rP, rX, rF, rG, rV⟩
  refine lv_pop hx hb dL_law_371 rfl ?_
  refine lv_goto (tgt := 1384) hx hb dL_law_372 (by decide) ?_
  exact kk _ _ _ hRL hQ2 hP hS
theorem gL_law_X8_person : GoodIn wsL_law (wsV RL 35 RX8 yX8_person wzX8_person) := wz_coL bm_306 (wz_coL bm_307 (wz_coL bm_308 (wz_coL bm_2 (wz_inL bm_309))))
theorem gL_law_X9_person : GoodIn wsL_law (wsV RL 39 RX9 yX9_person wzX9_person) := wz_coL bm_317 (wz_coL bm_318 (wz_coL bm_319 (wz_coL bm_5 (wz_inL bm_320))))
theorem dW_140 (x y : Nat) (hxy : x + 76 ≤ y) : ∀ a k : Nat, y ≤ a → a ≤ y + 12 → ¬ ((a) = (x) + 24 ∨ (a) = (x) + 27 ∨ ((x) + 58 ≤ (a) ∧ (a) ≤ (x) + 67) ∨ ((a) = (x) + 1 ∧ (k) = 6) ∨ ((x) + 16 ≤ (a) ∧ (a) < (x) + 22)) := by intros; omega
theorem dW_141 (x y : Nat) (hxy : x + 76 ≤ y) : ∀ a k : Nat, x ≤ a → a < x + 76 → ¬ (((a) = (y) + 3 ∨ ((y) + 7 ≤ (a) ∧ (a) ≤ (y) + 11)) ∨ ((a) = (y) + 1 ∧ ((k) = 3 ∨ (61 ≤ (k) ∧ (k) < 73)))) := by intros; omega
theorem dW_142 (x y : Nat) (hxy : x + 76 ≤ y) : ∀ k : Nat, ¬ (((x + 28)) = (x) + 24 ∨ ((x + 28)) = (x) + 27 ∨ ((x) + 58 ≤ ((x + 28)) ∧ ((x + 28)) ≤ (x) + 67) ∨ (((x + 28)) = (x) + 1 ∧ (k) = 6) ∨ ((x) + 16 ≤ ((x + 28)) ∧ ((x + 28)) < (x) + 22)) := by intros; omega
theorem dW_143 (x y : Nat) (hxy : x + 76 ≤ y) : ¬ ((x) = (x) + 24 ∨ (x) = (x) + 27 ∨ ((x) + 58 ≤ (x) ∧ (x) ≤ (x) + 67) ∨ ((x) = (x) + 1 ∧ (2) = 6) ∨ ((x) + 16 ≤ (x) ∧ (x) < (x) + 22)) := by omega
theorem dW_144 (x y : Nat) (hxy : x + 76 ≤ y) : ∀ k : Nat, ¬ ((((y + 2)) = (y) + 3 ∨ ((y) + 7 ≤ ((y + 2)) ∧ ((y + 2)) ≤ (y) + 11)) ∨ (((y + 2)) = (y) + 1 ∧ ((k) = 3 ∨ (61 ≤ (k) ∧ (k) < 73)))) := by intros; omega
theorem dW_145 (x y : Nat) (hxy : x + 76 ≤ y) : ¬ (((y) = (y) + 3 ∨ ((y) + 7 ≤ (y) ∧ (y) ≤ (y) + 11)) ∨ ((y) = (y) + 1 ∧ ((2) = 3 ∨ (61 ≤ (2) ∧ (2) < 73)))) := by omega
theorem dW_146 (x y : Nat) (hxy : x + 76 ≤ y) : ¬ (((x + 1)) = (x) + 24 ∨ ((x + 1)) = (x) + 27 ∨ ((x) + 58 ≤ ((x + 1)) ∧ ((x + 1)) ≤ (x) + 67) ∨ (((x + 1)) = (x) + 1 ∧ (0) = 6) ∨ ((x) + 16 ≤ ((x + 1)) ∧ ((x + 1)) < (x) + 22)) := by omega
theorem dW_147 (x y : Nat) (hxy : x + 76 ≤ y) : ¬ ((((y + 1)) = (y) + 3 ∨ ((y) + 7 ≤ ((y + 1)) ∧ ((y + 1)) ≤ (y) + 11)) ∨ (((y + 1)) = (y) + 1 ∧ ((0) = 3 ∨ (61 ≤ (0) ∧ (0) < 73)))) := by omega
theorem dW_148 (x y : Nat) (hxy : x + 76 ≤ y) : ¬ (((x + 1)) = (x) + 24 ∨ ((x + 1)) = (x) + 27 ∨ ((x) + 58 ≤ ((x + 1)) ∧ ((x + 1)) ≤ (x) + 67) ∨ (((x + 1)) = (x) + 1 ∧ (1) = 6) ∨ ((x) + 16 ≤ ((x + 1)) ∧ ((x + 1)) < (x) + 22)) := by omega
theorem dW_149 (x y : Nat) (hxy : x + 76 ≤ y) : ¬ ((((y + 1)) = (y) + 3 ∨ ((y) + 7 ≤ ((y + 1)) ∧ ((y + 1)) ≤ (y) + 11)) ∨ (((y + 1)) = (y) + 1 ∧ ((4) = 3 ∨ (61 ≤ (4) ∧ (4) < 73)))) := by omega
theorem dW_150 (x y : Nat) (hxy : x + 76 ≤ y) : ¬ (((x + 1)) = (x) + 24 ∨ ((x + 1)) = (x) + 27 ∨ ((x) + 58 ≤ ((x + 1)) ∧ ((x + 1)) ≤ (x) + 67) ∨ (((x + 1)) = (x) + 1 ∧ (2) = 6) ∨ ((x) + 16 ≤ ((x + 1)) ∧ ((x + 1)) < (x) + 22)) := by omega
theorem dW_151 (x y : Nat) (hxy : x + 76 ≤ y) : ¬ ((((y + 1)) = (y) + 3 ∨ ((y) + 7 ≤ ((y + 1)) ∧ ((y + 1)) ≤ (y) + 11)) ∨ (((y + 1)) = (y) + 1 ∧ ((1) = 3 ∨ (61 ≤ (1) ∧ (1) < 73)))) := by omega
theorem dW_152 (x y : Nat) (hxy : x + 76 ≤ y) : ¬ (((x + 1)) = (x) + 24 ∨ ((x + 1)) = (x) + 27 ∨ ((x) + 58 ≤ ((x + 1)) ∧ ((x + 1)) ≤ (x) + 67) ∨ (((x + 1)) = (x) + 1 ∧ (4) = 6) ∨ ((x) + 16 ≤ ((x + 1)) ∧ ((x + 1)) < (x) + 22)) := by omega
theorem dW_153 (x y : Nat) (hxy : x + 76 ≤ y) : ¬ ((((y + 1)) = (y) + 3 ∨ ((y) + 7 ≤ ((y + 1)) ∧ ((y + 1)) ≤ (y) + 11)) ∨ (((y + 1)) = (y) + 1 ∧ ((2) = 3 ∨ (61 ≤ (2) ∧ (2) < 73)))) := by omega
theorem dW_154 (x y : Nat) (hxy : x + 76 ≤ y) : ¬ (((x + 1)) = (x) + 24 ∨ ((x + 1)) = (x) + 27 ∨ ((x) + 58 ≤ ((x + 1)) ∧ ((x + 1)) ≤ (x) + 67) ∨ (((x + 1)) = (x) + 1 ∧ (9) = 6) ∨ ((x) + 16 ≤ ((x + 1)) ∧ ((x + 1)) < (x) + 22)) := by omega
theorem dW_155 (x y : Nat) (hxy : x + 76 ≤ y) : ¬ ((((y + 1)) = (y) + 3 ∨ ((y) + 7 ≤ ((y + 1)) ∧ ((y + 1)) ≤ (y) + 11)) ∨ (((y + 1)) = (y) + 1 ∧ ((5) = 3 ∨ (61 ≤ (5) ∧ (5) < 73)))) := by omega
theorem dW_156 (x y : Nat) (hxy : x + 76 ≤ y) : ¬ (((x + 1)) = (x) + 24 ∨ ((x + 1)) = (x) + 27 ∨ ((x) + 58 ≤ ((x + 1)) ∧ ((x + 1)) ≤ (x) + 67) ∨ (((x + 1)) = (x) + 1 ∧ (11) = 6) ∨ ((x) + 16 ≤ ((x + 1)) ∧ ((x + 1)) < (x) + 22)) := by omega
theorem dW_157 (x y : Nat) (hxy : x + 76 ≤ y) : ¬ ((((y + 1)) = (y) + 3 ∨ ((y) + 7 ≤ ((y + 1)) ∧ ((y + 1)) ≤ (y) + 11)) ∨ (((y + 1)) = (y) + 1 ∧ ((6) = 3 ∨ (61 ≤ (6) ∧ (6) < 73)))) := by omega
theorem dW_158 (x y : Nat) (hxy : x + 76 ≤ y) : ∀ j : Nat, j < 9 → ∀ k : Nat, k < 6 → ¬ (((x + 1 + 6 + 1 * j)) = (x) + 24 ∨ ((x + 1 + 6 + 1 * j)) = (x) + 27 ∨ ((x) + 58 ≤ ((x + 1 + 6 + 1 * j)) ∧ ((x + 1 + 6 + 1 * j)) ≤ (x) + 67) ∨ (((x + 1 + 6 + 1 * j)) = (x) + 1 ∧ (k) = 6) ∨ ((x) + 16 ≤ ((x + 1 + 6 + 1 * j)) ∧ ((x + 1 + 6 + 1 * j)) < (x) + 22)) := by intros; omega
theorem dW_159 (x y : Nat) (hxy : x + 76 ≤ y) : ∀ k : Nat, 7 ≤ k → k < 61 → ¬ ((((y + 1)) = (y) + 3 ∨ ((y) + 7 ≤ ((y + 1)) ∧ ((y + 1)) ≤ (y) + 11)) ∨ (((y + 1)) = (y) + 1 ∧ ((k) = 3 ∨ (61 ≤ (k) ∧ (k) < 73)))) := by intros; omega
theorem dW_160 (x y : Nat) (hxy : x + 76 ≤ y) : ∀ j : Nat, j < 4 → ¬ (((x + 68 + 2 * j)) = (x) + 24 ∨ ((x + 68 + 2 * j)) = (x) + 27 ∨ ((x) + 58 ≤ ((x + 68 + 2 * j)) ∧ ((x + 68 + 2 * j)) ≤ (x) + 67) ∨ (((x + 68 + 2 * j)) = (x) + 1 ∧ (0) = 6) ∨ ((x) + 16 ≤ ((x + 68 + 2 * j)) ∧ ((x + 68 + 2 * j)) < (x) + 22)) := by intros; omega
theorem dW_161 (x y : Nat) (hxy : x + 76 ≤ y) : ∀ j : Nat, j < 4 → ¬ ((((y + 4)) = (y) + 3 ∨ ((y) + 7 ≤ ((y + 4)) ∧ ((y + 4)) ≤ (y) + 11)) ∨ (((y + 4)) = (y) + 1 ∧ ((j) = 3 ∨ (61 ≤ (j) ∧ (j) < 73)))) := by intros; omega
theorem dW_162 (x y : Nat) (hxy : x + 76 ≤ y) : ∀ j : Nat, j < 4 → ¬ (((x + 68 + 2 * j)) = (x) + 24 ∨ ((x + 68 + 2 * j)) = (x) + 27 ∨ ((x) + 58 ≤ ((x + 68 + 2 * j)) ∧ ((x + 68 + 2 * j)) ≤ (x) + 67) ∨ (((x + 68 + 2 * j)) = (x) + 1 ∧ (1) = 6) ∨ ((x) + 16 ≤ ((x + 68 + 2 * j)) ∧ ((x + 68 + 2 * j)) < (x) + 22)) := by intros; omega
theorem dW_163 (x y : Nat) (hxy : x + 76 ≤ y) : ∀ j : Nat, j < 4 → ¬ ((((y + 5)) = (y) + 3 ∨ ((y) + 7 ≤ ((y + 5)) ∧ ((y + 5)) ≤ (y) + 11)) ∨ (((y + 5)) = (y) + 1 ∧ ((j) = 3 ∨ (61 ≤ (j) ∧ (j) < 73)))) := by intros; omega
theorem dW_164 (x y : Nat) (hxy : x + 76 ≤ y) : ∀ j : Nat, j < 4 → ∀ k : Nat, k < 24 → ¬ (((x + 68 + 2 * j + 1)) = (x) + 24 ∨ ((x + 68 + 2 * j + 1)) = (x) + 27 ∨ ((x) + 58 ≤ ((x + 68 + 2 * j + 1)) ∧ ((x + 68 + 2 * j + 1)) ≤ (x) + 67) ∨ (((x + 68 + 2 * j + 1)) = (x) + 1 ∧ (k) = 6) ∨ ((x) + 16 ≤ ((x + 68 + 2 * j + 1)) ∧ ((x + 68 + 2 * j + 1)) < (x) + 22)) := by intros; omega
theorem dW_165 (x y : Nat) (hxy : x + 76 ≤ y) : ∀ k : Nat, k < 96 → ¬ ((((y + 6)) = (y) + 3 ∨ ((y) + 7 ≤ ((y + 6)) ∧ ((y + 6)) ≤ (y) + 11)) ∨ (((y + 6)) = (y) + 1 ∧ ((k) = 3 ∨ (61 ≤ (k) ∧ (k) < 73)))) := by intros; omega
theorem dW_166 (x y : Nat) (hxy : x + 76 ≤ y) : ¬ (((x + 56)) = (x) + 24 ∨ ((x + 56)) = (x) + 27 ∨ ((x) + 58 ≤ ((x + 56)) ∧ ((x + 56)) ≤ (x) + 67) ∨ (((x + 56)) = (x) + 1 ∧ (1) = 6) ∨ ((x) + 16 ≤ ((x + 56)) ∧ ((x + 56)) < (x) + 22)) := by omega
theorem dW_167 (x y : Nat) (hxy : x + 76 ≤ y) : ¬ (((y) = (y) + 3 ∨ ((y) + 7 ≤ (y) ∧ (y) ≤ (y) + 11)) ∨ ((y) = (y) + 1 ∧ ((18) = 3 ∨ (61 ≤ (18) ∧ (18) < 73)))) := by omega
theorem dW_168 (x y : Nat) (hxy : x + 76 ≤ y) : ∀ k : Nat, ¬ (((x + 56 + 1)) = (x) + 24 ∨ ((x + 56 + 1)) = (x) + 27 ∨ ((x) + 58 ≤ ((x + 56 + 1)) ∧ ((x + 56 + 1)) ≤ (x) + 67) ∨ (((x + 56 + 1)) = (x) + 1 ∧ (k) = 6) ∨ ((x) + 16 ≤ ((x + 56 + 1)) ∧ ((x + 56 + 1)) < (x) + 22)) := by intros; omega
theorem dW_169 (x y : Nat) (hxy : x + 76 ≤ y) : ∀ k : Nat, ¬ ((((y + 12)) = (y) + 3 ∨ ((y) + 7 ≤ ((y + 12)) ∧ ((y + 12)) ≤ (y) + 11)) ∨ (((y + 12)) = (y) + 1 ∧ ((k) = 3 ∨ (61 ≤ (k) ∧ (k) < 73)))) := by intros; omega
theorem dW_170 (x y : Nat) (hxy : x + 76 ≤ y) : ∀ k : Nat, ¬ (((x + 1 + 4)) = (x) + 24 ∨ ((x + 1 + 4)) = (x) + 27 ∨ ((x) + 58 ≤ ((x + 1 + 4)) ∧ ((x + 1 + 4)) ≤ (x) + 67) ∨ (((x + 1 + 4)) = (x) + 1 ∧ (k) = 6) ∨ ((x) + 16 ≤ ((x + 1 + 4)) ∧ ((x + 1 + 4)) < (x) + 22)) := by intros; omega
theorem dW_171 (x y : Nat) (hxy : x + 76 ≤ y) : ∀ k : Nat, k < 60 → ¬ ((((y + 1)) = (y) + 3 ∨ ((y) + 7 ≤ ((y + 1)) ∧ ((y + 1)) ≤ (y) + 11)) ∨ (((y + 1)) = (y) + 1 ∧ (((73 + k)) = 3 ∨ (61 ≤ ((73 + k)) ∧ ((73 + k)) < 73)))) := by intros; omega
theorem dW_172 (x y : Nat) (hxy : x + 76 ≤ y) : ∀ a : Nat, (a = x + 1 + 21 ∨ a = x + 1 + 22 ∨ a = x + 1 + 24 ∨ a = x + 1 + 25) → ∀ k : Nat, ¬ ((a) = (x) + 24 ∨ (a) = (x) + 27 ∨ ((x) + 58 ≤ (a) ∧ (a) ≤ (x) + 67) ∨ ((a) = (x) + 1 ∧ (k) = 6) ∨ ((x) + 16 ≤ (a) ∧ (a) < (x) + 22)) := by intros; omega
theorem dW_173 (x y : Nat) (hxy : x + 76 ≤ y) : ∀ k : Nat, 157 ≤ k → ¬ ((((y + 1)) = (y) + 3 ∨ ((y) + 7 ≤ ((y + 1)) ∧ ((y + 1)) ≤ (y) + 11)) ∨ (((y + 1)) = (y) + 1 ∧ ((k) = 3 ∨ (61 ≤ (k) ∧ (k) < 73)))) := by intros; omega
theorem dW_174 (x y : Nat) (hxy : x + 76 ≤ y) : ∀ k : Nat, k < 24 → ¬ (((x + 1 + 5)) = (x) + 24 ∨ ((x + 1 + 5)) = (x) + 27 ∨ ((x) + 58 ≤ ((x + 1 + 5)) ∧ ((x + 1 + 5)) ≤ (x) + 67) ∨ (((x + 1 + 5)) = (x) + 1 ∧ ((0 + k)) = 6) ∨ ((x) + 16 ≤ ((x + 1 + 5)) ∧ ((x + 1 + 5)) < (x) + 22)) := by intros; omega
theorem dW_175 (x y : Nat) (hxy : x + 76 ≤ y) : ∀ k : Nat, k < 24 → ¬ ((((y + 1)) = (y) + 3 ∨ ((y) + 7 ≤ ((y + 1)) ∧ ((y + 1)) ≤ (y) + 11)) ∨ (((y + 1)) = (y) + 1 ∧ (((133 + k)) = 3 ∨ (61 ≤ ((133 + k)) ∧ ((133 + k)) < 73)))) := by intros; omega
theorem dW_176 (x y : Nat) (hxy : x + 76 ≤ y) : ∀ j : Nat, j < 9 → ∀ k : Nat, k < 6 → ¬ (((x + 28 + 6 + 1 * j)) = (x) + 24 ∨ ((x + 28 + 6 + 1 * j)) = (x) + 27 ∨ ((x) + 58 ≤ ((x + 28 + 6 + 1 * j)) ∧ ((x + 28 + 6 + 1 * j)) ≤ (x) + 67) ∨ (((x + 28 + 6 + 1 * j)) = (x) + 1 ∧ (k) = 6) ∨ ((x) + 16 ≤ ((x + 28 + 6 + 1 * j)) ∧ ((x + 28 + 6 + 1 * j)) < (x) + 22)) := by intros; omega
theorem dW_177 (x y : Nat) (hxy : x + 76 ≤ y) : ∀ k : Nat, 7 ≤ k → k < 61 → ¬ ((((y + 2)) = (y) + 3 ∨ ((y) + 7 ≤ ((y + 2)) ∧ ((y + 2)) ≤ (y) + 11)) ∨ (((y + 2)) = (y) + 1 ∧ ((k) = 3 ∨ (61 ≤ (k) ∧ (k) < 73)))) := by intros; omega
theorem dW_178 (x y : Nat) (hxy : x + 76 ≤ y) : ∀ j : Nat, j < 6 → ¬ (((x + 28 + 15 + 1 * j)) = (x) + 24 ∨ ((x + 28 + 15 + 1 * j)) = (x) + 27 ∨ ((x) + 58 ≤ ((x + 28 + 15 + 1 * j)) ∧ ((x + 28 + 15 + 1 * j)) ≤ (x) + 67) ∨ (((x + 28 + 15 + 1 * j)) = (x) + 1 ∧ (0) = 6) ∨ ((x) + 16 ≤ ((x + 28 + 15 + 1 * j)) ∧ ((x + 28 + 15 + 1 * j)) < (x) + 22)) := by intros; omega
theorem dW_179 (x y : Nat) (hxy : x + 76 ≤ y) : ∀ j : Nat, j < 6 → ¬ ((((y + 2)) = (y) + 3 ∨ ((y) + 7 ≤ ((y + 2)) ∧ ((y + 2)) ≤ (y) + 11)) ∨ (((y + 2)) = (y) + 1 ∧ (((61 + 2 * j + 0)) = 3 ∨ (61 ≤ ((61 + 2 * j + 0)) ∧ ((61 + 2 * j + 0)) < 73)))) := by intros; omega
theorem dW_180 (x y : Nat) (hxy : x + 76 ≤ y) : ¬ (((x + 28)) = (x) + 24 ∨ ((x + 28)) = (x) + 27 ∨ ((x) + 58 ≤ ((x + 28)) ∧ ((x + 28)) ≤ (x) + 67) ∨ (((x + 28)) = (x) + 1 ∧ (9) = 6) ∨ ((x) + 16 ≤ ((x + 28)) ∧ ((x + 28)) < (x) + 22)) := by omega
theorem dW_181 (x y : Nat) (hxy : x + 76 ≤ y) : ∀ k : Nat, ¬ (((x + 28 + 4)) = (x) + 24 ∨ ((x + 28 + 4)) = (x) + 27 ∨ ((x) + 58 ≤ ((x + 28 + 4)) ∧ ((x + 28 + 4)) ≤ (x) + 67) ∨ (((x + 28 + 4)) = (x) + 1 ∧ (k) = 6) ∨ ((x) + 16 ≤ ((x + 28 + 4)) ∧ ((x + 28 + 4)) < (x) + 22)) := by intros; omega
theorem dW_182 (x y : Nat) (hxy : x + 76 ≤ y) : ¬ ((((y + 2)) = (y) + 3 ∨ ((y) + 7 ≤ ((y + 2)) ∧ ((y + 2)) ≤ (y) + 11)) ∨ (((y + 2)) = (y) + 1 ∧ ((5) = 3 ∨ (61 ≤ (5) ∧ (5) < 73)))) := by omega
theorem dW_183 (x y : Nat) (hxy : x + 76 ≤ y) : ∀ k : Nat, k < 60 → ¬ ((((y + 2)) = (y) + 3 ∨ ((y) + 7 ≤ ((y + 2)) ∧ ((y + 2)) ≤ (y) + 11)) ∨ (((y + 2)) = (y) + 1 ∧ (((73 + k)) = 3 ∨ (61 ≤ ((73 + k)) ∧ ((73 + k)) < 73)))) := by intros; omega
theorem dW_184 (x y : Nat) (hxy : x + 76 ≤ y) : ∀ a : Nat, (a = x + 28 + 21 ∨ a = x + 28 + 22 ∨ a = x + 28 + 24 ∨ a = x + 28 + 25) → ∀ k : Nat, ¬ ((a) = (x) + 24 ∨ (a) = (x) + 27 ∨ ((x) + 58 ≤ (a) ∧ (a) ≤ (x) + 67) ∨ ((a) = (x) + 1 ∧ (k) = 6) ∨ ((x) + 16 ≤ (a) ∧ (a) < (x) + 22)) := by intros; omega
theorem dW_185 (x y : Nat) (hxy : x + 76 ≤ y) : ∀ k : Nat, 157 ≤ k → ¬ ((((y + 2)) = (y) + 3 ∨ ((y) + 7 ≤ ((y + 2)) ∧ ((y + 2)) ≤ (y) + 11)) ∨ (((y + 2)) = (y) + 1 ∧ ((k) = 3 ∨ (61 ≤ (k) ∧ (k) < 73)))) := by intros; omega
theorem dW_186 (x y : Nat) (hxy : x + 76 ≤ y) : ∀ j : Nat, j < 6 → ¬ (((x + 28 + 15 + 1 * j)) = (x) + 24 ∨ ((x + 28 + 15 + 1 * j)) = (x) + 27 ∨ ((x) + 58 ≤ ((x + 28 + 15 + 1 * j)) ∧ ((x + 28 + 15 + 1 * j)) ≤ (x) + 67) ∨ (((x + 28 + 15 + 1 * j)) = (x) + 1 ∧ (1) = 6) ∨ ((x) + 16 ≤ ((x + 28 + 15 + 1 * j)) ∧ ((x + 28 + 15 + 1 * j)) < (x) + 22)) := by intros; omega
theorem dW_187 (x y : Nat) (hxy : x + 76 ≤ y) : ∀ j : Nat, j < 6 → ¬ ((((y + 2)) = (y) + 3 ∨ ((y) + 7 ≤ ((y + 2)) ∧ ((y + 2)) ≤ (y) + 11)) ∨ (((y + 2)) = (y) + 1 ∧ (((61 + 2 * j + 1)) = 3 ∨ (61 ≤ ((61 + 2 * j + 1)) ∧ ((61 + 2 * j + 1)) < 73)))) := by intros; omega
theorem dW_188 (x y : Nat) (hxy : x + 76 ≤ y) : ¬ (((x + 28)) = (x) + 24 ∨ ((x + 28)) = (x) + 27 ∨ ((x) + 58 ≤ ((x + 28)) ∧ ((x + 28)) ≤ (x) + 67) ∨ (((x + 28)) = (x) + 1 ∧ (11) = 6) ∨ ((x) + 16 ≤ ((x + 28)) ∧ ((x + 28)) < (x) + 22)) := by omega
theorem dW_189 (x y : Nat) (hxy : x + 76 ≤ y) : ∀ k : Nat, k < 24 → ¬ (((x + 28 + 5)) = (x) + 24 ∨ ((x + 28 + 5)) = (x) + 27 ∨ ((x) + 58 ≤ ((x + 28 + 5)) ∧ ((x + 28 + 5)) ≤ (x) + 67) ∨ (((x + 28 + 5)) = (x) + 1 ∧ ((0 + k)) = 6) ∨ ((x) + 16 ≤ ((x + 28 + 5)) ∧ ((x + 28 + 5)) < (x) + 22)) := by intros; omega
theorem dW_190 (x y : Nat) (hxy : x + 76 ≤ y) : ¬ ((((y + 2)) = (y) + 3 ∨ ((y) + 7 ≤ ((y + 2)) ∧ ((y + 2)) ≤ (y) + 11)) ∨ (((y + 2)) = (y) + 1 ∧ ((6) = 3 ∨ (61 ≤ (6) ∧ (6) < 73)))) := by omega
theorem dW_191 (x y : Nat) (hxy : x + 76 ≤ y) : ∀ k : Nat, k < 24 → ¬ ((((y + 2)) = (y) + 3 ∨ ((y) + 7 ≤ ((y + 2)) ∧ ((y + 2)) ≤ (y) + 11)) ∨ (((y + 2)) = (y) + 1 ∧ (((133 + k)) = 3 ∨ (61 ≤ ((133 + k)) ∧ ((133 + k)) < 73)))) := by intros; omega
set_option maxHeartbeats 4000000 in
set_option maxRecDepth 100000 in
theorem lc_person {p : Program} {l : Launch} {e : Env} {s : State} {m : MethodId} {below : List Frame} {meth : Method} {c : Code} {b L x y : Nat} {xs : Nat → Int32} {E : zz_E} {Q : State → Prop} (hA : zz_LA p s m c b L xs E x y) (i : Int32) (hi : 0 ≤ i.toInt ∧ i.toInt + 6 ≤ L) (σ : zz_S) (H : Heap) (locs : List Loc) (ls : Array Slot) (hR : zz_RL σ x y) (hQ : zz_RD σ x y) (hP : zz_P E σ H) (hS : va_S (zz_A E) s.heap H locs) (hl : lv_has ls 4 [(0, .ref b), (1, .ref x), (2, .ref y), (3, .int i)])
    (kk : ∀ (σ1 : zz_S) (H1 : Heap) (locs1 : List Loc), zz_RL σ1 x y → zz_RD σ1 x y → zz_P E σ1 H1 → va_S (zz_A E) s.heap H1 locs1 → W p l e room_1 s m #[Value.ref b] below meth c H1 locs1 600000 7302250 Q (F0 m 1384 ls [])) : W p l e room_1 s m #[Value.ref b] below meth c H locs 600000 7302250 Q (F0 m 375 ls []) := by
  obtain ⟨hx, hb, hml, hown, hts, hX, hbl, hbE, hL, gL, gM, hxy, hK⟩ := hA
  have hbA : ¬ zz_A E b := fun h => absurd (hbE b h) (Nat.not_le.mpr hbl)
  have k_1 : (1 : Int32).toInt = 1 := by decide +kernel
  refine lv_aload_n hx hb dL_law_375 rfl (lv_at hl 1 rfl) ?_
  refine lv_aload_n hx hb dL_law_376 rfl (lv_at hl 0 rfl) ?_
  refine lv_iload_n hx hb dL_law_377 rfl (lv_at hl 3 rfl) ?_
  refine lv_iconst (v := 1) hx hb dL_law_378 (by decide) ?_
  refine lv_iadd hx hb dL_law_379 ?_
  refine lv_topi (fun n1 e1 => ?_)
  have f1 : n1.toInt = (i).toInt + (1 : Int32).toInt := zz_addT e1 (by omega) (by omega)
  refine va_sld hx hb hX hbl hbA hS (vp_in_iff.mpr ⟨by omega, by omega⟩) dL_law_380 ?_
  refine lv_topi (fun v2 u2 => ?_)
  refine zz_callVi (As := [.int v2]) (rest := []) ⟨hx, hb, hml, hown, hts⟩ hK hP hS (c_X8_person l E σ x v2 gL hR.1) (cwV 1 hts gL_law_X8_person rfl rfl rfl (by decide +kernel) ⟨Nat.le_of_ble_eq_true rfl, Nat.le_of_ble_eq_true rfl⟩) (gL.1) rfl rfl hl.1 rfl (Nat.le_of_ble_eq_true rfl) dL_law_381 ⟨Nat.le_refl _, Nat.le_refl _⟩ (fun r1 σ1 H locs q1 hP hS => ?_)
  try dsimp only at q1
  obtain ⟨w1, p1⟩ := q1
  have B : ∀ a k : Nat, y ≤ a → a ≤ y + 12 → σ1 a k = σ a k := fun a k h1 h2 => w1 a k ((dW_140 x y hxy) a k h1 h2)
  have hJ1 : zz_IM σ1 y := hR.2.1.far B
  refine lv_pop hx hb dL_law_384 rfl ?_
  refine lv_aload_n hx hb dL_law_385 rfl (lv_at hl 2 rfl) ?_
  refine lv_aload_n hx hb dL_law_386 rfl (lv_at hl 0 rfl) ?_
  refine lv_iload_n hx hb dL_law_387 rfl (lv_at hl 3 rfl) ?_
  refine lv_iconst (v := 1) hx hb dL_law_388 (by decide) ?_
  refine lv_iadd hx hb dL_law_389 ?_
  refine lv_topi (fun n4 e4 => ?_)
  have f4 : n4.toInt = (i).toInt + (1 : Int32).toInt := zz_addT e4 (by omega) (by omega)
  refine va_sld hx hb hX hbl hbA hS (vp_in_iff.mpr ⟨by omega, by omega⟩) dL_law_390 ?_
  refine lv_topi (fun v5 u5 => ?_)
  have z5 : v5 = v2 := by rw [u5, u2, e4, e1]
  have zt5 := congrArg Int32.toInt z5
  refine zz_callVi (As := [.int v5]) (rest := []) ⟨hx, hb, hml, hown, hts⟩ hK hP hS (c_X9_person l E σ1 y v5 gM hJ1) (cwV 1 hts gL_law_X9_person rfl rfl rfl (by decide +kernel) ⟨Nat.le_of_ble_eq_true rfl, Nat.le_of_ble_eq_true rfl⟩) (gM.1) rfl rfl hl.1 rfl (Nat.le_of_ble_eq_true rfl) dL_law_391 ⟨Nat.le_refl _, Nat.le_refl _⟩ (fun r2 σ2 H locs q2 hP hS => ?_)
  try dsimp only at q2
  obtain ⟨w2, p2⟩ := q2
  have A : ∀ a k : Nat, x ≤ a → a < x + 76 → σ2 a k = σ1 a k := fun a k h1 h2 => w2 a k ((dW_141 x y hxy) a k h1 h2)
  obtain ⟨i1, p1⟩ := p1
  obtain ⟨i2, p2⟩ := p2
  try simp only [z5] at p2
  obtain ⟨h0, h1, h2, h3, h4, h5, h6⟩ := hR.2.2.1
  have ga4 := congrArg Int32.toInt (A (x + 1) 6 (by omega) (by omega))
  have gb4 := congrArg Int32.toInt (B (y + 1) 3 (by omega) (by omega))
  have rr2 : zz_RR σ2 (x + 1) (y + 1) := ⟨(congrArg Int32.toInt (A (x + 1) 0 (by omega) (by omega))).trans ((congrArg Int32.toInt (w1 (x + 1) 0 (dW_146 x y hxy))).trans (h0.trans ((congrArg Int32.toInt (B (y + 1) 0 (by omega) (by omega))).symm.trans (congrArg Int32.toInt (w2 (y + 1) 0 (dW_147 x y hxy))).symm))), (congrArg Int32.toInt (A (x + 1) 1 (by omega) (by omega))).trans ((congrArg Int32.toInt (w1 (x + 1) 1 (dW_148 x y hxy))).trans (h1.trans ((congrArg Int32.toInt (B (y + 1) 4 (by omega) (by omega))).symm.trans (congrArg Int32.toInt (w2 (y + 1) 4 (dW_149 x y hxy))).symm))), (congrArg Int32.toInt (A (x + 1) 2 (by omega) (by omega))).trans ((congrArg Int32.toInt (w1 (x + 1) 2 (dW_150 x y hxy))).trans (h2.trans ((congrArg Int32.toInt (B (y + 1) 1 (by omega) (by omega))).symm.trans (congrArg Int32.toInt (w2 (y + 1) 1 (dW_151 x y hxy))).symm))), (congrArg Int32.toInt (A (x + 1) 4 (by omega) (by omega))).trans ((congrArg Int32.toInt (w1 (x + 1) 4 (dW_152 x y hxy))).trans (h3.trans ((congrArg Int32.toInt (B (y + 1) 2 (by omega) (by omega))).symm.trans (congrArg Int32.toInt (w2 (y + 1) 2 (dW_153 x y hxy))).symm))), by omega, (congrArg Int32.toInt (A (x + 1) 9 (by omega) (by omega))).trans ((congrArg Int32.toInt (w1 (x + 1) 9 (dW_154 x y hxy))).trans (h5.trans ((congrArg Int32.toInt (B (y + 1) 5 (by omega) (by omega))).symm.trans (congrArg Int32.toInt (w2 (y + 1) 5 (dW_155 x y hxy))).symm))), (congrArg Int32.toInt (A (x + 1) 11 (by omega) (by omega))).trans ((congrArg Int32.toInt (w1 (x + 1) 11 (dW_156 x y hxy))).trans (h6.trans ((congrArg Int32.toInt (B (y + 1) 6 (by omega) (by omega))).symm.trans (congrArg Int32.toInt (w2 (y + 1) 6 (dW_157 x y hxy))).symm)))⟩
  have hRL : zz_RL σ2 x y := hR.real i1 i2 A B rr2 (fun k => w1 (x + 28) k ((dW_142 x y hxy) k)) (w1 x 2 (dW_143 x y hxy)) (fun k => w2 (y + 2) k ((dW_144 x y hxy) k)) (w2 y 2 (dW_145 x y hxy))
  obtain ⟨hqD, hqW, hqK, hqB, hqN, hqC, hqL, hqT, hqP, hqX, hqF, hqG, hqV⟩ := hQ
  obtain ⟨aD, aW, aKD, aKW, aB, aN, aC, aL, aT, aP, aX, aKP, aKX⟩ := zz_aX A
  obtain ⟨bD, bW, bKD, bKW, bB, bN, bC, bL, bT, bP, bX, bKP, bKX⟩ := zz_bM hR.2.1 B
  obtain ⟨aF, aKF, aV, aKV⟩ := zy_aX2 A
  obtain ⟨bF, bKF, bV, bKV⟩ := zy_bM2 B
  have rD : zz_DX σ2 (x + 1) = zz_DM σ2 (y + 1) := by rw [aD, zz_DXk (r := x + 1) w1 (dW_158 x y hxy), zz_DMk (a := y + 1) w2 (dW_159 x y hxy), bD, hqD]
  have rB : zz_HX 0 σ2 x = zz_HM σ2 (y + 4) := by rw [aB, zz_HX.eq (f := 0) (x := x) (fun j hj => w1 _ _ ((dW_160 x y hxy) j hj)), zz_HM.eq (a := y + 4) (fun j hj => w2 _ _ ((dW_161 x y hxy) j hj)), bB, hqB]
  have rN : zz_HX 1 σ2 x = zz_HM σ2 (y + 5) := by rw [aN, zz_HX.eq (f := 1) (x := x) (fun j hj => w1 _ _ ((dW_162 x y hxy) j hj)), zz_HM.eq (a := y + 5) (fun j hj => w2 _ _ ((dW_163 x y hxy) j hj)), bN, hqN]
  have rC : zz_CX σ2 x = zz_CM σ2 (y + 6) := by rw [aC, zz_CX.eq (x := x) (fun j hj k hk => w1 _ _ ((dW_164 x y hxy) j hj k hk)), zz_CM.eq (a := y + 6) (fun k hk => w2 _ _ ((dW_165 x y hxy) k hk)), bC, hqC]
  have rL : (σ2 (x + 56) 1).toInt = (σ2 y 18).toInt := by rw [aL, congrArg Int32.toInt (w1 (x + 56) 1 (dW_166 x y hxy)), congrArg Int32.toInt (w2 y 18 (dW_167 x y hxy)), bL, hqL]
  have rT : zz_TV σ2 (x + 56 + 1) = zz_TV σ2 (y + 12) := by rw [aT, zz_TV.eq (a := x + 56 + 1) (b := x + 56 + 1) (fun k _ => w1 _ k ((dW_168 x y hxy) k)), zz_TV.eq (a := y + 12) (b := y + 12) (fun k _ => w2 _ k ((dW_169 x y hxy) k)), bT, hqT]
  have rP : zz_Tp σ2 (x + 1 + 4) (σ2 (x + 1) 9).toInt = zz_Tm σ2 (y + 1) := by rw [aP, zz_Tp.all (a := x + 1 + 4) (b := x + 1 + 4) (congrArg Int32.toInt (w1 (x + 1) 9 (dW_154 x y hxy))) (fun k => w1 _ k ((dW_170 x y hxy) k)), zz_Tm.eq (a := y + 1) (b := y + 1) (w2 (y + 1) 5 (dW_155 x y hxy)) hJ1.1.2.2.2.2.1.2 (fun k hk => w2 (y + 1) (73 + k) ((dW_171 x y hxy) k hk)), bP, hqP]
  have rX : zz_tts (zz_XT σ2 (x + 1)) (zz_MT σ2 (y + 1)) := by rw [aX, zz_XT.all (r := x + 1) (fun a ha k => w1 a k ((dW_172 x y hxy) a ha k)), zz_MT.hi (a := y + 1) (b := y + 1) (fun k hk => w2 (y + 1) k ((dW_173 x y hxy) k hk)), bX]; exact hqX
  have rV : zy_wv σ2 (x + 1 + 5) 0 (σ2 (x + 1) 11).toInt = zy_wv σ2 (y + 1) 133 (σ2 (y + 1) 6).toInt := by rw [aV, zy_wv.eq (a := x + 1 + 5) (a1 := x + 1 + 5) (b := 0) (b1 := 0) (congrArg Int32.toInt (w1 (x + 1) 11 (dW_156 x y hxy))) (fun k hk => w1 (x + 1 + 5) (0 + k) ((dW_174 x y hxy) k hk)), zy_wv.eq (a := y + 1) (a1 := y + 1) (b := 133) (b1 := 133) (congrArg Int32.toInt (w2 (y + 1) 6 (dW_157 x y hxy))) (fun k hk => w2 (y + 1) (133 + k) ((dW_175 x y hxy) k hk)), bV, hqV]
  have rK : (σ2 x 2).toInt = 0 ∨ (zz_DX σ2 (x + 28) = zz_DM σ2 (y + 2) ∧ zz_PX 0 σ2 (x + 28) = zz_PM 0 σ2 (y + 2) ∧ zz_Tp σ2 (x + 28 + 4) (σ2 (x + 28) 9).toInt = zz_Tm σ2 (y + 2) ∧ zz_tts (zz_XT σ2 (x + 28)) (zz_MT σ2 (y + 2)) ∧ zz_PX 1 σ2 (x + 28) = zz_PM 1 σ2 (y + 2) ∧ zy_FB (zz_PM 1 σ2 (y + 2)) ∧ zy_wv σ2 (x + 28 + 5) 0 (σ2 (x + 28) 11).toInt = zy_wv σ2 (y + 2) 133 (σ2 (y + 2) 6).toInt) := hqK.elim (fun q => Or.inl ((congrArg Int32.toInt ((A x 2 (by omega) (by omega)).trans (w1 x 2 (dW_143 x y hxy)))).trans q)) (fun q => Or.inr ⟨by rw [aKD, zz_DXk (r := x + 28) w1 (dW_176 x y hxy), zz_DMk (a := y + 2) w2 (dW_177 x y hxy), bKD, q.1], by rw [aKW, zz_PXk (f := 0) (r := x + 28) w1 (dW_178 x y hxy), zz_PMk (f := 0) (a := y + 2) w2 (dW_179 x y hxy), bKW, q.2.1], by rw [aKP, zz_Tp.all (a := x + 28 + 4) (b := x + 28 + 4) (congrArg Int32.toInt (w1 (x + 28) 9 (dW_180 x y hxy))) (fun k => w1 _ k ((dW_181 x y hxy) k)), zz_Tm.eq (a := y + 2) (b := y + 2) (w2 (y + 2) 5 (dW_182 x y hxy)) hJ1.2.1.2.2.2.2.1.2 (fun k hk => w2 (y + 2) (73 + k) ((dW_183 x y hxy) k hk)), bKP, q.2.2.1], by rw [aKX, zz_XT.all (r := x + 28) (fun a ha k => w1 a k ((dW_184 x y hxy) a ha k)), zz_MT.hi (a := y + 2) (b := y + 2) (fun k hk => w2 (y + 2) k ((dW_185 x y hxy) k hk)), bKX]; exact q.2.2.2.1, by rw [aKF, zz_PXk (f := 1) (r := x + 28) w1 (dW_186 x y hxy), zz_PMk (f := 1) (a := y + 2) w2 (dW_187 x y hxy), bKF, q.2.2.2.2.1], by rw [zz_PMk (f := 1) (a := y + 2) w2 (dW_187 x y hxy), bKF]; exact q.2.2.2.2.2.1, by rw [aKV, zy_wv.eq (a := x + 28 + 5) (a1 := x + 28 + 5) (b := 0) (b1 := 0) (congrArg Int32.toInt (w1 (x + 28) 11 (dW_188 x y hxy))) (fun k hk => w1 (x + 28 + 5) (0 + k) ((dW_189 x y hxy) k hk)), zy_wv.eq (a := y + 2) (a1 := y + 2) (b := 133) (b1 := 133) (congrArg Int32.toInt (w2 (y + 2) 6 (dW_190 x y hxy))) (fun k hk => w2 (y + 2) (133 + k) ((dW_191 x y hxy) k hk)), bKV, q.2.2.2.2.2.2]⟩)
  have gc6 : (σ (x + 1) 6).toInt = (σ1 (y + 1) 3).toInt := hR.2.2.1.2.2.2.2.1.trans (congrArg Int32.toInt (B (y + 1) 3 (by omega) (by omega))).symm
  have hrr0 : r1.toInt = r2.toInt := by omega
  have rW : zz_PX 0 σ2 (x + 1) = zz_PM 0 σ2 (y + 1) := by
    by_cases q : r1.toInt < 0
    · rw [aW, (p1.2.1 q).1, (p2.2.1 (by omega)).1, bW, hqW]
    · rw [aW, (p1.2.2 (by omega)).1, (p2.2.2 (by omega)).1, bW, hqW, gc6]
  have rFG : zz_PX 1 σ2 (x + 1) = zz_PM 1 σ2 (y + 1) ∧ zy_FB (zz_PM 1 σ2 (y + 1)) := by
    by_cases q : r1.toInt < 0
    · exact ⟨by rw [aF, (p1.2.1 q).2, (p2.2.1 (by omega)).2, bF, hqF], by rw [(p2.2.1 (by omega)).2, bF]; exact hqG⟩
    · exact ⟨by rw [aF, (p1.2.2 (by omega)).2, (p2.2.2 (by omega)).2, bF, hqF, gc6], by rw [(p2.2.2 (by omega)).2, bF]; exact hqG.wn (by decide)⟩
  obtain ⟨rF, rG⟩ := rFG
  have hQ2 : zz_RD σ2 x y := ⟨rD, rW, rK, rB, rN, rC, rL, rT, rP, rX, rF, rG, rV⟩
  refine lv_pop hx hb dL_law_394 rfl ?_
  refine lv_goto (tgt := 1384) hx hb dL_law_395 (by decide) ?_
  exact kk _ _ _ hRL hQ2 hP hS
theorem gL_law_X8_personIs : GoodIn wsL_law (wsV RL 40 RX8 yX8_personIs wzX8_personIs) := wz_coL bm_321 (wz_coL bm_322 (wz_coL bm_323 (wz_coL bm_2 (wz_inL bm_324))))
theorem gL_law_X9_personIs : GoodIn wsL_law (wsV RL 43 RX9 yX9_personIs wzX9_personIs) := wz_coL bm_373 (wz_coL bm_374 (wz_coL bm_375 (wz_coL bm_5 (wz_inL bm_376))))
set_option maxHeartbeats 4000000 in
set_option maxRecDepth 100000 in
theorem lc_personIs {p : Program} {l : Launch} {e : Env} {s : State} {m : MethodId} {below : List Frame} {meth : Method} {c : Code} {b L x y : Nat} {xs : Nat → Int32} {E : zz_E} {Q : State → Prop} (hA : zz_LA p s m c b L xs E x y) (i : Int32) (hi : 0 ≤ i.toInt ∧ i.toInt + 6 ≤ L) (σ : zz_S) (H : Heap) (locs : List Loc) (ls : Array Slot) (hR : zz_RL σ x y) (hQ : zz_RD σ x y) (hP : zz_P E σ H) (hS : va_S (zz_A E) s.heap H locs) (hl : lv_has ls 4 [(0, .ref b), (1, .ref x), (2, .ref y), (3, .int i)])
    (kk : ∀ (σ1 : zz_S) (H1 : Heap) (locs1 : List Loc), zz_RL σ1 x y → zz_RD σ1 x y → zz_P E σ1 H1 → va_S (zz_A E) s.heap H1 locs1 → W p l e room_1 s m #[Value.ref b] below meth c H1 locs1 600000 7302250 Q (F0 m 1384 ls [])) : W p l e room_1 s m #[Value.ref b] below meth c H locs 600000 7302250 Q (F0 m 398 ls []) := by
  obtain ⟨hx, hb, hml, hown, hts, hX, hbl, hbE, hL, gL, gM, hxy, hK⟩ := hA
  have hbA : ¬ zz_A E b := fun h => absurd (hbE b h) (Nat.not_le.mpr hbl)
  have k_1 : (1 : Int32).toInt = 1 := by decide +kernel
  have k_2 : (2 : Int32).toInt = 2 := by decide +kernel
  refine lv_aload_n hx hb dL_law_398 rfl (lv_at hl 1 rfl) ?_
  refine lv_aload_n hx hb dL_law_399 rfl (lv_at hl 0 rfl) ?_
  refine lv_iload_n hx hb dL_law_400 rfl (lv_at hl 3 rfl) ?_
  refine lv_iconst (v := 1) hx hb dL_law_401 (by decide) ?_
  refine lv_iadd hx hb dL_law_402 ?_
  refine lv_topi (fun n1 e1 => ?_)
  have f1 : n1.toInt = (i).toInt + (1 : Int32).toInt := zz_addT e1 (by omega) (by omega)
  refine va_sld hx hb hX hbl hbA hS (vp_in_iff.mpr ⟨by omega, by omega⟩) dL_law_403 ?_
  refine lv_topi (fun v2 u2 => ?_)
  refine lv_aload_n hx hb dL_law_404 rfl (lv_at hl 0 rfl) ?_
  refine lv_iload_n hx hb dL_law_405 rfl (lv_at hl 3 rfl) ?_
  refine lv_iconst (v := 2) hx hb dL_law_406 (by decide) ?_
  refine lv_iadd hx hb dL_law_407 ?_
  refine lv_topi (fun n3 e3 => ?_)
  have f3 : n3.toInt = (i).toInt + (2 : Int32).toInt := zz_addT e3 (by omega) (by omega)
  refine va_sld hx hb hX hbl hbA hS (vp_in_iff.mpr ⟨by omega, by omega⟩) dL_law_408 ?_
  refine lv_topi (fun v4 u4 => ?_)
  refine zz_callVi (As := [.int v2, .int v4]) (rest := []) ⟨hx, hb, hml, hown, hts⟩ hK hP hS (c_X8_personIs l E σ x v2 v4 gL hR.1 (zy_KK σ x y) (zy_KX hR hQ)) (cwV 2 hts gL_law_X8_personIs rfl rfl rfl (by decide +kernel) ⟨Nat.le_of_ble_eq_true rfl, Nat.le_of_ble_eq_true rfl⟩) (gL.1) rfl rfl hl.1 rfl (Nat.le_of_ble_eq_true rfl) dL_law_409 ⟨Nat.le_refl _, Nat.le_refl _⟩ (fun r1 σ1 H locs q1 hP hS => ?_)
  try dsimp only at q1
  obtain ⟨w1, p1⟩ := q1
  have B : ∀ a k : Nat, y ≤ a → a ≤ y + 12 → σ1 a k = σ a k := fun a k h1 h2 => w1 a k ((dW_55 x y hxy) a k h1 h2)
  have hJ1 : zz_IM σ1 y := hR.2.1.far B
  refine lv_pop hx hb dL_law_412 rfl ?_
  refine lv_aload_n hx hb dL_law_413 rfl (lv_at hl 2 rfl) ?_
  refine lv_aload_n hx hb dL_law_414 rfl (lv_at hl 0 rfl) ?_
  refine lv_iload_n hx hb dL_law_415 rfl (lv_at hl 3 rfl) ?_
  refine lv_iconst (v := 1) hx hb dL_law_416 (by decide) ?_
  refine lv_iadd hx hb dL_law_417 ?_
  refine lv_topi (fun n6 e6 => ?_)
  have f6 : n6.toInt = (i).toInt + (1 : Int32).toInt := zz_addT e6 (by omega) (by omega)
  refine va_sld hx hb hX hbl hbA hS (vp_in_iff.mpr ⟨by omega, by omega⟩) dL_law_418 ?_
  refine lv_topi (fun v7 u7 => ?_)
  have z7 : v7 = v2 := by rw [u7, u2, e6, e1]
  have zt7 := congrArg Int32.toInt z7
  refine lv_aload_n hx hb dL_law_419 rfl (lv_at hl 0 rfl) ?_
  refine lv_iload_n hx hb dL_law_420 rfl (lv_at hl 3 rfl) ?_
  refine lv_iconst (v := 2) hx hb dL_law_421 (by decide) ?_
  refine lv_iadd hx hb dL_law_422 ?_
  refine lv_topi (fun n8 e8 => ?_)
  have f8 : n8.toInt = (i).toInt + (2 : Int32).toInt := zz_addT e8 (by omega) (by omega)
  refine va_sld hx hb hX hbl hbA hS (vp_in_iff.mpr ⟨by omega, by omega⟩) dL_law_423 ?_
  refine lv_topi (fun v9 u9 => ?_)
  have z9 : v9 = v4 := by rw [u9, u4, e8, e3]
  have zt9 := congrArg Int32.toInt z9
  refine zz_callVi (As := [.int v7, .int v9]) (rest := []) ⟨hx, hb, hml, hown, hts⟩ hK hP hS (c_X9_personIs l E σ1 y v7 v9 gM hJ1 (zy_KK σ x y) (zy_KY hR hQ B)) (cwV 2 hts gL_law_X9_personIs rfl rfl rfl (by decide +kernel) ⟨Nat.le_of_ble_eq_true rfl, Nat.le_of_ble_eq_true rfl⟩) (gM.1) rfl rfl hl.1 rfl (Nat.le_of_ble_eq_true rfl) dL_law_424 ⟨Nat.le_refl _, Nat.le_refl _⟩ (fun r2 σ2 H locs q2 hP hS => ?_)
  try dsimp only at q2
  obtain ⟨w2, p2⟩ := q2
  have A : ∀ a k : Nat, x ≤ a → a < x + 76 → σ2 a k = σ1 a k := fun a k h1 h2 => w2 a k ((dW_56 x y hxy) a k h1 h2)
  have i1 : zz_IX σ1 x := hR.1.soft (w1.mono (dW_57 x y hxy))
  have i2 : zz_IM σ2 y := hJ1.soft (w2.mono (dW_58 x y hxy))
  try simp only [z7, z9] at p2
  have hRL : zz_RL σ2 x y := hR.soft i1 i2 A B (fun k => w1 (x + 1) k ((dW_64 x y hxy) k)) (fun k hk => w2 (y + 1) k ((dW_59 x y hxy) k hk)) (fun k => w1 (x + 28) k ((dW_60 x y hxy) k)) (w1 x 2 (dW_61 x y hxy)) (fun k => w2 (y + 2) k ((dW_62 x y hxy) k)) (w2 y 2 (dW_63 x y hxy))
  obtain ⟨hqD, hqW, hqK, hqB, hqN, hqC, hqL, hqT, hqP, hqX, hqF, hqG, hqV⟩ := hQ
  obtain ⟨aD, aW, aKD, aKW, aB, aN, aC, aL, aT, aP, aX, aKP, aKX⟩ := zz_aX A
  obtain ⟨bD, bW, bKD, bKW, bB, bN, bC, bL, bT, bP, bX, bKP, bKX⟩ := zz_bM hR.2.1 B
  obtain ⟨aF, aKF, aV, aKV⟩ := zy_aX2 A
  obtain ⟨bF, bKF, bV, bKV⟩ := zy_bM2 B
  have rD : zz_DX σ2 (x + 1) = zz_DM σ2 (y + 1) := by rw [aD, zz_DXk (r := x + 1) w1 (dW_65 x y hxy), zz_DMk (a := y + 1) w2 (dW_66 x y hxy), bD, hqD]
  have rW : zz_PX 0 σ2 (x + 1) = zz_PM 0 σ2 (y + 1) := by rw [aW, zz_PXk (f := 0) (r := x + 1) w1 (dW_67 x y hxy), zz_PMk (f := 0) (a := y + 1) w2 (dW_68 x y hxy), bW, hqW]
  have rB : zz_HX 0 σ2 x = zz_HM σ2 (y + 4) := by rw [aB, zz_HX.eq (f := 0) (x := x) (fun j hj => w1 _ _ ((dW_69 x y hxy) j hj)), zz_HM.eq (a := y + 4) (fun j hj => w2 _ _ ((dW_70 x y hxy) j hj)), bB, hqB]
  have rN : zz_HX 1 σ2 x = zz_HM σ2 (y + 5) := by rw [aN, zz_HX.eq (f := 1) (x := x) (fun j hj => w1 _ _ ((dW_69 x y hxy) j hj)), zz_HM.eq (a := y + 5) (fun j hj => w2 _ _ ((dW_71 x y hxy) j hj)), bN, hqN]
  have rC : zz_CX σ2 x = zz_CM σ2 (y + 6) := by rw [aC, zz_CX.eq (x := x) (fun j hj k hk => w1 _ _ ((dW_72 x y hxy) j hj k hk)), zz_CM.eq (a := y + 6) (fun k hk => w2 _ _ ((dW_73 x y hxy) k hk)), bC, hqC]
  have rL : (σ2 (x + 56) 1).toInt = (σ2 y 18).toInt := by rw [aL, congrArg Int32.toInt (w1 (x + 56) 1 (dW_74 x y hxy)), congrArg Int32.toInt (w2 y 18 (dW_63 x y hxy)), bL, hqL]
  have rT : zz_TV σ2 (x + 56 + 1) = zz_TV σ2 (y + 12) := by rw [aT, zz_TV.eq (a := x + 56 + 1) (b := x + 56 + 1) (fun k _ => w1 _ k ((dW_75 x y hxy) k)), zz_TV.eq (a := y + 12) (b := y + 12) (fun k _ => w2 _ k ((dW_76 x y hxy) k)), bT, hqT]
  have rP : zz_Tp σ2 (x + 1 + 4) (σ2 (x + 1) 9).toInt = zz_Tm σ2 (y + 1) := by rw [aP, zz_Tp.all (a := x + 1 + 4) (b := x + 1 + 4) (congrArg Int32.toInt (w1 (x + 1) 9 (dW_77 x y hxy))) (fun k => w1 _ k ((dW_78 x y hxy) k)), zz_Tm.eq (a := y + 1) (b := y + 1) (w2 (y + 1) 5 (dW_79 x y hxy)) hJ1.1.2.2.2.2.1.2 (fun k hk => w2 (y + 1) (73 + k) ((dW_80 x y hxy) k hk)), bP, hqP]
  have rX : zz_tts (zz_XT σ2 (x + 1)) (zz_MT σ2 (y + 1)) := by rw [aX, zz_XT.all (r := x + 1) (fun a ha k => w1 a k ((dW_81 x y hxy) a ha k)), zz_MT.hi (a := y + 1) (b := y + 1) (fun k hk => w2 (y + 1) k ((dW_82 x y hxy) k hk)), bX]; exact hqX
  have rF : zz_PX 1 σ2 (x + 1) = zz_PM 1 σ2 (y + 1) := by rw [aF, zz_PXk (f := 1) (r := x + 1) w1 (dW_67 x y hxy), zz_PMk (f := 1) (a := y + 1) w2 (dW_68 x y hxy), bF, hqF]
  have rV : zy_wv σ2 (x + 1 + 5) 0 (σ2 (x + 1) 11).toInt = zy_wv σ2 (y + 1) 133 (σ2 (y + 1) 6).toInt := by rw [aV, zy_wv.eq (a := x + 1 + 5) (a1 := x + 1 + 5) (b := 0) (b1 := 0) (congrArg Int32.toInt (w1 (x + 1) 11 (dW_77 x y hxy))) (fun k hk => w1 (x + 1 + 5) (0 + k) ((dW_83 x y hxy) k hk)), zy_wv.eq (a := y + 1) (a1 := y + 1) (b := 133) (b1 := 133) (congrArg Int32.toInt (w2 (y + 1) 6 (dW_79 x y hxy))) (fun k hk => w2 (y + 1) (133 + k) ((dW_84 x y hxy) k hk)), bV, hqV]
  have rG : zy_FB (zz_PM 1 σ2 (y + 1)) := by rw [zz_PMk (f := 1) (a := y + 1) w2 (dW_68 x y hxy), bF]; exact hqG
  have rK : (σ2 x 2).toInt = 0 ∨ (zz_DX σ2 (x + 28) = zz_DM σ2 (y + 2) ∧ zz_PX 0 σ2 (x + 28) = zz_PM 0 σ2 (y + 2) ∧ zz_Tp σ2 (x + 28 + 4) (σ2 (x + 28) 9).toInt = zz_Tm σ2 (y + 2) ∧ zz_tts (zz_XT σ2 (x + 28)) (zz_MT σ2 (y + 2)) ∧ zz_PX 1 σ2 (x + 28) = zz_PM 1 σ2 (y + 2) ∧ zy_FB (zz_PM 1 σ2 (y + 2)) ∧ zy_wv σ2 (x + 28 + 5) 0 (σ2 (x + 28) 11).toInt = zy_wv σ2 (y + 2) 133 (σ2 (y + 2) 6).toInt) := hqK.elim (fun q => Or.inl ((congrArg Int32.toInt ((A x 2 (by omega) (by omega)).trans (w1 x 2 (dW_61 x y hxy)))).trans q)) (fun q => Or.inr ⟨by rw [aKD, zz_DXk (r := x + 28) w1 (dW_85 x y hxy), zz_DMk (a := y + 2) w2 (dW_86 x y hxy), bKD, q.1], by rw [aKW, zz_PXk (f := 0) (r := x + 28) w1 (dW_87 x y hxy), zz_PMk (f := 0) (a := y + 2) w2 (dW_88 x y hxy), bKW, q.2.1], by rw [aKP, zz_Tp.all (a := x + 28 + 4) (b := x + 28 + 4) (congrArg Int32.toInt (w1 (x + 28) 9 (dW_89 x y hxy))) (fun k => w1 _ k ((dW_90 x y hxy) k)), zz_Tm.eq (a := y + 2) (b := y + 2) (w2 (y + 2) 5 (dW_91 x y hxy)) hJ1.2.1.2.2.2.2.1.2 (fun k hk => w2 (y + 2) (73 + k) ((dW_92 x y hxy) k hk)), bKP, q.2.2.1], by rw [aKX, zz_XT.all (r := x + 28) (fun a ha k => w1 a k ((dW_93 x y hxy) a ha k)), zz_MT.hi (a := y + 2) (b := y + 2) (fun k hk => w2 (y + 2) k ((dW_94 x y hxy) k hk)), bKX]; exact q.2.2.2.1, by rw [aKF, zz_PXk (f := 1) (r := x + 28) w1 (dW_87 x y hxy), zz_PMk (f := 1) (a := y + 2) w2 (dW_88 x y hxy), bKF, q.2.2.2.2.1], by rw [zz_PMk (f := 1) (a := y + 2) w2 (dW_88 x y hxy), bKF]; exact q.2.2.2.2.2.1, by rw [aKV, zy_wv.eq (a := x + 28 + 5) (a1 := x + 28 + 5) (b := 0) (b1 := 0) (congrArg Int32.toInt (w1 (x + 28) 11 (dW_89 x y hxy))) (fun k hk => w1 (x + 28 + 5) (0 + k) ((dW_95 x y hxy) k hk)), zy_wv.eq (a := y + 2) (a1 := y + 2) (b := 133) (b1 := 133) (congrArg Int32.toInt (w2 (y + 2) 6 (dW_91 x y hxy))) (fun k hk => w2 (y + 2) (133 + k) ((dW_96 x y hxy) k hk)), bKV, q.2.2.2.2.2.2]⟩)
  have hQ2 : zz_RD σ2 x y := ⟨rD, rW, rK, rB, rN, rC, rL, rT, rP, rX, rF, rG, rV⟩
  refine lv_pop hx hb dL_law_427 rfl ?_
  refine lv_goto (tgt := 1384) hx hb dL_law_428 (by decide) ?_
  exact kk _ _ _ hRL hQ2 hP hS
theorem gL_law_X8_takesTo : GoodIn wsL_law (wsV RL 44 RX8 yX8_takesTo wzX8_takesTo) := wz_coL bm_408 (wz_coL bm_409 (wz_coL bm_410 (wz_coL bm_2 (wz_inL bm_411))))
theorem gL_law_X9_takesTo : GoodIn wsL_law (wsV RL 47 RX9 yX9_takesTo wzX9_takesTo) := wz_coL bm_412 (wz_coL bm_413 (wz_coL bm_414 (wz_coL bm_5 (wz_inL bm_415))))
theorem dW_192 (x y : Nat) (hxy : x + 76 ≤ y) : ∀ a k : Nat, y ≤ a → a ≤ y + 12 → ¬ ((a) = (x) + 24 ∨ (a) = (x) + 27 ∨ ((x) + 58 ≤ (a) ∧ (a) ≤ (x) + 67) ∨ ((x) + 16 ≤ (a) ∧ (a) < (x) + 22 ∧ (k) = 0)) := by intros; omega
theorem dW_193 (x y : Nat) (hxy : x + 76 ≤ y) : ∀ a k : Nat, x ≤ a → a < x + 76 → ¬ (((a) = (y) + 3 ∨ ((y) + 7 ≤ (a) ∧ (a) ≤ (y) + 11)) ∨ ((a) = (y) + 1 ∧ 61 ≤ (k) ∧ (k) < 73 ∧ (k) % 2 = 1)) := by intros; omega
theorem dW_194 (x y : Nat) (hxy : x + 76 ≤ y) : ∀ k : Nat, k ≤ 6 → ¬ ((((y + 1)) = (y) + 3 ∨ ((y) + 7 ≤ ((y + 1)) ∧ ((y + 1)) ≤ (y) + 11)) ∨ (((y + 1)) = (y) + 1 ∧ 61 ≤ (k) ∧ (k) < 73 ∧ (k) % 2 = 1)) := by intros; omega
theorem dW_195 (x y : Nat) (hxy : x + 76 ≤ y) : ∀ k : Nat, ¬ (((x + 28)) = (x) + 24 ∨ ((x + 28)) = (x) + 27 ∨ ((x) + 58 ≤ ((x + 28)) ∧ ((x + 28)) ≤ (x) + 67) ∨ ((x) + 16 ≤ ((x + 28)) ∧ ((x + 28)) < (x) + 22 ∧ (k) = 0)) := by intros; omega
theorem dW_196 (x y : Nat) (hxy : x + 76 ≤ y) : ¬ ((x) = (x) + 24 ∨ (x) = (x) + 27 ∨ ((x) + 58 ≤ (x) ∧ (x) ≤ (x) + 67) ∨ ((x) + 16 ≤ (x) ∧ (x) < (x) + 22 ∧ (2) = 0)) := by omega
theorem dW_197 (x y : Nat) (hxy : x + 76 ≤ y) : ∀ k : Nat, ¬ ((((y + 2)) = (y) + 3 ∨ ((y) + 7 ≤ ((y + 2)) ∧ ((y + 2)) ≤ (y) + 11)) ∨ (((y + 2)) = (y) + 1 ∧ 61 ≤ (k) ∧ (k) < 73 ∧ (k) % 2 = 1)) := by intros; omega
theorem dW_198 (x y : Nat) (hxy : x + 76 ≤ y) : ¬ (((y) = (y) + 3 ∨ ((y) + 7 ≤ (y) ∧ (y) ≤ (y) + 11)) ∨ ((y) = (y) + 1 ∧ 61 ≤ (2) ∧ (2) < 73 ∧ (2) % 2 = 1)) := by omega
theorem dW_199 (x y : Nat) (hxy : x + 76 ≤ y) : ∀ k : Nat, ¬ (((x + 1)) = (x) + 24 ∨ ((x + 1)) = (x) + 27 ∨ ((x) + 58 ≤ ((x + 1)) ∧ ((x + 1)) ≤ (x) + 67) ∨ ((x) + 16 ≤ ((x + 1)) ∧ ((x + 1)) < (x) + 22 ∧ (k) = 0)) := by intros; omega
theorem dW_200 (x y : Nat) (hxy : x + 76 ≤ y) : ∀ j : Nat, j < 9 → ∀ k : Nat, k < 6 → ¬ (((x + 1 + 6 + 1 * j)) = (x) + 24 ∨ ((x + 1 + 6 + 1 * j)) = (x) + 27 ∨ ((x) + 58 ≤ ((x + 1 + 6 + 1 * j)) ∧ ((x + 1 + 6 + 1 * j)) ≤ (x) + 67) ∨ ((x) + 16 ≤ ((x + 1 + 6 + 1 * j)) ∧ ((x + 1 + 6 + 1 * j)) < (x) + 22 ∧ (k) = 0)) := by intros; omega
theorem dW_201 (x y : Nat) (hxy : x + 76 ≤ y) : ∀ k : Nat, 7 ≤ k → k < 61 → ¬ ((((y + 1)) = (y) + 3 ∨ ((y) + 7 ≤ ((y + 1)) ∧ ((y + 1)) ≤ (y) + 11)) ∨ (((y + 1)) = (y) + 1 ∧ 61 ≤ (k) ∧ (k) < 73 ∧ (k) % 2 = 1)) := by intros; omega
theorem dW_202 (x y : Nat) (hxy : x + 76 ≤ y) : ∀ j : Nat, j < 4 → ¬ (((x + 68 + 2 * j)) = (x) + 24 ∨ ((x + 68 + 2 * j)) = (x) + 27 ∨ ((x) + 58 ≤ ((x + 68 + 2 * j)) ∧ ((x + 68 + 2 * j)) ≤ (x) + 67) ∨ ((x) + 16 ≤ ((x + 68 + 2 * j)) ∧ ((x + 68 + 2 * j)) < (x) + 22 ∧ (0) = 0)) := by intros; omega
theorem dW_203 (x y : Nat) (hxy : x + 76 ≤ y) : ∀ j : Nat, j < 4 → ¬ ((((y + 4)) = (y) + 3 ∨ ((y) + 7 ≤ ((y + 4)) ∧ ((y + 4)) ≤ (y) + 11)) ∨ (((y + 4)) = (y) + 1 ∧ 61 ≤ (j) ∧ (j) < 73 ∧ (j) % 2 = 1)) := by intros; omega
theorem dW_204 (x y : Nat) (hxy : x + 76 ≤ y) : ∀ j : Nat, j < 4 → ¬ (((x + 68 + 2 * j)) = (x) + 24 ∨ ((x + 68 + 2 * j)) = (x) + 27 ∨ ((x) + 58 ≤ ((x + 68 + 2 * j)) ∧ ((x + 68 + 2 * j)) ≤ (x) + 67) ∨ ((x) + 16 ≤ ((x + 68 + 2 * j)) ∧ ((x + 68 + 2 * j)) < (x) + 22 ∧ (1) = 0)) := by intros; omega
theorem dW_205 (x y : Nat) (hxy : x + 76 ≤ y) : ∀ j : Nat, j < 4 → ¬ ((((y + 5)) = (y) + 3 ∨ ((y) + 7 ≤ ((y + 5)) ∧ ((y + 5)) ≤ (y) + 11)) ∨ (((y + 5)) = (y) + 1 ∧ 61 ≤ (j) ∧ (j) < 73 ∧ (j) % 2 = 1)) := by intros; omega
theorem dW_206 (x y : Nat) (hxy : x + 76 ≤ y) : ∀ j : Nat, j < 4 → ∀ k : Nat, k < 24 → ¬ (((x + 68 + 2 * j + 1)) = (x) + 24 ∨ ((x + 68 + 2 * j + 1)) = (x) + 27 ∨ ((x) + 58 ≤ ((x + 68 + 2 * j + 1)) ∧ ((x + 68 + 2 * j + 1)) ≤ (x) + 67) ∨ ((x) + 16 ≤ ((x + 68 + 2 * j + 1)) ∧ ((x + 68 + 2 * j + 1)) < (x) + 22 ∧ (k) = 0)) := by intros; omega
theorem dW_207 (x y : Nat) (hxy : x + 76 ≤ y) : ∀ k : Nat, k < 96 → ¬ ((((y + 6)) = (y) + 3 ∨ ((y) + 7 ≤ ((y + 6)) ∧ ((y + 6)) ≤ (y) + 11)) ∨ (((y + 6)) = (y) + 1 ∧ 61 ≤ (k) ∧ (k) < 73 ∧ (k) % 2 = 1)) := by intros; omega
theorem dW_208 (x y : Nat) (hxy : x + 76 ≤ y) : ¬ (((x + 56)) = (x) + 24 ∨ ((x + 56)) = (x) + 27 ∨ ((x) + 58 ≤ ((x + 56)) ∧ ((x + 56)) ≤ (x) + 67) ∨ ((x) + 16 ≤ ((x + 56)) ∧ ((x + 56)) < (x) + 22 ∧ (1) = 0)) := by omega
theorem dW_209 (x y : Nat) (hxy : x + 76 ≤ y) : ¬ (((y) = (y) + 3 ∨ ((y) + 7 ≤ (y) ∧ (y) ≤ (y) + 11)) ∨ ((y) = (y) + 1 ∧ 61 ≤ (18) ∧ (18) < 73 ∧ (18) % 2 = 1)) := by omega
theorem dW_210 (x y : Nat) (hxy : x + 76 ≤ y) : ∀ k : Nat, ¬ (((x + 56 + 1)) = (x) + 24 ∨ ((x + 56 + 1)) = (x) + 27 ∨ ((x) + 58 ≤ ((x + 56 + 1)) ∧ ((x + 56 + 1)) ≤ (x) + 67) ∨ ((x) + 16 ≤ ((x + 56 + 1)) ∧ ((x + 56 + 1)) < (x) + 22 ∧ (k) = 0)) := by intros; omega
theorem dW_211 (x y : Nat) (hxy : x + 76 ≤ y) : ∀ k : Nat, ¬ ((((y + 12)) = (y) + 3 ∨ ((y) + 7 ≤ ((y + 12)) ∧ ((y + 12)) ≤ (y) + 11)) ∨ (((y + 12)) = (y) + 1 ∧ 61 ≤ (k) ∧ (k) < 73 ∧ (k) % 2 = 1)) := by intros; omega
theorem dW_212 (x y : Nat) (hxy : x + 76 ≤ y) : ¬ (((x + 1)) = (x) + 24 ∨ ((x + 1)) = (x) + 27 ∨ ((x) + 58 ≤ ((x + 1)) ∧ ((x + 1)) ≤ (x) + 67) ∨ ((x) + 16 ≤ ((x + 1)) ∧ ((x + 1)) < (x) + 22 ∧ (9) = 0)) := by omega
theorem dW_213 (x y : Nat) (hxy : x + 76 ≤ y) : ∀ k : Nat, ¬ (((x + 1 + 4)) = (x) + 24 ∨ ((x + 1 + 4)) = (x) + 27 ∨ ((x) + 58 ≤ ((x + 1 + 4)) ∧ ((x + 1 + 4)) ≤ (x) + 67) ∨ ((x) + 16 ≤ ((x + 1 + 4)) ∧ ((x + 1 + 4)) < (x) + 22 ∧ (k) = 0)) := by intros; omega
theorem dW_214 (x y : Nat) (hxy : x + 76 ≤ y) : ¬ ((((y + 1)) = (y) + 3 ∨ ((y) + 7 ≤ ((y + 1)) ∧ ((y + 1)) ≤ (y) + 11)) ∨ (((y + 1)) = (y) + 1 ∧ 61 ≤ (5) ∧ (5) < 73 ∧ (5) % 2 = 1)) := by omega
theorem dW_215 (x y : Nat) (hxy : x + 76 ≤ y) : ∀ k : Nat, k < 60 → ¬ ((((y + 1)) = (y) + 3 ∨ ((y) + 7 ≤ ((y + 1)) ∧ ((y + 1)) ≤ (y) + 11)) ∨ (((y + 1)) = (y) + 1 ∧ 61 ≤ ((73 + k)) ∧ ((73 + k)) < 73 ∧ ((73 + k)) % 2 = 1)) := by intros; omega
theorem dW_216 (x y : Nat) (hxy : x + 76 ≤ y) : ∀ a : Nat, (a = x + 1 + 21 ∨ a = x + 1 + 22 ∨ a = x + 1 + 24 ∨ a = x + 1 + 25) → ∀ k : Nat, ¬ ((a) = (x) + 24 ∨ (a) = (x) + 27 ∨ ((x) + 58 ≤ (a) ∧ (a) ≤ (x) + 67) ∨ ((x) + 16 ≤ (a) ∧ (a) < (x) + 22 ∧ (k) = 0)) := by intros; omega
theorem dW_217 (x y : Nat) (hxy : x + 76 ≤ y) : ∀ k : Nat, 157 ≤ k → ¬ ((((y + 1)) = (y) + 3 ∨ ((y) + 7 ≤ ((y + 1)) ∧ ((y + 1)) ≤ (y) + 11)) ∨ (((y + 1)) = (y) + 1 ∧ 61 ≤ (k) ∧ (k) < 73 ∧ (k) % 2 = 1)) := by intros; omega
theorem dW_218 (x y : Nat) (hxy : x + 76 ≤ y) : ∀ j : Nat, j < 6 → ¬ (((x + 1 + 15 + 1 * j)) = (x) + 24 ∨ ((x + 1 + 15 + 1 * j)) = (x) + 27 ∨ ((x) + 58 ≤ ((x + 1 + 15 + 1 * j)) ∧ ((x + 1 + 15 + 1 * j)) ≤ (x) + 67) ∨ ((x) + 16 ≤ ((x + 1 + 15 + 1 * j)) ∧ ((x + 1 + 15 + 1 * j)) < (x) + 22 ∧ (1) = 0)) := by intros; omega
theorem dW_219 (x y : Nat) (hxy : x + 76 ≤ y) : ∀ j : Nat, j < 6 → ¬ ((((y + 1)) = (y) + 3 ∨ ((y) + 7 ≤ ((y + 1)) ∧ ((y + 1)) ≤ (y) + 11)) ∨ (((y + 1)) = (y) + 1 ∧ 61 ≤ ((61 + 2 * j + 1)) ∧ ((61 + 2 * j + 1)) < 73 ∧ ((61 + 2 * j + 1)) % 2 = 1)) := by intros; omega
theorem dW_220 (x y : Nat) (hxy : x + 76 ≤ y) : ¬ (((x + 1)) = (x) + 24 ∨ ((x + 1)) = (x) + 27 ∨ ((x) + 58 ≤ ((x + 1)) ∧ ((x + 1)) ≤ (x) + 67) ∨ ((x) + 16 ≤ ((x + 1)) ∧ ((x + 1)) < (x) + 22 ∧ (11) = 0)) := by omega
theorem dW_221 (x y : Nat) (hxy : x + 76 ≤ y) : ∀ k : Nat, k < 24 → ¬ (((x + 1 + 5)) = (x) + 24 ∨ ((x + 1 + 5)) = (x) + 27 ∨ ((x) + 58 ≤ ((x + 1 + 5)) ∧ ((x + 1 + 5)) ≤ (x) + 67) ∨ ((x) + 16 ≤ ((x + 1 + 5)) ∧ ((x + 1 + 5)) < (x) + 22 ∧ ((0 + k)) = 0)) := by intros; omega
theorem dW_222 (x y : Nat) (hxy : x + 76 ≤ y) : ¬ ((((y + 1)) = (y) + 3 ∨ ((y) + 7 ≤ ((y + 1)) ∧ ((y + 1)) ≤ (y) + 11)) ∨ (((y + 1)) = (y) + 1 ∧ 61 ≤ (6) ∧ (6) < 73 ∧ (6) % 2 = 1)) := by omega
theorem dW_223 (x y : Nat) (hxy : x + 76 ≤ y) : ∀ k : Nat, k < 24 → ¬ ((((y + 1)) = (y) + 3 ∨ ((y) + 7 ≤ ((y + 1)) ∧ ((y + 1)) ≤ (y) + 11)) ∨ (((y + 1)) = (y) + 1 ∧ 61 ≤ ((133 + k)) ∧ ((133 + k)) < 73 ∧ ((133 + k)) % 2 = 1)) := by intros; omega
theorem dW_224 (x y : Nat) (hxy : x + 76 ≤ y) : ∀ j : Nat, j < 9 → ∀ k : Nat, k < 6 → ¬ (((x + 28 + 6 + 1 * j)) = (x) + 24 ∨ ((x + 28 + 6 + 1 * j)) = (x) + 27 ∨ ((x) + 58 ≤ ((x + 28 + 6 + 1 * j)) ∧ ((x + 28 + 6 + 1 * j)) ≤ (x) + 67) ∨ ((x) + 16 ≤ ((x + 28 + 6 + 1 * j)) ∧ ((x + 28 + 6 + 1 * j)) < (x) + 22 ∧ (k) = 0)) := by intros; omega
theorem dW_225 (x y : Nat) (hxy : x + 76 ≤ y) : ∀ k : Nat, 7 ≤ k → k < 61 → ¬ ((((y + 2)) = (y) + 3 ∨ ((y) + 7 ≤ ((y + 2)) ∧ ((y + 2)) ≤ (y) + 11)) ∨ (((y + 2)) = (y) + 1 ∧ 61 ≤ (k) ∧ (k) < 73 ∧ (k) % 2 = 1)) := by intros; omega
theorem dW_226 (x y : Nat) (hxy : x + 76 ≤ y) : ∀ j : Nat, j < 6 → ¬ (((x + 28 + 15 + 1 * j)) = (x) + 24 ∨ ((x + 28 + 15 + 1 * j)) = (x) + 27 ∨ ((x) + 58 ≤ ((x + 28 + 15 + 1 * j)) ∧ ((x + 28 + 15 + 1 * j)) ≤ (x) + 67) ∨ ((x) + 16 ≤ ((x + 28 + 15 + 1 * j)) ∧ ((x + 28 + 15 + 1 * j)) < (x) + 22 ∧ (0) = 0)) := by intros; omega
theorem dW_227 (x y : Nat) (hxy : x + 76 ≤ y) : ∀ j : Nat, j < 6 → ¬ ((((y + 2)) = (y) + 3 ∨ ((y) + 7 ≤ ((y + 2)) ∧ ((y + 2)) ≤ (y) + 11)) ∨ (((y + 2)) = (y) + 1 ∧ 61 ≤ ((61 + 2 * j + 0)) ∧ ((61 + 2 * j + 0)) < 73 ∧ ((61 + 2 * j + 0)) % 2 = 1)) := by intros; omega
theorem dW_228 (x y : Nat) (hxy : x + 76 ≤ y) : ¬ (((x + 28)) = (x) + 24 ∨ ((x + 28)) = (x) + 27 ∨ ((x) + 58 ≤ ((x + 28)) ∧ ((x + 28)) ≤ (x) + 67) ∨ ((x) + 16 ≤ ((x + 28)) ∧ ((x + 28)) < (x) + 22 ∧ (9) = 0)) := by omega
theorem dW_229 (x y : Nat) (hxy : x + 76 ≤ y) : ∀ k : Nat, ¬ (((x + 28 + 4)) = (x) + 24 ∨ ((x + 28 + 4)) = (x) + 27 ∨ ((x) + 58 ≤ ((x + 28 + 4)) ∧ ((x + 28 + 4)) ≤ (x) + 67) ∨ ((x) + 16 ≤ ((x + 28 + 4)) ∧ ((x + 28 + 4)) < (x) + 22 ∧ (k) = 0)) := by intros; omega
theorem dW_230 (x y : Nat) (hxy : x + 76 ≤ y) : ¬ ((((y + 2)) = (y) + 3 ∨ ((y) + 7 ≤ ((y + 2)) ∧ ((y + 2)) ≤ (y) + 11)) ∨ (((y + 2)) = (y) + 1 ∧ 61 ≤ (5) ∧ (5) < 73 ∧ (5) % 2 = 1)) := by omega
theorem dW_231 (x y : Nat) (hxy : x + 76 ≤ y) : ∀ k : Nat, k < 60 → ¬ ((((y + 2)) = (y) + 3 ∨ ((y) + 7 ≤ ((y + 2)) ∧ ((y + 2)) ≤ (y) + 11)) ∨ (((y + 2)) = (y) + 1 ∧ 61 ≤ ((73 + k)) ∧ ((73 + k)) < 73 ∧ ((73 + k)) % 2 = 1)) := by intros; omega
theorem dW_232 (x y : Nat) (hxy : x + 76 ≤ y) : ∀ a : Nat, (a = x + 28 + 21 ∨ a = x + 28 + 22 ∨ a = x + 28 + 24 ∨ a = x + 28 + 25) → ∀ k : Nat, ¬ ((a) = (x) + 24 ∨ (a) = (x) + 27 ∨ ((x) + 58 ≤ (a) ∧ (a) ≤ (x) + 67) ∨ ((x) + 16 ≤ (a) ∧ (a) < (x) + 22 ∧ (k) = 0)) := by intros; omega
theorem dW_233 (x y : Nat) (hxy : x + 76 ≤ y) : ∀ k : Nat, 157 ≤ k → ¬ ((((y + 2)) = (y) + 3 ∨ ((y) + 7 ≤ ((y + 2)) ∧ ((y + 2)) ≤ (y) + 11)) ∨ (((y + 2)) = (y) + 1 ∧ 61 ≤ (k) ∧ (k) < 73 ∧ (k) % 2 = 1)) := by intros; omega
theorem dW_234 (x y : Nat) (hxy : x + 76 ≤ y) : ∀ j : Nat, j < 6 → ¬ (((x + 28 + 15 + 1 * j)) = (x) + 24 ∨ ((x + 28 + 15 + 1 * j)) = (x) + 27 ∨ ((x) + 58 ≤ ((x + 28 + 15 + 1 * j)) ∧ ((x + 28 + 15 + 1 * j)) ≤ (x) + 67) ∨ ((x) + 16 ≤ ((x + 28 + 15 + 1 * j)) ∧ ((x + 28 + 15 + 1 * j)) < (x) + 22 ∧ (1) = 0)) := by intros; omega
theorem dW_235 (x y : Nat) (hxy : x + 76 ≤ y) : ∀ j : Nat, j < 6 → ¬ ((((y + 2)) = (y) + 3 ∨ ((y) + 7 ≤ ((y + 2)) ∧ ((y + 2)) ≤ (y) + 11)) ∨ (((y + 2)) = (y) + 1 ∧ 61 ≤ ((61 + 2 * j + 1)) ∧ ((61 + 2 * j + 1)) < 73 ∧ ((61 + 2 * j + 1)) % 2 = 1)) := by intros; omega
theorem dW_236 (x y : Nat) (hxy : x + 76 ≤ y) : ¬ (((x + 28)) = (x) + 24 ∨ ((x + 28)) = (x) + 27 ∨ ((x) + 58 ≤ ((x + 28)) ∧ ((x + 28)) ≤ (x) + 67) ∨ ((x) + 16 ≤ ((x + 28)) ∧ ((x + 28)) < (x) + 22 ∧ (11) = 0)) := by omega
theorem dW_237 (x y : Nat) (hxy : x + 76 ≤ y) : ∀ k : Nat, k < 24 → ¬ (((x + 28 + 5)) = (x) + 24 ∨ ((x + 28 + 5)) = (x) + 27 ∨ ((x) + 58 ≤ ((x + 28 + 5)) ∧ ((x + 28 + 5)) ≤ (x) + 67) ∨ ((x) + 16 ≤ ((x + 28 + 5)) ∧ ((x + 28 + 5)) < (x) + 22 ∧ ((0 + k)) = 0)) := by intros; omega
theorem dW_238 (x y : Nat) (hxy : x + 76 ≤ y) : ¬ ((((y + 2)) = (y) + 3 ∨ ((y) + 7 ≤ ((y + 2)) ∧ ((y + 2)) ≤ (y) + 11)) ∨ (((y + 2)) = (y) + 1 ∧ 61 ≤ (6) ∧ (6) < 73 ∧ (6) % 2 = 1)) := by omega
theorem dW_239 (x y : Nat) (hxy : x + 76 ≤ y) : ∀ k : Nat, k < 24 → ¬ ((((y + 2)) = (y) + 3 ∨ ((y) + 7 ≤ ((y + 2)) ∧ ((y + 2)) ≤ (y) + 11)) ∨ (((y + 2)) = (y) + 1 ∧ 61 ≤ ((133 + k)) ∧ ((133 + k)) < 73 ∧ ((133 + k)) % 2 = 1)) := by intros; omega
set_option maxHeartbeats 4000000 in
set_option maxRecDepth 100000 in
theorem lc_takesTo {p : Program} {l : Launch} {e : Env} {s : State} {m : MethodId} {below : List Frame} {meth : Method} {c : Code} {b L x y : Nat} {xs : Nat → Int32} {E : zz_E} {Q : State → Prop} (hA : zz_LA p s m c b L xs E x y) (i : Int32) (hi : 0 ≤ i.toInt ∧ i.toInt + 6 ≤ L) (σ : zz_S) (H : Heap) (locs : List Loc) (ls : Array Slot) (hR : zz_RL σ x y) (hQ : zz_RD σ x y) (hP : zz_P E σ H) (hS : va_S (zz_A E) s.heap H locs) (hl : lv_has ls 4 [(0, .ref b), (1, .ref x), (2, .ref y), (3, .int i)])
    (kk : ∀ (σ1 : zz_S) (H1 : Heap) (locs1 : List Loc), zz_RL σ1 x y → zz_RD σ1 x y → zz_P E σ1 H1 → va_S (zz_A E) s.heap H1 locs1 → W p l e room_1 s m #[Value.ref b] below meth c H1 locs1 600000 7302250 Q (F0 m 1384 ls [])) : W p l e room_1 s m #[Value.ref b] below meth c H locs 600000 7302250 Q (F0 m 431 ls []) := by
  obtain ⟨hx, hb, hml, hown, hts, hX, hbl, hbE, hL, gL, gM, hxy, hK⟩ := hA
  have hbA : ¬ zz_A E b := fun h => absurd (hbE b h) (Nat.not_le.mpr hbl)
  have k_1 : (1 : Int32).toInt = 1 := by decide +kernel
  have k_2 : (2 : Int32).toInt = 2 := by decide +kernel
  refine lv_aload_n hx hb dL_law_431 rfl (lv_at hl 1 rfl) ?_
  refine lv_aload_n hx hb dL_law_432 rfl (lv_at hl 0 rfl) ?_
  refine lv_iload_n hx hb dL_law_433 rfl (lv_at hl 3 rfl) ?_
  refine lv_iconst (v := 1) hx hb dL_law_434 (by decide) ?_
  refine lv_iadd hx hb dL_law_435 ?_
  refine lv_topi (fun n1 e1 => ?_)
  have f1 : n1.toInt = (i).toInt + (1 : Int32).toInt := zz_addT e1 (by omega) (by omega)
  refine va_sld hx hb hX hbl hbA hS (vp_in_iff.mpr ⟨by omega, by omega⟩) dL_law_436 ?_
  refine lv_topi (fun v2 u2 => ?_)
  refine lv_aload_n hx hb dL_law_437 rfl (lv_at hl 0 rfl) ?_
  refine lv_iload_n hx hb dL_law_438 rfl (lv_at hl 3 rfl) ?_
  refine lv_iconst (v := 2) hx hb dL_law_439 (by decide) ?_
  refine lv_iadd hx hb dL_law_440 ?_
  refine lv_topi (fun n3 e3 => ?_)
  have f3 : n3.toInt = (i).toInt + (2 : Int32).toInt := zz_addT e3 (by omega) (by omega)
  refine va_sld hx hb hX hbl hbA hS (vp_in_iff.mpr ⟨by omega, by omega⟩) dL_law_441 ?_
  refine lv_topi (fun v4 u4 => ?_)
  refine zz_callVi (As := [.int v2, .int v4]) (rest := []) ⟨hx, hb, hml, hown, hts⟩ hK hP hS (c_X8_takesTo l E σ x v2 v4 gL hR.1) (cwV 2 hts gL_law_X8_takesTo rfl rfl rfl (by decide +kernel) ⟨Nat.le_of_ble_eq_true rfl, Nat.le_of_ble_eq_true rfl⟩) (gL.1) rfl rfl hl.1 rfl (Nat.le_of_ble_eq_true rfl) dL_law_442 ⟨Nat.le_refl _, Nat.le_refl _⟩ (fun r1 σ1 H locs q1 hP hS => ?_)
  try dsimp only at q1
  obtain ⟨w1, p1⟩ := q1
  have B : ∀ a k : Nat, y ≤ a → a ≤ y + 12 → σ1 a k = σ a k := fun a k h1 h2 => w1 a k ((dW_192 x y hxy) a k h1 h2)
  have hJ1 : zz_IM σ1 y := hR.2.1.far B
  refine lv_pop hx hb dL_law_445 rfl ?_
  refine lv_aload_n hx hb dL_law_446 rfl (lv_at hl 2 rfl) ?_
  refine lv_aload_n hx hb dL_law_447 rfl (lv_at hl 0 rfl) ?_
  refine lv_iload_n hx hb dL_law_448 rfl (lv_at hl 3 rfl) ?_
  refine lv_iconst (v := 1) hx hb dL_law_449 (by decide) ?_
  refine lv_iadd hx hb dL_law_450 ?_
  refine lv_topi (fun n6 e6 => ?_)
  have f6 : n6.toInt = (i).toInt + (1 : Int32).toInt := zz_addT e6 (by omega) (by omega)
  refine va_sld hx hb hX hbl hbA hS (vp_in_iff.mpr ⟨by omega, by omega⟩) dL_law_451 ?_
  refine lv_topi (fun v7 u7 => ?_)
  have z7 : v7 = v2 := by rw [u7, u2, e6, e1]
  have zt7 := congrArg Int32.toInt z7
  refine lv_aload_n hx hb dL_law_452 rfl (lv_at hl 0 rfl) ?_
  refine lv_iload_n hx hb dL_law_453 rfl (lv_at hl 3 rfl) ?_
  refine lv_iconst (v := 2) hx hb dL_law_454 (by decide) ?_
  refine lv_iadd hx hb dL_law_455 ?_
  refine lv_topi (fun n8 e8 => ?_)
  have f8 : n8.toInt = (i).toInt + (2 : Int32).toInt := zz_addT e8 (by omega) (by omega)
  refine va_sld hx hb hX hbl hbA hS (vp_in_iff.mpr ⟨by omega, by omega⟩) dL_law_456 ?_
  refine lv_topi (fun v9 u9 => ?_)
  have z9 : v9 = v4 := by rw [u9, u4, e8, e3]
  have zt9 := congrArg Int32.toInt z9
  refine zz_callVi (As := [.int v7, .int v9]) (rest := []) ⟨hx, hb, hml, hown, hts⟩ hK hP hS (c_X9_takesTo l E σ1 y v7 v9 gM hJ1) (cwV 2 hts gL_law_X9_takesTo rfl rfl rfl (by decide +kernel) ⟨Nat.le_of_ble_eq_true rfl, Nat.le_of_ble_eq_true rfl⟩) (gM.1) rfl rfl hl.1 rfl (Nat.le_of_ble_eq_true rfl) dL_law_457 ⟨Nat.le_refl _, Nat.le_refl _⟩ (fun r2 σ2 H locs q2 hP hS => ?_)
  try dsimp only at q2
  obtain ⟨w2, p2⟩ := q2
  have A : ∀ a k : Nat, x ≤ a → a < x + 76 → σ2 a k = σ1 a k := fun a k h1 h2 => w2 a k ((dW_193 x y hxy) a k h1 h2)
  obtain ⟨i1, p1⟩ := p1
  obtain ⟨i2, p2⟩ := p2
  try simp only [z7, z9] at p2
  have hRL : zz_RL σ2 x y := hR.soft i1 i2 A B (fun k => w1 (x + 1) k ((dW_199 x y hxy) k)) (fun k hk => w2 (y + 1) k ((dW_194 x y hxy) k hk)) (fun k => w1 (x + 28) k ((dW_195 x y hxy) k)) (w1 x 2 (dW_196 x y hxy)) (fun k => w2 (y + 2) k ((dW_197 x y hxy) k)) (w2 y 2 (dW_198 x y hxy))
  obtain ⟨hqD, hqW, hqK, hqB, hqN, hqC, hqL, hqT, hqP, hqX, hqF, hqG, hqV⟩ := hQ
  obtain ⟨aD, aW, aKD, aKW, aB, aN, aC, aL, aT, aP, aX, aKP, aKX⟩ := zz_aX A
  obtain ⟨bD, bW, bKD, bKW, bB, bN, bC, bL, bT, bP, bX, bKP, bKX⟩ := zz_bM hR.2.1 B
  obtain ⟨aF, aKF, aV, aKV⟩ := zy_aX2 A
  obtain ⟨bF, bKF, bV, bKV⟩ := zy_bM2 B
  have rD : zz_DX σ2 (x + 1) = zz_DM σ2 (y + 1) := by rw [aD, zz_DXk (r := x + 1) w1 (dW_200 x y hxy), zz_DMk (a := y + 1) w2 (dW_201 x y hxy), bD, hqD]
  have rB : zz_HX 0 σ2 x = zz_HM σ2 (y + 4) := by rw [aB, zz_HX.eq (f := 0) (x := x) (fun j hj => w1 _ _ ((dW_202 x y hxy) j hj)), zz_HM.eq (a := y + 4) (fun j hj => w2 _ _ ((dW_203 x y hxy) j hj)), bB, hqB]
  have rN : zz_HX 1 σ2 x = zz_HM σ2 (y + 5) := by rw [aN, zz_HX.eq (f := 1) (x := x) (fun j hj => w1 _ _ ((dW_204 x y hxy) j hj)), zz_HM.eq (a := y + 5) (fun j hj => w2 _ _ ((dW_205 x y hxy) j hj)), bN, hqN]
  have rC : zz_CX σ2 x = zz_CM σ2 (y + 6) := by rw [aC, zz_CX.eq (x := x) (fun j hj k hk => w1 _ _ ((dW_206 x y hxy) j hj k hk)), zz_CM.eq (a := y + 6) (fun k hk => w2 _ _ ((dW_207 x y hxy) k hk)), bC, hqC]
  have rL : (σ2 (x + 56) 1).toInt = (σ2 y 18).toInt := by rw [aL, congrArg Int32.toInt (w1 (x + 56) 1 (dW_208 x y hxy)), congrArg Int32.toInt (w2 y 18 (dW_209 x y hxy)), bL, hqL]
  have rT : zz_TV σ2 (x + 56 + 1) = zz_TV σ2 (y + 12) := by rw [aT, zz_TV.eq (a := x + 56 + 1) (b := x + 56 + 1) (fun k _ => w1 _ k ((dW_210 x y hxy) k)), zz_TV.eq (a := y + 12) (b := y + 12) (fun k _ => w2 _ k ((dW_211 x y hxy) k)), bT, hqT]
  have rP : zz_Tp σ2 (x + 1 + 4) (σ2 (x + 1) 9).toInt = zz_Tm σ2 (y + 1) := by rw [aP, zz_Tp.all (a := x + 1 + 4) (b := x + 1 + 4) (congrArg Int32.toInt (w1 (x + 1) 9 (dW_212 x y hxy))) (fun k => w1 _ k ((dW_213 x y hxy) k)), zz_Tm.eq (a := y + 1) (b := y + 1) (w2 (y + 1) 5 (dW_214 x y hxy)) hJ1.1.2.2.2.2.1.2 (fun k hk => w2 (y + 1) (73 + k) ((dW_215 x y hxy) k hk)), bP, hqP]
  have rX : zz_tts (zz_XT σ2 (x + 1)) (zz_MT σ2 (y + 1)) := by rw [aX, zz_XT.all (r := x + 1) (fun a ha k => w1 a k ((dW_216 x y hxy) a ha k)), zz_MT.hi (a := y + 1) (b := y + 1) (fun k hk => w2 (y + 1) k ((dW_217 x y hxy) k hk)), bX]; exact hqX
  have rF : zz_PX 1 σ2 (x + 1) = zz_PM 1 σ2 (y + 1) := by rw [aF, zz_PXk (f := 1) (r := x + 1) w1 (dW_218 x y hxy), zz_PMk (f := 1) (a := y + 1) w2 (dW_219 x y hxy), bF, hqF]
  have rV : zy_wv σ2 (x + 1 + 5) 0 (σ2 (x + 1) 11).toInt = zy_wv σ2 (y + 1) 133 (σ2 (y + 1) 6).toInt := by rw [aV, zy_wv.eq (a := x + 1 + 5) (a1 := x + 1 + 5) (b := 0) (b1 := 0) (congrArg Int32.toInt (w1 (x + 1) 11 (dW_220 x y hxy))) (fun k hk => w1 (x + 1 + 5) (0 + k) ((dW_221 x y hxy) k hk)), zy_wv.eq (a := y + 1) (a1 := y + 1) (b := 133) (b1 := 133) (congrArg Int32.toInt (w2 (y + 1) 6 (dW_222 x y hxy))) (fun k hk => w2 (y + 1) (133 + k) ((dW_223 x y hxy) k hk)), bV, hqV]
  have rG : zy_FB (zz_PM 1 σ2 (y + 1)) := by rw [zz_PMk (f := 1) (a := y + 1) w2 (dW_219 x y hxy), bF]; exact hqG
  have rK : (σ2 x 2).toInt = 0 ∨ (zz_DX σ2 (x + 28) = zz_DM σ2 (y + 2) ∧ zz_PX 0 σ2 (x + 28) = zz_PM 0 σ2 (y + 2) ∧ zz_Tp σ2 (x + 28 + 4) (σ2 (x + 28) 9).toInt = zz_Tm σ2 (y + 2) ∧ zz_tts (zz_XT σ2 (x + 28)) (zz_MT σ2 (y + 2)) ∧ zz_PX 1 σ2 (x + 28) = zz_PM 1 σ2 (y + 2) ∧ zy_FB (zz_PM 1 σ2 (y + 2)) ∧ zy_wv σ2 (x + 28 + 5) 0 (σ2 (x + 28) 11).toInt = zy_wv σ2 (y + 2) 133 (σ2 (y + 2) 6).toInt) := hqK.elim (fun q => Or.inl ((congrArg Int32.toInt ((A x 2 (by omega) (by omega)).trans (w1 x 2 (dW_196 x y hxy)))).trans q)) (fun q => Or.inr ⟨by rw [aKD, zz_DXk (r := x + 28) w1 (dW_224 x y hxy), zz_DMk (a := y + 2) w2 (dW_225 x y hxy), bKD, q.1], by rw [aKW, zz_PXk (f := 0) (r := x + 28) w1 (dW_226 x y hxy), zz_PMk (f := 0) (a := y + 2) w2 (dW_227 x y hxy), bKW, q.2.1], by rw [aKP, zz_Tp.all (a := x + 28 + 4) (b := x + 28 + 4) (congrArg Int32.toInt (w1 (x + 28) 9 (dW_228 x y hxy))) (fun k => w1 _ k ((dW_229 x y hxy) k)), zz_Tm.eq (a := y + 2) (b := y + 2) (w2 (y + 2) 5 (dW_230 x y hxy)) hJ1.2.1.2.2.2.2.1.2 (fun k hk => w2 (y + 2) (73 + k) ((dW_231 x y hxy) k hk)), bKP, q.2.2.1], by rw [aKX, zz_XT.all (r := x + 28) (fun a ha k => w1 a k ((dW_232 x y hxy) a ha k)), zz_MT.hi (a := y + 2) (b := y + 2) (fun k hk => w2 (y + 2) k ((dW_233 x y hxy) k hk)), bKX]; exact q.2.2.2.1, by rw [aKF, zz_PXk (f := 1) (r := x + 28) w1 (dW_234 x y hxy), zz_PMk (f := 1) (a := y + 2) w2 (dW_235 x y hxy), bKF, q.2.2.2.2.1], by rw [zz_PMk (f := 1) (a := y + 2) w2 (dW_235 x y hxy), bKF]; exact q.2.2.2.2.2.1, by rw [aKV, zy_wv.eq (a := x + 28 + 5) (a1 := x + 28 + 5) (b := 0) (b1 := 0) (congrArg Int32.toInt (w1 (x + 28) 11 (dW_236 x y hxy))) (fun k hk => w1 (x + 28 + 5) (0 + k) ((dW_237 x y hxy) k hk)), zy_wv.eq (a := y + 2) (a1 := y + 2) (b := 133) (b1 := 133) (congrArg Int32.toInt (w2 (y + 2) 6 (dW_238 x y hxy))) (fun k hk => w2 (y + 2) (133 + k) ((dW_239 x y hxy) k hk)), bKV, q.2.2.2.2.2.2]⟩)
  have gc6 : (σ (x + 1) 6).toInt = (σ1 (y + 1) 3).toInt := hR.2.2.1.2.2.2.2.1.trans (congrArg Int32.toInt (B (y + 1) 3 (by omega) (by omega))).symm
  have rB2 : zz_PX 0 σ2 (x + 1) = zz_PM 0 σ2 (y + 1) ∧ r1.toInt = r2.toInt := by
    rcases p1 with ⟨a1, a2, a3⟩ | ⟨a1, a2, a3⟩
    · rcases p2 with ⟨b1, b2, b3⟩ | ⟨b1, b2, b3⟩
      · exact ⟨by rw [aW, a3, b3, bW, hqW], by omega⟩
      · exact absurd b1 (by omega)
    · rcases p2 with ⟨b1, b2, b3⟩ | ⟨b1, b2, b3⟩
      · exact absurd a1 (by omega)
      · exact ⟨by rw [aW, a3, b3, bW, hqW], by rw [a2, b2, bW, hqW]⟩
  have rW := rB2.1
  have hQ2 : zz_RD σ2 x y := ⟨rD, rW, rK, rB, rN, rC, rL, rT, rP, rX, rF, rG, rV⟩
  refine lv_pop hx hb dL_law_460 rfl ?_
  refine lv_goto (tgt := 1384) hx hb dL_law_461 (by decide) ?_
  exact kk _ _ _ hRL hQ2 hP hS
theorem gL_law_X8_clock : GoodIn wsL_law (wsV RL 48 RX8 yX8_clock wzX8_clock) := wz_coL bm_416 (wz_coL bm_417 (wz_coL bm_418 (wz_coL bm_2 (wz_inL bm_419))))
theorem gL_law_X9_clock : GoodIn wsL_law (wsV RL 51 RX9 yX9_clock wzX9_clock) := wz_coL bm_420 (wz_coL bm_421 (wz_coL bm_422 (wz_coL bm_5 (wz_inL bm_423))))
theorem dW_240 (x y : Nat) (hxy : x + 76 ≤ y) : ∀ a k : Nat, y ≤ a → a ≤ y + 12 → ¬ ((a) = (x) + 24 ∨ (a) = (x) + 27 ∨ ((x) + 58 ≤ (a) ∧ (a) ≤ (x) + 67) ∨ ((a) = (x) + 1 ∧ ((k) = 0 ∨ (k) = 1))) := by intros; omega
theorem dW_241 (x y : Nat) (hxy : x + 76 ≤ y) : ∀ a k : Nat, x ≤ a → a < x + 76 → ¬ (((a) = (y) + 3 ∨ ((y) + 7 ≤ (a) ∧ (a) ≤ (y) + 11)) ∨ ((a) = (y) + 1 ∧ ((k) = 0 ∨ (k) = 4))) := by intros; omega
theorem dW_242 (x y : Nat) (hxy : x + 76 ≤ y) : ∀ k : Nat, ¬ (((x + 28)) = (x) + 24 ∨ ((x + 28)) = (x) + 27 ∨ ((x) + 58 ≤ ((x + 28)) ∧ ((x + 28)) ≤ (x) + 67) ∨ (((x + 28)) = (x) + 1 ∧ ((k) = 0 ∨ (k) = 1))) := by intros; omega
theorem dW_243 (x y : Nat) (hxy : x + 76 ≤ y) : ¬ ((x) = (x) + 24 ∨ (x) = (x) + 27 ∨ ((x) + 58 ≤ (x) ∧ (x) ≤ (x) + 67) ∨ ((x) = (x) + 1 ∧ ((2) = 0 ∨ (2) = 1))) := by omega
theorem dW_244 (x y : Nat) (hxy : x + 76 ≤ y) : ∀ k : Nat, ¬ ((((y + 2)) = (y) + 3 ∨ ((y) + 7 ≤ ((y + 2)) ∧ ((y + 2)) ≤ (y) + 11)) ∨ (((y + 2)) = (y) + 1 ∧ ((k) = 0 ∨ (k) = 4))) := by intros; omega
theorem dW_245 (x y : Nat) (hxy : x + 76 ≤ y) : ¬ (((y) = (y) + 3 ∨ ((y) + 7 ≤ (y) ∧ (y) ≤ (y) + 11)) ∨ ((y) = (y) + 1 ∧ ((2) = 0 ∨ (2) = 4))) := by omega
theorem dW_246 (x y : Nat) (hxy : x + 76 ≤ y) : ¬ (((x + 1)) = (x) + 24 ∨ ((x + 1)) = (x) + 27 ∨ ((x) + 58 ≤ ((x + 1)) ∧ ((x + 1)) ≤ (x) + 67) ∨ (((x + 1)) = (x) + 1 ∧ ((2) = 0 ∨ (2) = 1))) := by omega
theorem dW_247 (x y : Nat) (hxy : x + 76 ≤ y) : ¬ ((((y + 1)) = (y) + 3 ∨ ((y) + 7 ≤ ((y + 1)) ∧ ((y + 1)) ≤ (y) + 11)) ∨ (((y + 1)) = (y) + 1 ∧ ((1) = 0 ∨ (1) = 4))) := by omega
theorem dW_248 (x y : Nat) (hxy : x + 76 ≤ y) : ¬ (((x + 1)) = (x) + 24 ∨ ((x + 1)) = (x) + 27 ∨ ((x) + 58 ≤ ((x + 1)) ∧ ((x + 1)) ≤ (x) + 67) ∨ (((x + 1)) = (x) + 1 ∧ ((4) = 0 ∨ (4) = 1))) := by omega
theorem dW_249 (x y : Nat) (hxy : x + 76 ≤ y) : ¬ ((((y + 1)) = (y) + 3 ∨ ((y) + 7 ≤ ((y + 1)) ∧ ((y + 1)) ≤ (y) + 11)) ∨ (((y + 1)) = (y) + 1 ∧ ((2) = 0 ∨ (2) = 4))) := by omega
theorem dW_250 (x y : Nat) (hxy : x + 76 ≤ y) : ¬ (((x + 1)) = (x) + 24 ∨ ((x + 1)) = (x) + 27 ∨ ((x) + 58 ≤ ((x + 1)) ∧ ((x + 1)) ≤ (x) + 67) ∨ (((x + 1)) = (x) + 1 ∧ ((6) = 0 ∨ (6) = 1))) := by omega
theorem dW_251 (x y : Nat) (hxy : x + 76 ≤ y) : ¬ ((((y + 1)) = (y) + 3 ∨ ((y) + 7 ≤ ((y + 1)) ∧ ((y + 1)) ≤ (y) + 11)) ∨ (((y + 1)) = (y) + 1 ∧ ((3) = 0 ∨ (3) = 4))) := by omega
theorem dW_252 (x y : Nat) (hxy : x + 76 ≤ y) : ¬ (((x + 1)) = (x) + 24 ∨ ((x + 1)) = (x) + 27 ∨ ((x) + 58 ≤ ((x + 1)) ∧ ((x + 1)) ≤ (x) + 67) ∨ (((x + 1)) = (x) + 1 ∧ ((9) = 0 ∨ (9) = 1))) := by omega
theorem dW_253 (x y : Nat) (hxy : x + 76 ≤ y) : ¬ ((((y + 1)) = (y) + 3 ∨ ((y) + 7 ≤ ((y + 1)) ∧ ((y + 1)) ≤ (y) + 11)) ∨ (((y + 1)) = (y) + 1 ∧ ((5) = 0 ∨ (5) = 4))) := by omega
theorem dW_254 (x y : Nat) (hxy : x + 76 ≤ y) : ¬ (((x + 1)) = (x) + 24 ∨ ((x + 1)) = (x) + 27 ∨ ((x) + 58 ≤ ((x + 1)) ∧ ((x + 1)) ≤ (x) + 67) ∨ (((x + 1)) = (x) + 1 ∧ ((11) = 0 ∨ (11) = 1))) := by omega
theorem dW_255 (x y : Nat) (hxy : x + 76 ≤ y) : ¬ ((((y + 1)) = (y) + 3 ∨ ((y) + 7 ≤ ((y + 1)) ∧ ((y + 1)) ≤ (y) + 11)) ∨ (((y + 1)) = (y) + 1 ∧ ((6) = 0 ∨ (6) = 4))) := by omega
theorem dW_256 (x y : Nat) (hxy : x + 76 ≤ y) : ∀ j : Nat, j < 9 → ∀ k : Nat, k < 6 → ¬ (((x + 1 + 6 + 1 * j)) = (x) + 24 ∨ ((x + 1 + 6 + 1 * j)) = (x) + 27 ∨ ((x) + 58 ≤ ((x + 1 + 6 + 1 * j)) ∧ ((x + 1 + 6 + 1 * j)) ≤ (x) + 67) ∨ (((x + 1 + 6 + 1 * j)) = (x) + 1 ∧ ((k) = 0 ∨ (k) = 1))) := by intros; omega
theorem dW_257 (x y : Nat) (hxy : x + 76 ≤ y) : ∀ k : Nat, 7 ≤ k → k < 61 → ¬ ((((y + 1)) = (y) + 3 ∨ ((y) + 7 ≤ ((y + 1)) ∧ ((y + 1)) ≤ (y) + 11)) ∨ (((y + 1)) = (y) + 1 ∧ ((k) = 0 ∨ (k) = 4))) := by intros; omega
theorem dW_258 (x y : Nat) (hxy : x + 76 ≤ y) : ∀ j : Nat, j < 6 → ¬ (((x + 1 + 15 + 1 * j)) = (x) + 24 ∨ ((x + 1 + 15 + 1 * j)) = (x) + 27 ∨ ((x) + 58 ≤ ((x + 1 + 15 + 1 * j)) ∧ ((x + 1 + 15 + 1 * j)) ≤ (x) + 67) ∨ (((x + 1 + 15 + 1 * j)) = (x) + 1 ∧ ((0) = 0 ∨ (0) = 1))) := by intros; omega
theorem dW_259 (x y : Nat) (hxy : x + 76 ≤ y) : ∀ j : Nat, j < 6 → ¬ ((((y + 1)) = (y) + 3 ∨ ((y) + 7 ≤ ((y + 1)) ∧ ((y + 1)) ≤ (y) + 11)) ∨ (((y + 1)) = (y) + 1 ∧ (((61 + 2 * j + 0)) = 0 ∨ ((61 + 2 * j + 0)) = 4))) := by intros; omega
theorem dW_260 (x y : Nat) (hxy : x + 76 ≤ y) : ∀ j : Nat, j < 4 → ¬ (((x + 68 + 2 * j)) = (x) + 24 ∨ ((x + 68 + 2 * j)) = (x) + 27 ∨ ((x) + 58 ≤ ((x + 68 + 2 * j)) ∧ ((x + 68 + 2 * j)) ≤ (x) + 67) ∨ (((x + 68 + 2 * j)) = (x) + 1 ∧ ((0) = 0 ∨ (0) = 1))) := by intros; omega
theorem dW_261 (x y : Nat) (hxy : x + 76 ≤ y) : ∀ j : Nat, j < 4 → ¬ ((((y + 4)) = (y) + 3 ∨ ((y) + 7 ≤ ((y + 4)) ∧ ((y + 4)) ≤ (y) + 11)) ∨ (((y + 4)) = (y) + 1 ∧ ((j) = 0 ∨ (j) = 4))) := by intros; omega
theorem dW_262 (x y : Nat) (hxy : x + 76 ≤ y) : ∀ j : Nat, j < 4 → ¬ (((x + 68 + 2 * j)) = (x) + 24 ∨ ((x + 68 + 2 * j)) = (x) + 27 ∨ ((x) + 58 ≤ ((x + 68 + 2 * j)) ∧ ((x + 68 + 2 * j)) ≤ (x) + 67) ∨ (((x + 68 + 2 * j)) = (x) + 1 ∧ ((1) = 0 ∨ (1) = 1))) := by intros; omega
theorem dW_263 (x y : Nat) (hxy : x + 76 ≤ y) : ∀ j : Nat, j < 4 → ¬ ((((y + 5)) = (y) + 3 ∨ ((y) + 7 ≤ ((y + 5)) ∧ ((y + 5)) ≤ (y) + 11)) ∨ (((y + 5)) = (y) + 1 ∧ ((j) = 0 ∨ (j) = 4))) := by intros; omega
theorem dW_264 (x y : Nat) (hxy : x + 76 ≤ y) : ∀ j : Nat, j < 4 → ∀ k : Nat, k < 24 → ¬ (((x + 68 + 2 * j + 1)) = (x) + 24 ∨ ((x + 68 + 2 * j + 1)) = (x) + 27 ∨ ((x) + 58 ≤ ((x + 68 + 2 * j + 1)) ∧ ((x + 68 + 2 * j + 1)) ≤ (x) + 67) ∨ (((x + 68 + 2 * j + 1)) = (x) + 1 ∧ ((k) = 0 ∨ (k) = 1))) := by intros; omega
theorem dW_265 (x y : Nat) (hxy : x + 76 ≤ y) : ∀ k : Nat, k < 96 → ¬ ((((y + 6)) = (y) + 3 ∨ ((y) + 7 ≤ ((y + 6)) ∧ ((y + 6)) ≤ (y) + 11)) ∨ (((y + 6)) = (y) + 1 ∧ ((k) = 0 ∨ (k) = 4))) := by intros; omega
theorem dW_266 (x y : Nat) (hxy : x + 76 ≤ y) : ¬ (((x + 56)) = (x) + 24 ∨ ((x + 56)) = (x) + 27 ∨ ((x) + 58 ≤ ((x + 56)) ∧ ((x + 56)) ≤ (x) + 67) ∨ (((x + 56)) = (x) + 1 ∧ ((1) = 0 ∨ (1) = 1))) := by omega
theorem dW_267 (x y : Nat) (hxy : x + 76 ≤ y) : ¬ (((y) = (y) + 3 ∨ ((y) + 7 ≤ (y) ∧ (y) ≤ (y) + 11)) ∨ ((y) = (y) + 1 ∧ ((18) = 0 ∨ (18) = 4))) := by omega
theorem dW_268 (x y : Nat) (hxy : x + 76 ≤ y) : ∀ k : Nat, ¬ (((x + 56 + 1)) = (x) + 24 ∨ ((x + 56 + 1)) = (x) + 27 ∨ ((x) + 58 ≤ ((x + 56 + 1)) ∧ ((x + 56 + 1)) ≤ (x) + 67) ∨ (((x + 56 + 1)) = (x) + 1 ∧ ((k) = 0 ∨ (k) = 1))) := by intros; omega
theorem dW_269 (x y : Nat) (hxy : x + 76 ≤ y) : ∀ k : Nat, ¬ ((((y + 12)) = (y) + 3 ∨ ((y) + 7 ≤ ((y + 12)) ∧ ((y + 12)) ≤ (y) + 11)) ∨ (((y + 12)) = (y) + 1 ∧ ((k) = 0 ∨ (k) = 4))) := by intros; omega
theorem dW_270 (x y : Nat) (hxy : x + 76 ≤ y) : ∀ k : Nat, ¬ (((x + 1 + 4)) = (x) + 24 ∨ ((x + 1 + 4)) = (x) + 27 ∨ ((x) + 58 ≤ ((x + 1 + 4)) ∧ ((x + 1 + 4)) ≤ (x) + 67) ∨ (((x + 1 + 4)) = (x) + 1 ∧ ((k) = 0 ∨ (k) = 1))) := by intros; omega
theorem dW_271 (x y : Nat) (hxy : x + 76 ≤ y) : ∀ k : Nat, k < 60 → ¬ ((((y + 1)) = (y) + 3 ∨ ((y) + 7 ≤ ((y + 1)) ∧ ((y + 1)) ≤ (y) + 11)) ∨ (((y + 1)) = (y) + 1 ∧ (((73 + k)) = 0 ∨ ((73 + k)) = 4))) := by intros; omega
theorem dW_272 (x y : Nat) (hxy : x + 76 ≤ y) : ∀ a : Nat, (a = x + 1 + 21 ∨ a = x + 1 + 22 ∨ a = x + 1 + 24 ∨ a = x + 1 + 25) → ∀ k : Nat, ¬ ((a) = (x) + 24 ∨ (a) = (x) + 27 ∨ ((x) + 58 ≤ (a) ∧ (a) ≤ (x) + 67) ∨ ((a) = (x) + 1 ∧ ((k) = 0 ∨ (k) = 1))) := by intros; omega
theorem dW_273 (x y : Nat) (hxy : x + 76 ≤ y) : ∀ k : Nat, 157 ≤ k → ¬ ((((y + 1)) = (y) + 3 ∨ ((y) + 7 ≤ ((y + 1)) ∧ ((y + 1)) ≤ (y) + 11)) ∨ (((y + 1)) = (y) + 1 ∧ ((k) = 0 ∨ (k) = 4))) := by intros; omega
theorem dW_274 (x y : Nat) (hxy : x + 76 ≤ y) : ∀ j : Nat, j < 6 → ¬ (((x + 1 + 15 + 1 * j)) = (x) + 24 ∨ ((x + 1 + 15 + 1 * j)) = (x) + 27 ∨ ((x) + 58 ≤ ((x + 1 + 15 + 1 * j)) ∧ ((x + 1 + 15 + 1 * j)) ≤ (x) + 67) ∨ (((x + 1 + 15 + 1 * j)) = (x) + 1 ∧ ((1) = 0 ∨ (1) = 1))) := by intros; omega
theorem dW_275 (x y : Nat) (hxy : x + 76 ≤ y) : ∀ j : Nat, j < 6 → ¬ ((((y + 1)) = (y) + 3 ∨ ((y) + 7 ≤ ((y + 1)) ∧ ((y + 1)) ≤ (y) + 11)) ∨ (((y + 1)) = (y) + 1 ∧ (((61 + 2 * j + 1)) = 0 ∨ ((61 + 2 * j + 1)) = 4))) := by intros; omega
theorem dW_276 (x y : Nat) (hxy : x + 76 ≤ y) : ∀ k : Nat, k < 24 → ¬ (((x + 1 + 5)) = (x) + 24 ∨ ((x + 1 + 5)) = (x) + 27 ∨ ((x) + 58 ≤ ((x + 1 + 5)) ∧ ((x + 1 + 5)) ≤ (x) + 67) ∨ (((x + 1 + 5)) = (x) + 1 ∧ (((0 + k)) = 0 ∨ ((0 + k)) = 1))) := by intros; omega
theorem dW_277 (x y : Nat) (hxy : x + 76 ≤ y) : ∀ k : Nat, k < 24 → ¬ ((((y + 1)) = (y) + 3 ∨ ((y) + 7 ≤ ((y + 1)) ∧ ((y + 1)) ≤ (y) + 11)) ∨ (((y + 1)) = (y) + 1 ∧ (((133 + k)) = 0 ∨ ((133 + k)) = 4))) := by intros; omega
theorem dW_278 (x y : Nat) (hxy : x + 76 ≤ y) : ∀ j : Nat, j < 9 → ∀ k : Nat, k < 6 → ¬ (((x + 28 + 6 + 1 * j)) = (x) + 24 ∨ ((x + 28 + 6 + 1 * j)) = (x) + 27 ∨ ((x) + 58 ≤ ((x + 28 + 6 + 1 * j)) ∧ ((x + 28 + 6 + 1 * j)) ≤ (x) + 67) ∨ (((x + 28 + 6 + 1 * j)) = (x) + 1 ∧ ((k) = 0 ∨ (k) = 1))) := by intros; omega
theorem dW_279 (x y : Nat) (hxy : x + 76 ≤ y) : ∀ k : Nat, 7 ≤ k → k < 61 → ¬ ((((y + 2)) = (y) + 3 ∨ ((y) + 7 ≤ ((y + 2)) ∧ ((y + 2)) ≤ (y) + 11)) ∨ (((y + 2)) = (y) + 1 ∧ ((k) = 0 ∨ (k) = 4))) := by intros; omega
theorem dW_280 (x y : Nat) (hxy : x + 76 ≤ y) : ∀ j : Nat, j < 6 → ¬ (((x + 28 + 15 + 1 * j)) = (x) + 24 ∨ ((x + 28 + 15 + 1 * j)) = (x) + 27 ∨ ((x) + 58 ≤ ((x + 28 + 15 + 1 * j)) ∧ ((x + 28 + 15 + 1 * j)) ≤ (x) + 67) ∨ (((x + 28 + 15 + 1 * j)) = (x) + 1 ∧ ((0) = 0 ∨ (0) = 1))) := by intros; omega
theorem dW_281 (x y : Nat) (hxy : x + 76 ≤ y) : ∀ j : Nat, j < 6 → ¬ ((((y + 2)) = (y) + 3 ∨ ((y) + 7 ≤ ((y + 2)) ∧ ((y + 2)) ≤ (y) + 11)) ∨ (((y + 2)) = (y) + 1 ∧ (((61 + 2 * j + 0)) = 0 ∨ ((61 + 2 * j + 0)) = 4))) := by intros; omega
theorem dW_282 (x y : Nat) (hxy : x + 76 ≤ y) : ¬ (((x + 28)) = (x) + 24 ∨ ((x + 28)) = (x) + 27 ∨ ((x) + 58 ≤ ((x + 28)) ∧ ((x + 28)) ≤ (x) + 67) ∨ (((x + 28)) = (x) + 1 ∧ ((9) = 0 ∨ (9) = 1))) := by omega
theorem dW_283 (x y : Nat) (hxy : x + 76 ≤ y) : ∀ k : Nat, ¬ (((x + 28 + 4)) = (x) + 24 ∨ ((x + 28 + 4)) = (x) + 27 ∨ ((x) + 58 ≤ ((x + 28 + 4)) ∧ ((x + 28 + 4)) ≤ (x) + 67) ∨ (((x + 28 + 4)) = (x) + 1 ∧ ((k) = 0 ∨ (k) = 1))) := by intros; omega
theorem dW_284 (x y : Nat) (hxy : x + 76 ≤ y) : ¬ ((((y + 2)) = (y) + 3 ∨ ((y) + 7 ≤ ((y + 2)) ∧ ((y + 2)) ≤ (y) + 11)) ∨ (((y + 2)) = (y) + 1 ∧ ((5) = 0 ∨ (5) = 4))) := by omega
theorem dW_285 (x y : Nat) (hxy : x + 76 ≤ y) : ∀ k : Nat, k < 60 → ¬ ((((y + 2)) = (y) + 3 ∨ ((y) + 7 ≤ ((y + 2)) ∧ ((y + 2)) ≤ (y) + 11)) ∨ (((y + 2)) = (y) + 1 ∧ (((73 + k)) = 0 ∨ ((73 + k)) = 4))) := by intros; omega
theorem dW_286 (x y : Nat) (hxy : x + 76 ≤ y) : ∀ a : Nat, (a = x + 28 + 21 ∨ a = x + 28 + 22 ∨ a = x + 28 + 24 ∨ a = x + 28 + 25) → ∀ k : Nat, ¬ ((a) = (x) + 24 ∨ (a) = (x) + 27 ∨ ((x) + 58 ≤ (a) ∧ (a) ≤ (x) + 67) ∨ ((a) = (x) + 1 ∧ ((k) = 0 ∨ (k) = 1))) := by intros; omega
theorem dW_287 (x y : Nat) (hxy : x + 76 ≤ y) : ∀ k : Nat, 157 ≤ k → ¬ ((((y + 2)) = (y) + 3 ∨ ((y) + 7 ≤ ((y + 2)) ∧ ((y + 2)) ≤ (y) + 11)) ∨ (((y + 2)) = (y) + 1 ∧ ((k) = 0 ∨ (k) = 4))) := by intros; omega
theorem dW_288 (x y : Nat) (hxy : x + 76 ≤ y) : ∀ j : Nat, j < 6 → ¬ (((x + 28 + 15 + 1 * j)) = (x) + 24 ∨ ((x + 28 + 15 + 1 * j)) = (x) + 27 ∨ ((x) + 58 ≤ ((x + 28 + 15 + 1 * j)) ∧ ((x + 28 + 15 + 1 * j)) ≤ (x) + 67) ∨ (((x + 28 + 15 + 1 * j)) = (x) + 1 ∧ ((1) = 0 ∨ (1) = 1))) := by intros; omega
theorem dW_289 (x y : Nat) (hxy : x + 76 ≤ y) : ∀ j : Nat, j < 6 → ¬ ((((y + 2)) = (y) + 3 ∨ ((y) + 7 ≤ ((y + 2)) ∧ ((y + 2)) ≤ (y) + 11)) ∨ (((y + 2)) = (y) + 1 ∧ (((61 + 2 * j + 1)) = 0 ∨ ((61 + 2 * j + 1)) = 4))) := by intros; omega
theorem dW_290 (x y : Nat) (hxy : x + 76 ≤ y) : ¬ (((x + 28)) = (x) + 24 ∨ ((x + 28)) = (x) + 27 ∨ ((x) + 58 ≤ ((x + 28)) ∧ ((x + 28)) ≤ (x) + 67) ∨ (((x + 28)) = (x) + 1 ∧ ((11) = 0 ∨ (11) = 1))) := by omega
theorem dW_291 (x y : Nat) (hxy : x + 76 ≤ y) : ∀ k : Nat, k < 24 → ¬ (((x + 28 + 5)) = (x) + 24 ∨ ((x + 28 + 5)) = (x) + 27 ∨ ((x) + 58 ≤ ((x + 28 + 5)) ∧ ((x + 28 + 5)) ≤ (x) + 67) ∨ (((x + 28 + 5)) = (x) + 1 ∧ (((0 + k)) = 0 ∨ ((0 + k)) = 1))) := by intros; omega
theorem dW_292 (x y : Nat) (hxy : x + 76 ≤ y) : ¬ ((((y + 2)) = (y) + 3 ∨ ((y) + 7 ≤ ((y + 2)) ∧ ((y + 2)) ≤ (y) + 11)) ∨ (((y + 2)) = (y) + 1 ∧ ((6) = 0 ∨ (6) = 4))) := by omega
theorem dW_293 (x y : Nat) (hxy : x + 76 ≤ y) : ∀ k : Nat, k < 24 → ¬ ((((y + 2)) = (y) + 3 ∨ ((y) + 7 ≤ ((y + 2)) ∧ ((y + 2)) ≤ (y) + 11)) ∨ (((y + 2)) = (y) + 1 ∧ (((133 + k)) = 0 ∨ ((133 + k)) = 4))) := by intros; omega
set_option maxHeartbeats 4000000 in
set_option maxRecDepth 100000 in
theorem lc_clock {p : Program} {l : Launch} {e : Env} {s : State} {m : MethodId} {below : List Frame} {meth : Method} {c : Code} {b L x y : Nat} {xs : Nat → Int32} {E : zz_E} {Q : State → Prop} (hA : zz_LA p s m c b L xs E x y) (i : Int32) (hi : 0 ≤ i.toInt ∧ i.toInt + 6 ≤ L) (σ : zz_S) (H : Heap) (locs : List Loc) (ls : Array Slot) (hR : zz_RL σ x y) (hQ : zz_RD σ x y) (hP : zz_P E σ H) (hS : va_S (zz_A E) s.heap H locs) (hl : lv_has ls 4 [(0, .ref b), (1, .ref x), (2, .ref y), (3, .int i)])
    (kk : ∀ (σ1 : zz_S) (H1 : Heap) (locs1 : List Loc), zz_RL σ1 x y → zz_RD σ1 x y → zz_P E σ1 H1 → va_S (zz_A E) s.heap H1 locs1 → W p l e room_1 s m #[Value.ref b] below meth c H1 locs1 600000 7302250 Q (F0 m 1384 ls [])) : W p l e room_1 s m #[Value.ref b] below meth c H locs 600000 7302250 Q (F0 m 464 ls []) := by
  obtain ⟨hx, hb, hml, hown, hts, hX, hbl, hbE, hL, gL, gM, hxy, hK⟩ := hA
  have hbA : ¬ zz_A E b := fun h => absurd (hbE b h) (Nat.not_le.mpr hbl)
  have k_1 : (1 : Int32).toInt = 1 := by decide +kernel
  have k_2 : (2 : Int32).toInt = 2 := by decide +kernel
  refine lv_aload_n hx hb dL_law_464 rfl (lv_at hl 1 rfl) ?_
  refine lv_aload_n hx hb dL_law_465 rfl (lv_at hl 0 rfl) ?_
  refine lv_iload_n hx hb dL_law_466 rfl (lv_at hl 3 rfl) ?_
  refine lv_iconst (v := 1) hx hb dL_law_467 (by decide) ?_
  refine lv_iadd hx hb dL_law_468 ?_
  refine lv_topi (fun n1 e1 => ?_)
  have f1 : n1.toInt = (i).toInt + (1 : Int32).toInt := zz_addT e1 (by omega) (by omega)
  refine va_sld hx hb hX hbl hbA hS (vp_in_iff.mpr ⟨by omega, by omega⟩) dL_law_469 ?_
  refine lv_topi (fun v2 u2 => ?_)
  refine lv_aload_n hx hb dL_law_470 rfl (lv_at hl 0 rfl) ?_
  refine lv_iload_n hx hb dL_law_471 rfl (lv_at hl 3 rfl) ?_
  refine lv_iconst (v := 2) hx hb dL_law_472 (by decide) ?_
  refine lv_iadd hx hb dL_law_473 ?_
  refine lv_topi (fun n3 e3 => ?_)
  have f3 : n3.toInt = (i).toInt + (2 : Int32).toInt := zz_addT e3 (by omega) (by omega)
  refine va_sld hx hb hX hbl hbA hS (vp_in_iff.mpr ⟨by omega, by omega⟩) dL_law_474 ?_
  refine lv_topi (fun v4 u4 => ?_)
  refine zz_callVi (As := [.int v2, .int v4]) (rest := []) ⟨hx, hb, hml, hown, hts⟩ hK hP hS (c_X8_clock l E σ x v2 v4 gL hR.1) (cwV 2 hts gL_law_X8_clock rfl rfl rfl (by decide +kernel) ⟨Nat.le_of_ble_eq_true rfl, Nat.le_of_ble_eq_true rfl⟩) (gL.1) rfl rfl hl.1 rfl (Nat.le_of_ble_eq_true rfl) dL_law_475 ⟨Nat.le_refl _, Nat.le_refl _⟩ (fun r1 σ1 H locs q1 hP hS => ?_)
  try dsimp only at q1
  obtain ⟨w1, p1⟩ := q1
  have B : ∀ a k : Nat, y ≤ a → a ≤ y + 12 → σ1 a k = σ a k := fun a k h1 h2 => w1 a k ((dW_240 x y hxy) a k h1 h2)
  have hJ1 : zz_IM σ1 y := hR.2.1.far B
  refine lv_pop hx hb dL_law_478 rfl ?_
  refine lv_aload_n hx hb dL_law_479 rfl (lv_at hl 2 rfl) ?_
  refine lv_aload_n hx hb dL_law_480 rfl (lv_at hl 0 rfl) ?_
  refine lv_iload_n hx hb dL_law_481 rfl (lv_at hl 3 rfl) ?_
  refine lv_iconst (v := 1) hx hb dL_law_482 (by decide) ?_
  refine lv_iadd hx hb dL_law_483 ?_
  refine lv_topi (fun n6 e6 => ?_)
  have f6 : n6.toInt = (i).toInt + (1 : Int32).toInt := zz_addT e6 (by omega) (by omega)
  refine va_sld hx hb hX hbl hbA hS (vp_in_iff.mpr ⟨by omega, by omega⟩) dL_law_484 ?_
  refine lv_topi (fun v7 u7 => ?_)
  have z7 : v7 = v2 := by rw [u7, u2, e6, e1]
  have zt7 := congrArg Int32.toInt z7
  refine lv_aload_n hx hb dL_law_485 rfl (lv_at hl 0 rfl) ?_
  refine lv_iload_n hx hb dL_law_486 rfl (lv_at hl 3 rfl) ?_
  refine lv_iconst (v := 2) hx hb dL_law_487 (by decide) ?_
  refine lv_iadd hx hb dL_law_488 ?_
  refine lv_topi (fun n8 e8 => ?_)
  have f8 : n8.toInt = (i).toInt + (2 : Int32).toInt := zz_addT e8 (by omega) (by omega)
  refine va_sld hx hb hX hbl hbA hS (vp_in_iff.mpr ⟨by omega, by omega⟩) dL_law_489 ?_
  refine lv_topi (fun v9 u9 => ?_)
  have z9 : v9 = v4 := by rw [u9, u4, e8, e3]
  have zt9 := congrArg Int32.toInt z9
  refine zz_callVi (As := [.int v7, .int v9]) (rest := []) ⟨hx, hb, hml, hown, hts⟩ hK hP hS (c_X9_clock l E σ1 y v7 v9 gM hJ1) (cwV 2 hts gL_law_X9_clock rfl rfl rfl (by decide +kernel) ⟨Nat.le_of_ble_eq_true rfl, Nat.le_of_ble_eq_true rfl⟩) (gM.1) rfl rfl hl.1 rfl (Nat.le_of_ble_eq_true rfl) dL_law_490 ⟨Nat.le_refl _, Nat.le_refl _⟩ (fun r2 σ2 H locs q2 hP hS => ?_)
  try dsimp only at q2
  obtain ⟨w2, p2⟩ := q2
  have A : ∀ a k : Nat, x ≤ a → a < x + 76 → σ2 a k = σ1 a k := fun a k h1 h2 => w2 a k ((dW_241 x y hxy) a k h1 h2)
  obtain ⟨i1, p1⟩ := p1
  obtain ⟨i2, p2⟩ := p2
  try simp only [z7, z9] at p2
  obtain ⟨h0, h1, h2, h3, h4, h5, h6⟩ := hR.2.2.1
  have ga0 := congrArg Int32.toInt (A (x + 1) 0 (by omega) (by omega))
  have gb0 := congrArg Int32.toInt (B (y + 1) 0 (by omega) (by omega))
  have ga1 := congrArg Int32.toInt (A (x + 1) 1 (by omega) (by omega))
  have gb1 := congrArg Int32.toInt (B (y + 1) 4 (by omega) (by omega))
  have rr2 : zz_RR σ2 (x + 1) (y + 1) := ⟨by omega, by omega, (congrArg Int32.toInt (A (x + 1) 2 (by omega) (by omega))).trans ((congrArg Int32.toInt (w1 (x + 1) 2 (dW_246 x y hxy))).trans (h2.trans ((congrArg Int32.toInt (B (y + 1) 1 (by omega) (by omega))).symm.trans (congrArg Int32.toInt (w2 (y + 1) 1 (dW_247 x y hxy))).symm))), (congrArg Int32.toInt (A (x + 1) 4 (by omega) (by omega))).trans ((congrArg Int32.toInt (w1 (x + 1) 4 (dW_248 x y hxy))).trans (h3.trans ((congrArg Int32.toInt (B (y + 1) 2 (by omega) (by omega))).symm.trans (congrArg Int32.toInt (w2 (y + 1) 2 (dW_249 x y hxy))).symm))), (congrArg Int32.toInt (A (x + 1) 6 (by omega) (by omega))).trans ((congrArg Int32.toInt (w1 (x + 1) 6 (dW_250 x y hxy))).trans (h4.trans ((congrArg Int32.toInt (B (y + 1) 3 (by omega) (by omega))).symm.trans (congrArg Int32.toInt (w2 (y + 1) 3 (dW_251 x y hxy))).symm))), (congrArg Int32.toInt (A (x + 1) 9 (by omega) (by omega))).trans ((congrArg Int32.toInt (w1 (x + 1) 9 (dW_252 x y hxy))).trans (h5.trans ((congrArg Int32.toInt (B (y + 1) 5 (by omega) (by omega))).symm.trans (congrArg Int32.toInt (w2 (y + 1) 5 (dW_253 x y hxy))).symm))), (congrArg Int32.toInt (A (x + 1) 11 (by omega) (by omega))).trans ((congrArg Int32.toInt (w1 (x + 1) 11 (dW_254 x y hxy))).trans (h6.trans ((congrArg Int32.toInt (B (y + 1) 6 (by omega) (by omega))).symm.trans (congrArg Int32.toInt (w2 (y + 1) 6 (dW_255 x y hxy))).symm)))⟩
  have hRL : zz_RL σ2 x y := hR.real i1 i2 A B rr2 (fun k => w1 (x + 28) k ((dW_242 x y hxy) k)) (w1 x 2 (dW_243 x y hxy)) (fun k => w2 (y + 2) k ((dW_244 x y hxy) k)) (w2 y 2 (dW_245 x y hxy))
  obtain ⟨hqD, hqW, hqK, hqB, hqN, hqC, hqL, hqT, hqP, hqX, hqF, hqG, hqV⟩ := hQ
  obtain ⟨aD, aW, aKD, aKW, aB, aN, aC, aL, aT, aP, aX, aKP, aKX⟩ := zz_aX A
  obtain ⟨bD, bW, bKD, bKW, bB, bN, bC, bL, bT, bP, bX, bKP, bKX⟩ := zz_bM hR.2.1 B
  obtain ⟨aF, aKF, aV, aKV⟩ := zy_aX2 A
  obtain ⟨bF, bKF, bV, bKV⟩ := zy_bM2 B
  have rD : zz_DX σ2 (x + 1) = zz_DM σ2 (y + 1) := by rw [aD, zz_DXk (r := x + 1) w1 (dW_256 x y hxy), zz_DMk (a := y + 1) w2 (dW_257 x y hxy), bD, hqD]
  have rW : zz_PX 0 σ2 (x + 1) = zz_PM 0 σ2 (y + 1) := by rw [aW, zz_PXk (f := 0) (r := x + 1) w1 (dW_258 x y hxy), zz_PMk (f := 0) (a := y + 1) w2 (dW_259 x y hxy), bW, hqW]
  have rB : zz_HX 0 σ2 x = zz_HM σ2 (y + 4) := by rw [aB, zz_HX.eq (f := 0) (x := x) (fun j hj => w1 _ _ ((dW_260 x y hxy) j hj)), zz_HM.eq (a := y + 4) (fun j hj => w2 _ _ ((dW_261 x y hxy) j hj)), bB, hqB]
  have rN : zz_HX 1 σ2 x = zz_HM σ2 (y + 5) := by rw [aN, zz_HX.eq (f := 1) (x := x) (fun j hj => w1 _ _ ((dW_262 x y hxy) j hj)), zz_HM.eq (a := y + 5) (fun j hj => w2 _ _ ((dW_263 x y hxy) j hj)), bN, hqN]
  have rC : zz_CX σ2 x = zz_CM σ2 (y + 6) := by rw [aC, zz_CX.eq (x := x) (fun j hj k hk => w1 _ _ ((dW_264 x y hxy) j hj k hk)), zz_CM.eq (a := y + 6) (fun k hk => w2 _ _ ((dW_265 x y hxy) k hk)), bC, hqC]
  have rL : (σ2 (x + 56) 1).toInt = (σ2 y 18).toInt := by rw [aL, congrArg Int32.toInt (w1 (x + 56) 1 (dW_266 x y hxy)), congrArg Int32.toInt (w2 y 18 (dW_267 x y hxy)), bL, hqL]
  have rT : zz_TV σ2 (x + 56 + 1) = zz_TV σ2 (y + 12) := by rw [aT, zz_TV.eq (a := x + 56 + 1) (b := x + 56 + 1) (fun k _ => w1 _ k ((dW_268 x y hxy) k)), zz_TV.eq (a := y + 12) (b := y + 12) (fun k _ => w2 _ k ((dW_269 x y hxy) k)), bT, hqT]
  have rP : zz_Tp σ2 (x + 1 + 4) (σ2 (x + 1) 9).toInt = zz_Tm σ2 (y + 1) := by rw [aP, zz_Tp.all (a := x + 1 + 4) (b := x + 1 + 4) (congrArg Int32.toInt (w1 (x + 1) 9 (dW_252 x y hxy))) (fun k => w1 _ k ((dW_270 x y hxy) k)), zz_Tm.eq (a := y + 1) (b := y + 1) (w2 (y + 1) 5 (dW_253 x y hxy)) hJ1.1.2.2.2.2.1.2 (fun k hk => w2 (y + 1) (73 + k) ((dW_271 x y hxy) k hk)), bP, hqP]
  have rX : zz_tts (zz_XT σ2 (x + 1)) (zz_MT σ2 (y + 1)) := by rw [aX, zz_XT.all (r := x + 1) (fun a ha k => w1 a k ((dW_272 x y hxy) a ha k)), zz_MT.hi (a := y + 1) (b := y + 1) (fun k hk => w2 (y + 1) k ((dW_273 x y hxy) k hk)), bX]; exact hqX
  have rF : zz_PX 1 σ2 (x + 1) = zz_PM 1 σ2 (y + 1) := by rw [aF, zz_PXk (f := 1) (r := x + 1) w1 (dW_274 x y hxy), zz_PMk (f := 1) (a := y + 1) w2 (dW_275 x y hxy), bF, hqF]
  have rV : zy_wv σ2 (x + 1 + 5) 0 (σ2 (x + 1) 11).toInt = zy_wv σ2 (y + 1) 133 (σ2 (y + 1) 6).toInt := by rw [aV, zy_wv.eq (a := x + 1 + 5) (a1 := x + 1 + 5) (b := 0) (b1 := 0) (congrArg Int32.toInt (w1 (x + 1) 11 (dW_254 x y hxy))) (fun k hk => w1 (x + 1 + 5) (0 + k) ((dW_276 x y hxy) k hk)), zy_wv.eq (a := y + 1) (a1 := y + 1) (b := 133) (b1 := 133) (congrArg Int32.toInt (w2 (y + 1) 6 (dW_255 x y hxy))) (fun k hk => w2 (y + 1) (133 + k) ((dW_277 x y hxy) k hk)), bV, hqV]
  have rG : zy_FB (zz_PM 1 σ2 (y + 1)) := by rw [zz_PMk (f := 1) (a := y + 1) w2 (dW_275 x y hxy), bF]; exact hqG
  have rK : (σ2 x 2).toInt = 0 ∨ (zz_DX σ2 (x + 28) = zz_DM σ2 (y + 2) ∧ zz_PX 0 σ2 (x + 28) = zz_PM 0 σ2 (y + 2) ∧ zz_Tp σ2 (x + 28 + 4) (σ2 (x + 28) 9).toInt = zz_Tm σ2 (y + 2) ∧ zz_tts (zz_XT σ2 (x + 28)) (zz_MT σ2 (y + 2)) ∧ zz_PX 1 σ2 (x + 28) = zz_PM 1 σ2 (y + 2) ∧ zy_FB (zz_PM 1 σ2 (y + 2)) ∧ zy_wv σ2 (x + 28 + 5) 0 (σ2 (x + 28) 11).toInt = zy_wv σ2 (y + 2) 133 (σ2 (y + 2) 6).toInt) := hqK.elim (fun q => Or.inl ((congrArg Int32.toInt ((A x 2 (by omega) (by omega)).trans (w1 x 2 (dW_243 x y hxy)))).trans q)) (fun q => Or.inr ⟨by rw [aKD, zz_DXk (r := x + 28) w1 (dW_278 x y hxy), zz_DMk (a := y + 2) w2 (dW_279 x y hxy), bKD, q.1], by rw [aKW, zz_PXk (f := 0) (r := x + 28) w1 (dW_280 x y hxy), zz_PMk (f := 0) (a := y + 2) w2 (dW_281 x y hxy), bKW, q.2.1], by rw [aKP, zz_Tp.all (a := x + 28 + 4) (b := x + 28 + 4) (congrArg Int32.toInt (w1 (x + 28) 9 (dW_282 x y hxy))) (fun k => w1 _ k ((dW_283 x y hxy) k)), zz_Tm.eq (a := y + 2) (b := y + 2) (w2 (y + 2) 5 (dW_284 x y hxy)) hJ1.2.1.2.2.2.2.1.2 (fun k hk => w2 (y + 2) (73 + k) ((dW_285 x y hxy) k hk)), bKP, q.2.2.1], by rw [aKX, zz_XT.all (r := x + 28) (fun a ha k => w1 a k ((dW_286 x y hxy) a ha k)), zz_MT.hi (a := y + 2) (b := y + 2) (fun k hk => w2 (y + 2) k ((dW_287 x y hxy) k hk)), bKX]; exact q.2.2.2.1, by rw [aKF, zz_PXk (f := 1) (r := x + 28) w1 (dW_288 x y hxy), zz_PMk (f := 1) (a := y + 2) w2 (dW_289 x y hxy), bKF, q.2.2.2.2.1], by rw [zz_PMk (f := 1) (a := y + 2) w2 (dW_289 x y hxy), bKF]; exact q.2.2.2.2.2.1, by rw [aKV, zy_wv.eq (a := x + 28 + 5) (a1 := x + 28 + 5) (b := 0) (b1 := 0) (congrArg Int32.toInt (w1 (x + 28) 11 (dW_290 x y hxy))) (fun k hk => w1 (x + 28 + 5) (0 + k) ((dW_291 x y hxy) k hk)), zy_wv.eq (a := y + 2) (a1 := y + 2) (b := 133) (b1 := 133) (congrArg Int32.toInt (w2 (y + 2) 6 (dW_292 x y hxy))) (fun k hk => w2 (y + 2) (133 + k) ((dW_293 x y hxy) k hk)), bKV, q.2.2.2.2.2.2]⟩)
  have hQ2 : zz_RD σ2 x y := ⟨rD, rW, rK, rB, rN, rC, rL, rT, rP, rX, rF, rG, rV⟩
  refine lv_pop hx hb dL_law_493 rfl ?_
  refine lv_goto (tgt := 1384) hx hb dL_law_494 (by decide) ?_
  exact kk _ _ _ hRL hQ2 hP hS
theorem gL_law_X8_feed : GoodIn wsL_law (wsV RL 54 RX8 yX8_feed wzX8_feed) := wz_coL bm_424 (wz_coL bm_425 (wz_coL bm_426 (wz_coL bm_2 (wz_inL bm_427))))
theorem gL_law_X9_feed : GoodIn wsL_law (wsV RL 58 RX9 yX9_feed wzX9_feed) := wz_coL bm_430 (wz_coL bm_431 (wz_coL bm_432 (wz_coL bm_5 (wz_inL bm_433))))
theorem dW_294 (x y : Nat) (hxy : x + 76 ≤ y) : ∀ a k : Nat, y ≤ a → a ≤ y + 12 → ¬ ((a) = (x) + 24 ∨ (a) = (x) + 27 ∨ ((x) + 58 ≤ (a) ∧ (a) ≤ (x) + 67) ∨ ((a) = (x) + 1 ∧ (k) = 9) ∨ (a) = (x) + 5) := by intros; omega
theorem dW_295 (x y : Nat) (hxy : x + 76 ≤ y) : ∀ a k : Nat, x ≤ a → a < x + 76 → ¬ (((a) = (y) + 3 ∨ ((y) + 7 ≤ (a) ∧ (a) ≤ (y) + 11)) ∨ ((a) = (y) + 1 ∧ ((k) = 5 ∨ (73 ≤ (k) ∧ (k) < 133)))) := by intros; omega
theorem dW_296 (x y : Nat) (hxy : x + 76 ≤ y) : ∀ k : Nat, ¬ (((x + 28)) = (x) + 24 ∨ ((x + 28)) = (x) + 27 ∨ ((x) + 58 ≤ ((x + 28)) ∧ ((x + 28)) ≤ (x) + 67) ∨ (((x + 28)) = (x) + 1 ∧ (k) = 9) ∨ ((x + 28)) = (x) + 5) := by intros; omega
theorem dW_297 (x y : Nat) (hxy : x + 76 ≤ y) : ¬ ((x) = (x) + 24 ∨ (x) = (x) + 27 ∨ ((x) + 58 ≤ (x) ∧ (x) ≤ (x) + 67) ∨ ((x) = (x) + 1 ∧ (2) = 9) ∨ (x) = (x) + 5) := by omega
theorem dW_298 (x y : Nat) (hxy : x + 76 ≤ y) : ∀ k : Nat, ¬ ((((y + 2)) = (y) + 3 ∨ ((y) + 7 ≤ ((y + 2)) ∧ ((y + 2)) ≤ (y) + 11)) ∨ (((y + 2)) = (y) + 1 ∧ ((k) = 5 ∨ (73 ≤ (k) ∧ (k) < 133)))) := by intros; omega
theorem dW_299 (x y : Nat) (hxy : x + 76 ≤ y) : ¬ (((y) = (y) + 3 ∨ ((y) + 7 ≤ (y) ∧ (y) ≤ (y) + 11)) ∨ ((y) = (y) + 1 ∧ ((2) = 5 ∨ (73 ≤ (2) ∧ (2) < 133)))) := by omega
theorem dW_300 (x y : Nat) (hxy : x + 76 ≤ y) : ¬ (((x + 1)) = (x) + 24 ∨ ((x + 1)) = (x) + 27 ∨ ((x) + 58 ≤ ((x + 1)) ∧ ((x + 1)) ≤ (x) + 67) ∨ (((x + 1)) = (x) + 1 ∧ (0) = 9) ∨ ((x + 1)) = (x) + 5) := by omega
theorem dW_301 (x y : Nat) (hxy : x + 76 ≤ y) : ¬ ((((y + 1)) = (y) + 3 ∨ ((y) + 7 ≤ ((y + 1)) ∧ ((y + 1)) ≤ (y) + 11)) ∨ (((y + 1)) = (y) + 1 ∧ ((0) = 5 ∨ (73 ≤ (0) ∧ (0) < 133)))) := by omega
theorem dW_302 (x y : Nat) (hxy : x + 76 ≤ y) : ¬ (((x + 1)) = (x) + 24 ∨ ((x + 1)) = (x) + 27 ∨ ((x) + 58 ≤ ((x + 1)) ∧ ((x + 1)) ≤ (x) + 67) ∨ (((x + 1)) = (x) + 1 ∧ (1) = 9) ∨ ((x + 1)) = (x) + 5) := by omega
theorem dW_303 (x y : Nat) (hxy : x + 76 ≤ y) : ¬ ((((y + 1)) = (y) + 3 ∨ ((y) + 7 ≤ ((y + 1)) ∧ ((y + 1)) ≤ (y) + 11)) ∨ (((y + 1)) = (y) + 1 ∧ ((4) = 5 ∨ (73 ≤ (4) ∧ (4) < 133)))) := by omega
theorem dW_304 (x y : Nat) (hxy : x + 76 ≤ y) : ¬ (((x + 1)) = (x) + 24 ∨ ((x + 1)) = (x) + 27 ∨ ((x) + 58 ≤ ((x + 1)) ∧ ((x + 1)) ≤ (x) + 67) ∨ (((x + 1)) = (x) + 1 ∧ (2) = 9) ∨ ((x + 1)) = (x) + 5) := by omega
theorem dW_305 (x y : Nat) (hxy : x + 76 ≤ y) : ¬ ((((y + 1)) = (y) + 3 ∨ ((y) + 7 ≤ ((y + 1)) ∧ ((y + 1)) ≤ (y) + 11)) ∨ (((y + 1)) = (y) + 1 ∧ ((1) = 5 ∨ (73 ≤ (1) ∧ (1) < 133)))) := by omega
theorem dW_306 (x y : Nat) (hxy : x + 76 ≤ y) : ¬ (((x + 1)) = (x) + 24 ∨ ((x + 1)) = (x) + 27 ∨ ((x) + 58 ≤ ((x + 1)) ∧ ((x + 1)) ≤ (x) + 67) ∨ (((x + 1)) = (x) + 1 ∧ (4) = 9) ∨ ((x + 1)) = (x) + 5) := by omega
theorem dW_307 (x y : Nat) (hxy : x + 76 ≤ y) : ¬ ((((y + 1)) = (y) + 3 ∨ ((y) + 7 ≤ ((y + 1)) ∧ ((y + 1)) ≤ (y) + 11)) ∨ (((y + 1)) = (y) + 1 ∧ ((2) = 5 ∨ (73 ≤ (2) ∧ (2) < 133)))) := by omega
theorem dW_308 (x y : Nat) (hxy : x + 76 ≤ y) : ¬ (((x + 1)) = (x) + 24 ∨ ((x + 1)) = (x) + 27 ∨ ((x) + 58 ≤ ((x + 1)) ∧ ((x + 1)) ≤ (x) + 67) ∨ (((x + 1)) = (x) + 1 ∧ (6) = 9) ∨ ((x + 1)) = (x) + 5) := by omega
theorem dW_309 (x y : Nat) (hxy : x + 76 ≤ y) : ¬ ((((y + 1)) = (y) + 3 ∨ ((y) + 7 ≤ ((y + 1)) ∧ ((y + 1)) ≤ (y) + 11)) ∨ (((y + 1)) = (y) + 1 ∧ ((3) = 5 ∨ (73 ≤ (3) ∧ (3) < 133)))) := by omega
theorem dW_310 (x y : Nat) (hxy : x + 76 ≤ y) : ¬ (((x + 1)) = (x) + 24 ∨ ((x + 1)) = (x) + 27 ∨ ((x) + 58 ≤ ((x + 1)) ∧ ((x + 1)) ≤ (x) + 67) ∨ (((x + 1)) = (x) + 1 ∧ (11) = 9) ∨ ((x + 1)) = (x) + 5) := by omega
theorem dW_311 (x y : Nat) (hxy : x + 76 ≤ y) : ¬ ((((y + 1)) = (y) + 3 ∨ ((y) + 7 ≤ ((y + 1)) ∧ ((y + 1)) ≤ (y) + 11)) ∨ (((y + 1)) = (y) + 1 ∧ ((6) = 5 ∨ (73 ≤ (6) ∧ (6) < 133)))) := by omega
theorem dW_312 (x y : Nat) (hxy : x + 76 ≤ y) : ∀ j : Nat, j < 9 → ∀ k : Nat, k < 6 → ¬ (((x + 1 + 6 + 1 * j)) = (x) + 24 ∨ ((x + 1 + 6 + 1 * j)) = (x) + 27 ∨ ((x) + 58 ≤ ((x + 1 + 6 + 1 * j)) ∧ ((x + 1 + 6 + 1 * j)) ≤ (x) + 67) ∨ (((x + 1 + 6 + 1 * j)) = (x) + 1 ∧ (k) = 9) ∨ ((x + 1 + 6 + 1 * j)) = (x) + 5) := by intros; omega
theorem dW_313 (x y : Nat) (hxy : x + 76 ≤ y) : ∀ k : Nat, 7 ≤ k → k < 61 → ¬ ((((y + 1)) = (y) + 3 ∨ ((y) + 7 ≤ ((y + 1)) ∧ ((y + 1)) ≤ (y) + 11)) ∨ (((y + 1)) = (y) + 1 ∧ ((k) = 5 ∨ (73 ≤ (k) ∧ (k) < 133)))) := by intros; omega
theorem dW_314 (x y : Nat) (hxy : x + 76 ≤ y) : ∀ j : Nat, j < 6 → ¬ (((x + 1 + 15 + 1 * j)) = (x) + 24 ∨ ((x + 1 + 15 + 1 * j)) = (x) + 27 ∨ ((x) + 58 ≤ ((x + 1 + 15 + 1 * j)) ∧ ((x + 1 + 15 + 1 * j)) ≤ (x) + 67) ∨ (((x + 1 + 15 + 1 * j)) = (x) + 1 ∧ (0) = 9) ∨ ((x + 1 + 15 + 1 * j)) = (x) + 5) := by intros; omega
theorem dW_315 (x y : Nat) (hxy : x + 76 ≤ y) : ∀ j : Nat, j < 6 → ¬ ((((y + 1)) = (y) + 3 ∨ ((y) + 7 ≤ ((y + 1)) ∧ ((y + 1)) ≤ (y) + 11)) ∨ (((y + 1)) = (y) + 1 ∧ (((61 + 2 * j + 0)) = 5 ∨ (73 ≤ ((61 + 2 * j + 0)) ∧ ((61 + 2 * j + 0)) < 133)))) := by intros; omega
theorem dW_316 (x y : Nat) (hxy : x + 76 ≤ y) : ∀ j : Nat, j < 4 → ¬ (((x + 68 + 2 * j)) = (x) + 24 ∨ ((x + 68 + 2 * j)) = (x) + 27 ∨ ((x) + 58 ≤ ((x + 68 + 2 * j)) ∧ ((x + 68 + 2 * j)) ≤ (x) + 67) ∨ (((x + 68 + 2 * j)) = (x) + 1 ∧ (0) = 9) ∨ ((x + 68 + 2 * j)) = (x) + 5) := by intros; omega
theorem dW_317 (x y : Nat) (hxy : x + 76 ≤ y) : ∀ j : Nat, j < 4 → ¬ ((((y + 4)) = (y) + 3 ∨ ((y) + 7 ≤ ((y + 4)) ∧ ((y + 4)) ≤ (y) + 11)) ∨ (((y + 4)) = (y) + 1 ∧ ((j) = 5 ∨ (73 ≤ (j) ∧ (j) < 133)))) := by intros; omega
theorem dW_318 (x y : Nat) (hxy : x + 76 ≤ y) : ∀ j : Nat, j < 4 → ¬ (((x + 68 + 2 * j)) = (x) + 24 ∨ ((x + 68 + 2 * j)) = (x) + 27 ∨ ((x) + 58 ≤ ((x + 68 + 2 * j)) ∧ ((x + 68 + 2 * j)) ≤ (x) + 67) ∨ (((x + 68 + 2 * j)) = (x) + 1 ∧ (1) = 9) ∨ ((x + 68 + 2 * j)) = (x) + 5) := by intros; omega
theorem dW_319 (x y : Nat) (hxy : x + 76 ≤ y) : ∀ j : Nat, j < 4 → ¬ ((((y + 5)) = (y) + 3 ∨ ((y) + 7 ≤ ((y + 5)) ∧ ((y + 5)) ≤ (y) + 11)) ∨ (((y + 5)) = (y) + 1 ∧ ((j) = 5 ∨ (73 ≤ (j) ∧ (j) < 133)))) := by intros; omega
theorem dW_320 (x y : Nat) (hxy : x + 76 ≤ y) : ∀ j : Nat, j < 4 → ∀ k : Nat, k < 24 → ¬ (((x + 68 + 2 * j + 1)) = (x) + 24 ∨ ((x + 68 + 2 * j + 1)) = (x) + 27 ∨ ((x) + 58 ≤ ((x + 68 + 2 * j + 1)) ∧ ((x + 68 + 2 * j + 1)) ≤ (x) + 67) ∨ (((x + 68 + 2 * j + 1)) = (x) + 1 ∧ (k) = 9) ∨ ((x + 68 + 2 * j + 1)) = (x) + 5) := by intros; omega
theorem dW_321 (x y : Nat) (hxy : x + 76 ≤ y) : ∀ k : Nat, k < 96 → ¬ ((((y + 6)) = (y) + 3 ∨ ((y) + 7 ≤ ((y + 6)) ∧ ((y + 6)) ≤ (y) + 11)) ∨ (((y + 6)) = (y) + 1 ∧ ((k) = 5 ∨ (73 ≤ (k) ∧ (k) < 133)))) := by intros; omega
theorem dW_322 (x y : Nat) (hxy : x + 76 ≤ y) : ¬ (((x + 56)) = (x) + 24 ∨ ((x + 56)) = (x) + 27 ∨ ((x) + 58 ≤ ((x + 56)) ∧ ((x + 56)) ≤ (x) + 67) ∨ (((x + 56)) = (x) + 1 ∧ (1) = 9) ∨ ((x + 56)) = (x) + 5) := by omega
theorem dW_323 (x y : Nat) (hxy : x + 76 ≤ y) : ¬ (((y) = (y) + 3 ∨ ((y) + 7 ≤ (y) ∧ (y) ≤ (y) + 11)) ∨ ((y) = (y) + 1 ∧ ((18) = 5 ∨ (73 ≤ (18) ∧ (18) < 133)))) := by omega
theorem dW_324 (x y : Nat) (hxy : x + 76 ≤ y) : ∀ k : Nat, ¬ (((x + 56 + 1)) = (x) + 24 ∨ ((x + 56 + 1)) = (x) + 27 ∨ ((x) + 58 ≤ ((x + 56 + 1)) ∧ ((x + 56 + 1)) ≤ (x) + 67) ∨ (((x + 56 + 1)) = (x) + 1 ∧ (k) = 9) ∨ ((x + 56 + 1)) = (x) + 5) := by intros; omega
theorem dW_325 (x y : Nat) (hxy : x + 76 ≤ y) : ∀ k : Nat, ¬ ((((y + 12)) = (y) + 3 ∨ ((y) + 7 ≤ ((y + 12)) ∧ ((y + 12)) ≤ (y) + 11)) ∨ (((y + 12)) = (y) + 1 ∧ ((k) = 5 ∨ (73 ≤ (k) ∧ (k) < 133)))) := by intros; omega
theorem dW_326 (x y : Nat) (hxy : x + 76 ≤ y) : ∀ a : Nat, (a = x + 1 + 21 ∨ a = x + 1 + 22 ∨ a = x + 1 + 24 ∨ a = x + 1 + 25) → ∀ k : Nat, ¬ ((a) = (x) + 24 ∨ (a) = (x) + 27 ∨ ((x) + 58 ≤ (a) ∧ (a) ≤ (x) + 67) ∨ ((a) = (x) + 1 ∧ (k) = 9) ∨ (a) = (x) + 5) := by intros; omega
theorem dW_327 (x y : Nat) (hxy : x + 76 ≤ y) : ∀ k : Nat, 157 ≤ k → ¬ ((((y + 1)) = (y) + 3 ∨ ((y) + 7 ≤ ((y + 1)) ∧ ((y + 1)) ≤ (y) + 11)) ∨ (((y + 1)) = (y) + 1 ∧ ((k) = 5 ∨ (73 ≤ (k) ∧ (k) < 133)))) := by intros; omega
theorem dW_328 (x y : Nat) (hxy : x + 76 ≤ y) : ∀ j : Nat, j < 6 → ¬ (((x + 1 + 15 + 1 * j)) = (x) + 24 ∨ ((x + 1 + 15 + 1 * j)) = (x) + 27 ∨ ((x) + 58 ≤ ((x + 1 + 15 + 1 * j)) ∧ ((x + 1 + 15 + 1 * j)) ≤ (x) + 67) ∨ (((x + 1 + 15 + 1 * j)) = (x) + 1 ∧ (1) = 9) ∨ ((x + 1 + 15 + 1 * j)) = (x) + 5) := by intros; omega
theorem dW_329 (x y : Nat) (hxy : x + 76 ≤ y) : ∀ j : Nat, j < 6 → ¬ ((((y + 1)) = (y) + 3 ∨ ((y) + 7 ≤ ((y + 1)) ∧ ((y + 1)) ≤ (y) + 11)) ∨ (((y + 1)) = (y) + 1 ∧ (((61 + 2 * j + 1)) = 5 ∨ (73 ≤ ((61 + 2 * j + 1)) ∧ ((61 + 2 * j + 1)) < 133)))) := by intros; omega
theorem dW_330 (x y : Nat) (hxy : x + 76 ≤ y) : ∀ k : Nat, k < 24 → ¬ (((x + 1 + 5)) = (x) + 24 ∨ ((x + 1 + 5)) = (x) + 27 ∨ ((x) + 58 ≤ ((x + 1 + 5)) ∧ ((x + 1 + 5)) ≤ (x) + 67) ∨ (((x + 1 + 5)) = (x) + 1 ∧ ((0 + k)) = 9) ∨ ((x + 1 + 5)) = (x) + 5) := by intros; omega
theorem dW_331 (x y : Nat) (hxy : x + 76 ≤ y) : ∀ k : Nat, k < 24 → ¬ ((((y + 1)) = (y) + 3 ∨ ((y) + 7 ≤ ((y + 1)) ∧ ((y + 1)) ≤ (y) + 11)) ∨ (((y + 1)) = (y) + 1 ∧ (((133 + k)) = 5 ∨ (73 ≤ ((133 + k)) ∧ ((133 + k)) < 133)))) := by intros; omega
theorem dW_332 (x y : Nat) (hxy : x + 76 ≤ y) : ∀ j : Nat, j < 9 → ∀ k : Nat, k < 6 → ¬ (((x + 28 + 6 + 1 * j)) = (x) + 24 ∨ ((x + 28 + 6 + 1 * j)) = (x) + 27 ∨ ((x) + 58 ≤ ((x + 28 + 6 + 1 * j)) ∧ ((x + 28 + 6 + 1 * j)) ≤ (x) + 67) ∨ (((x + 28 + 6 + 1 * j)) = (x) + 1 ∧ (k) = 9) ∨ ((x + 28 + 6 + 1 * j)) = (x) + 5) := by intros; omega
theorem dW_333 (x y : Nat) (hxy : x + 76 ≤ y) : ∀ k : Nat, 7 ≤ k → k < 61 → ¬ ((((y + 2)) = (y) + 3 ∨ ((y) + 7 ≤ ((y + 2)) ∧ ((y + 2)) ≤ (y) + 11)) ∨ (((y + 2)) = (y) + 1 ∧ ((k) = 5 ∨ (73 ≤ (k) ∧ (k) < 133)))) := by intros; omega
theorem dW_334 (x y : Nat) (hxy : x + 76 ≤ y) : ∀ j : Nat, j < 6 → ¬ (((x + 28 + 15 + 1 * j)) = (x) + 24 ∨ ((x + 28 + 15 + 1 * j)) = (x) + 27 ∨ ((x) + 58 ≤ ((x + 28 + 15 + 1 * j)) ∧ ((x + 28 + 15 + 1 * j)) ≤ (x) + 67) ∨ (((x + 28 + 15 + 1 * j)) = (x) + 1 ∧ (0) = 9) ∨ ((x + 28 + 15 + 1 * j)) = (x) + 5) := by intros; omega
theorem dW_335 (x y : Nat) (hxy : x + 76 ≤ y) : ∀ j : Nat, j < 6 → ¬ ((((y + 2)) = (y) + 3 ∨ ((y) + 7 ≤ ((y + 2)) ∧ ((y + 2)) ≤ (y) + 11)) ∨ (((y + 2)) = (y) + 1 ∧ (((61 + 2 * j + 0)) = 5 ∨ (73 ≤ ((61 + 2 * j + 0)) ∧ ((61 + 2 * j + 0)) < 133)))) := by intros; omega
theorem dW_336 (x y : Nat) (hxy : x + 76 ≤ y) : ¬ (((x + 28)) = (x) + 24 ∨ ((x + 28)) = (x) + 27 ∨ ((x) + 58 ≤ ((x + 28)) ∧ ((x + 28)) ≤ (x) + 67) ∨ (((x + 28)) = (x) + 1 ∧ (9) = 9) ∨ ((x + 28)) = (x) + 5) := by omega
theorem dW_337 (x y : Nat) (hxy : x + 76 ≤ y) : ∀ k : Nat, ¬ (((x + 28 + 4)) = (x) + 24 ∨ ((x + 28 + 4)) = (x) + 27 ∨ ((x) + 58 ≤ ((x + 28 + 4)) ∧ ((x + 28 + 4)) ≤ (x) + 67) ∨ (((x + 28 + 4)) = (x) + 1 ∧ (k) = 9) ∨ ((x + 28 + 4)) = (x) + 5) := by intros; omega
theorem dW_338 (x y : Nat) (hxy : x + 76 ≤ y) : ¬ ((((y + 2)) = (y) + 3 ∨ ((y) + 7 ≤ ((y + 2)) ∧ ((y + 2)) ≤ (y) + 11)) ∨ (((y + 2)) = (y) + 1 ∧ ((5) = 5 ∨ (73 ≤ (5) ∧ (5) < 133)))) := by omega
theorem dW_339 (x y : Nat) (hxy : x + 76 ≤ y) : ∀ k : Nat, k < 60 → ¬ ((((y + 2)) = (y) + 3 ∨ ((y) + 7 ≤ ((y + 2)) ∧ ((y + 2)) ≤ (y) + 11)) ∨ (((y + 2)) = (y) + 1 ∧ (((73 + k)) = 5 ∨ (73 ≤ ((73 + k)) ∧ ((73 + k)) < 133)))) := by intros; omega
theorem dW_340 (x y : Nat) (hxy : x + 76 ≤ y) : ∀ a : Nat, (a = x + 28 + 21 ∨ a = x + 28 + 22 ∨ a = x + 28 + 24 ∨ a = x + 28 + 25) → ∀ k : Nat, ¬ ((a) = (x) + 24 ∨ (a) = (x) + 27 ∨ ((x) + 58 ≤ (a) ∧ (a) ≤ (x) + 67) ∨ ((a) = (x) + 1 ∧ (k) = 9) ∨ (a) = (x) + 5) := by intros; omega
theorem dW_341 (x y : Nat) (hxy : x + 76 ≤ y) : ∀ k : Nat, 157 ≤ k → ¬ ((((y + 2)) = (y) + 3 ∨ ((y) + 7 ≤ ((y + 2)) ∧ ((y + 2)) ≤ (y) + 11)) ∨ (((y + 2)) = (y) + 1 ∧ ((k) = 5 ∨ (73 ≤ (k) ∧ (k) < 133)))) := by intros; omega
theorem dW_342 (x y : Nat) (hxy : x + 76 ≤ y) : ∀ j : Nat, j < 6 → ¬ (((x + 28 + 15 + 1 * j)) = (x) + 24 ∨ ((x + 28 + 15 + 1 * j)) = (x) + 27 ∨ ((x) + 58 ≤ ((x + 28 + 15 + 1 * j)) ∧ ((x + 28 + 15 + 1 * j)) ≤ (x) + 67) ∨ (((x + 28 + 15 + 1 * j)) = (x) + 1 ∧ (1) = 9) ∨ ((x + 28 + 15 + 1 * j)) = (x) + 5) := by intros; omega
theorem dW_343 (x y : Nat) (hxy : x + 76 ≤ y) : ∀ j : Nat, j < 6 → ¬ ((((y + 2)) = (y) + 3 ∨ ((y) + 7 ≤ ((y + 2)) ∧ ((y + 2)) ≤ (y) + 11)) ∨ (((y + 2)) = (y) + 1 ∧ (((61 + 2 * j + 1)) = 5 ∨ (73 ≤ ((61 + 2 * j + 1)) ∧ ((61 + 2 * j + 1)) < 133)))) := by intros; omega
theorem dW_344 (x y : Nat) (hxy : x + 76 ≤ y) : ¬ (((x + 28)) = (x) + 24 ∨ ((x + 28)) = (x) + 27 ∨ ((x) + 58 ≤ ((x + 28)) ∧ ((x + 28)) ≤ (x) + 67) ∨ (((x + 28)) = (x) + 1 ∧ (11) = 9) ∨ ((x + 28)) = (x) + 5) := by omega
theorem dW_345 (x y : Nat) (hxy : x + 76 ≤ y) : ∀ k : Nat, k < 24 → ¬ (((x + 28 + 5)) = (x) + 24 ∨ ((x + 28 + 5)) = (x) + 27 ∨ ((x) + 58 ≤ ((x + 28 + 5)) ∧ ((x + 28 + 5)) ≤ (x) + 67) ∨ (((x + 28 + 5)) = (x) + 1 ∧ ((0 + k)) = 9) ∨ ((x + 28 + 5)) = (x) + 5) := by intros; omega
theorem dW_346 (x y : Nat) (hxy : x + 76 ≤ y) : ¬ ((((y + 2)) = (y) + 3 ∨ ((y) + 7 ≤ ((y + 2)) ∧ ((y + 2)) ≤ (y) + 11)) ∨ (((y + 2)) = (y) + 1 ∧ ((6) = 5 ∨ (73 ≤ (6) ∧ (6) < 133)))) := by omega
theorem dW_347 (x y : Nat) (hxy : x + 76 ≤ y) : ∀ k : Nat, k < 24 → ¬ ((((y + 2)) = (y) + 3 ∨ ((y) + 7 ≤ ((y + 2)) ∧ ((y + 2)) ≤ (y) + 11)) ∨ (((y + 2)) = (y) + 1 ∧ (((133 + k)) = 5 ∨ (73 ≤ ((133 + k)) ∧ ((133 + k)) < 133)))) := by intros; omega
set_option maxHeartbeats 4000000 in
set_option maxRecDepth 100000 in
theorem lc_feed {p : Program} {l : Launch} {e : Env} {s : State} {m : MethodId} {below : List Frame} {meth : Method} {c : Code} {b L x y : Nat} {xs : Nat → Int32} {E : zz_E} {Q : State → Prop} (hA : zz_LA p s m c b L xs E x y) (i : Int32) (hi : 0 ≤ i.toInt ∧ i.toInt + 6 ≤ L) (σ : zz_S) (H : Heap) (locs : List Loc) (ls : Array Slot) (hR : zz_RL σ x y) (hQ : zz_RD σ x y) (hP : zz_P E σ H) (hS : va_S (zz_A E) s.heap H locs) (hl : lv_has ls 4 [(0, .ref b), (1, .ref x), (2, .ref y), (3, .int i)])
    (kk : ∀ (σ1 : zz_S) (H1 : Heap) (locs1 : List Loc), zz_RL σ1 x y → zz_RD σ1 x y → zz_P E σ1 H1 → va_S (zz_A E) s.heap H1 locs1 → W p l e room_1 s m #[Value.ref b] below meth c H1 locs1 600000 7302250 Q (F0 m 1384 ls [])) : W p l e room_1 s m #[Value.ref b] below meth c H locs 600000 7302250 Q (F0 m 497 ls []) := by
  obtain ⟨hx, hb, hml, hown, hts, hX, hbl, hbE, hL, gL, gM, hxy, hK⟩ := hA
  have hbA : ¬ zz_A E b := fun h => absurd (hbE b h) (Nat.not_le.mpr hbl)
  have k_1 : (1 : Int32).toInt = 1 := by decide +kernel
  have k_2 : (2 : Int32).toInt = 2 := by decide +kernel
  have k_3 : (3 : Int32).toInt = 3 := by decide +kernel
  have k_32 : (32 : Int32).toInt = 32 := by decide +kernel
  refine lv_aload_n hx hb dL_law_497 rfl (lv_at hl 1 rfl) ?_
  refine lv_aload_n hx hb dL_law_498 rfl (lv_at hl 0 rfl) ?_
  refine lv_iload_n hx hb dL_law_499 rfl (lv_at hl 3 rfl) ?_
  refine lv_iconst (v := 1) hx hb dL_law_500 (by decide) ?_
  refine lv_iadd hx hb dL_law_501 ?_
  refine lv_topi (fun n1 e1 => ?_)
  have f1 : n1.toInt = (i).toInt + (1 : Int32).toInt := zz_addT e1 (by omega) (by omega)
  refine va_sld hx hb hX hbl hbA hS (vp_in_iff.mpr ⟨by omega, by omega⟩) dL_law_502 ?_
  refine lv_topi (fun v2 u2 => ?_)
  refine lv_i2l hx hb dL_law_503 rfl ?_
  refine lv_topl (fun n3 e3 => ?_)
  refine lv_bipush (v := 32) hx hb dL_law_504 (by decide) ?_
  refine lv_lshl hx hb dL_law_506 rfl ?_
  refine lv_topl (fun n4 e4 => ?_)
  refine lv_aload_n hx hb dL_law_507 rfl (lv_at hl 0 rfl) ?_
  refine lv_iload_n hx hb dL_law_508 rfl (lv_at hl 3 rfl) ?_
  refine lv_iconst (v := 2) hx hb dL_law_509 (by decide) ?_
  refine lv_iadd hx hb dL_law_510 ?_
  refine lv_topi (fun n5 e5 => ?_)
  have f5 : n5.toInt = (i).toInt + (2 : Int32).toInt := zz_addT e5 (by omega) (by omega)
  refine va_sld hx hb hX hbl hbA hS (vp_in_iff.mpr ⟨by omega, by omega⟩) dL_law_511 ?_
  refine lv_topi (fun v6 u6 => ?_)
  refine lv_i2l hx hb dL_law_512 rfl ?_
  refine lv_topl (fun n7 e7 => ?_)
  refine lv_ldc2 (v := 4294967295) hx hb hown (hts (.constantLong RL 52 (4294967295)) bm_6) dL_law_513 ?_
  refine lv_land hx hb dL_law_516 ?_
  refine lv_topl (fun n8 e8 => ?_)
  refine lv_lor hx hb dL_law_517 ?_
  refine lv_topl (fun n9 e9 => ?_)
  refine lv_aload_n hx hb dL_law_518 rfl (lv_at hl 0 rfl) ?_
  refine lv_iload_n hx hb dL_law_519 rfl (lv_at hl 3 rfl) ?_
  refine lv_iconst (v := 3) hx hb dL_law_520 (by decide) ?_
  refine lv_iadd hx hb dL_law_521 ?_
  refine lv_topi (fun n10 e10 => ?_)
  have f10 : n10.toInt = (i).toInt + (3 : Int32).toInt := zz_addT e10 (by omega) (by omega)
  refine va_sld hx hb hX hbl hbA hS (vp_in_iff.mpr ⟨by omega, by omega⟩) dL_law_522 ?_
  refine lv_topi (fun v11 u11 => ?_)
  refine zz_callVi (As := [.long n9, .int v11]) (rest := []) ⟨hx, hb, hml, hown, hts⟩ hK hP hS (c_X8_feed l E σ x n9 v11 gL hR.1) (cwV 2 hts gL_law_X8_feed rfl rfl rfl (by decide +kernel) ⟨Nat.le_of_ble_eq_true rfl, Nat.le_of_ble_eq_true rfl⟩) (gL.1) rfl rfl hl.1 rfl (Nat.le_of_ble_eq_true rfl) dL_law_523 ⟨Nat.le_refl _, Nat.le_refl _⟩ (fun r1 σ1 H locs q1 hP hS => ?_)
  try dsimp only at q1
  obtain ⟨w1, p1⟩ := q1
  have B : ∀ a k : Nat, y ≤ a → a ≤ y + 12 → σ1 a k = σ a k := fun a k h1 h2 => w1 a k ((dW_294 x y hxy) a k h1 h2)
  have hJ1 : zz_IM σ1 y := hR.2.1.far B
  refine lv_pop hx hb dL_law_526 rfl ?_
  refine lv_aload_n hx hb dL_law_527 rfl (lv_at hl 2 rfl) ?_
  refine lv_aload_n hx hb dL_law_528 rfl (lv_at hl 0 rfl) ?_
  refine lv_iload_n hx hb dL_law_529 rfl (lv_at hl 3 rfl) ?_
  refine lv_iconst (v := 1) hx hb dL_law_530 (by decide) ?_
  refine lv_iadd hx hb dL_law_531 ?_
  refine lv_topi (fun n13 e13 => ?_)
  have f13 : n13.toInt = (i).toInt + (1 : Int32).toInt := zz_addT e13 (by omega) (by omega)
  refine va_sld hx hb hX hbl hbA hS (vp_in_iff.mpr ⟨by omega, by omega⟩) dL_law_532 ?_
  refine lv_topi (fun v14 u14 => ?_)
  have z14 : v14 = v2 := by rw [u14, u2, e13, e1]
  have zt14 := congrArg Int32.toInt z14
  refine lv_i2l hx hb dL_law_533 rfl ?_
  refine lv_topl (fun n15 e15 => ?_)
  refine lv_bipush (v := 32) hx hb dL_law_534 (by decide) ?_
  refine lv_lshl hx hb dL_law_536 rfl ?_
  refine lv_topl (fun n16 e16 => ?_)
  refine lv_aload_n hx hb dL_law_537 rfl (lv_at hl 0 rfl) ?_
  refine lv_iload_n hx hb dL_law_538 rfl (lv_at hl 3 rfl) ?_
  refine lv_iconst (v := 2) hx hb dL_law_539 (by decide) ?_
  refine lv_iadd hx hb dL_law_540 ?_
  refine lv_topi (fun n17 e17 => ?_)
  have f17 : n17.toInt = (i).toInt + (2 : Int32).toInt := zz_addT e17 (by omega) (by omega)
  refine va_sld hx hb hX hbl hbA hS (vp_in_iff.mpr ⟨by omega, by omega⟩) dL_law_541 ?_
  refine lv_topi (fun v18 u18 => ?_)
  have z18 : v18 = v6 := by rw [u18, u6, e17, e5]
  have zt18 := congrArg Int32.toInt z18
  refine lv_i2l hx hb dL_law_542 rfl ?_
  refine lv_topl (fun n19 e19 => ?_)
  refine lv_ldc2 (v := 4294967295) hx hb hown (hts (.constantLong RL 52 (4294967295)) bm_6) dL_law_543 ?_
  refine lv_land hx hb dL_law_546 ?_
  refine lv_topl (fun n20 e20 => ?_)
  refine lv_lor hx hb dL_law_547 ?_
  refine lv_topl (fun n21 e21 => ?_)
  refine lv_aload_n hx hb dL_law_548 rfl (lv_at hl 0 rfl) ?_
  refine lv_iload_n hx hb dL_law_549 rfl (lv_at hl 3 rfl) ?_
  refine lv_iconst (v := 3) hx hb dL_law_550 (by decide) ?_
  refine lv_iadd hx hb dL_law_551 ?_
  refine lv_topi (fun n22 e22 => ?_)
  have f22 : n22.toInt = (i).toInt + (3 : Int32).toInt := zz_addT e22 (by omega) (by omega)
  refine va_sld hx hb hX hbl hbA hS (vp_in_iff.mpr ⟨by omega, by omega⟩) dL_law_552 ?_
  refine lv_topi (fun v23 u23 => ?_)
  have z23 : v23 = v11 := by rw [u23, u11, e22, e10]
  have zt23 := congrArg Int32.toInt z23
  refine zz_callVi (As := [.long n21, .int v23]) (rest := []) ⟨hx, hb, hml, hown, hts⟩ hK hP hS (c_X9_feed l E σ1 y n21 v23 gM hJ1) (cwV 2 hts gL_law_X9_feed rfl rfl rfl (by decide +kernel) ⟨Nat.le_of_ble_eq_true rfl, Nat.le_of_ble_eq_true rfl⟩) (gM.1) rfl rfl hl.1 rfl (Nat.le_of_ble_eq_true rfl) dL_law_553 ⟨Nat.le_refl _, Nat.le_refl _⟩ (fun r2 σ2 H locs q2 hP hS => ?_)
  try dsimp only at q2
  obtain ⟨w2, p2⟩ := q2
  have A : ∀ a k : Nat, x ≤ a → a < x + 76 → σ2 a k = σ1 a k := fun a k h1 h2 => w2 a k ((dW_295 x y hxy) a k h1 h2)
  obtain ⟨i1, p1⟩ := p1
  obtain ⟨i2, p2⟩ := p2
  try simp only [z14, z18, z23] at p2
  obtain ⟨h0, h1, h2, h3, h4, h5, h6⟩ := hR.2.2.1
  have ga5 := congrArg Int32.toInt (A (x + 1) 9 (by omega) (by omega))
  have gb5 := congrArg Int32.toInt (B (y + 1) 5 (by omega) (by omega))
  have rr2 : zz_RR σ2 (x + 1) (y + 1) := ⟨(congrArg Int32.toInt (A (x + 1) 0 (by omega) (by omega))).trans ((congrArg Int32.toInt (w1 (x + 1) 0 (dW_300 x y hxy))).trans (h0.trans ((congrArg Int32.toInt (B (y + 1) 0 (by omega) (by omega))).symm.trans (congrArg Int32.toInt (w2 (y + 1) 0 (dW_301 x y hxy))).symm))), (congrArg Int32.toInt (A (x + 1) 1 (by omega) (by omega))).trans ((congrArg Int32.toInt (w1 (x + 1) 1 (dW_302 x y hxy))).trans (h1.trans ((congrArg Int32.toInt (B (y + 1) 4 (by omega) (by omega))).symm.trans (congrArg Int32.toInt (w2 (y + 1) 4 (dW_303 x y hxy))).symm))), (congrArg Int32.toInt (A (x + 1) 2 (by omega) (by omega))).trans ((congrArg Int32.toInt (w1 (x + 1) 2 (dW_304 x y hxy))).trans (h2.trans ((congrArg Int32.toInt (B (y + 1) 1 (by omega) (by omega))).symm.trans (congrArg Int32.toInt (w2 (y + 1) 1 (dW_305 x y hxy))).symm))), (congrArg Int32.toInt (A (x + 1) 4 (by omega) (by omega))).trans ((congrArg Int32.toInt (w1 (x + 1) 4 (dW_306 x y hxy))).trans (h3.trans ((congrArg Int32.toInt (B (y + 1) 2 (by omega) (by omega))).symm.trans (congrArg Int32.toInt (w2 (y + 1) 2 (dW_307 x y hxy))).symm))), (congrArg Int32.toInt (A (x + 1) 6 (by omega) (by omega))).trans ((congrArg Int32.toInt (w1 (x + 1) 6 (dW_308 x y hxy))).trans (h4.trans ((congrArg Int32.toInt (B (y + 1) 3 (by omega) (by omega))).symm.trans (congrArg Int32.toInt (w2 (y + 1) 3 (dW_309 x y hxy))).symm))), by omega, (congrArg Int32.toInt (A (x + 1) 11 (by omega) (by omega))).trans ((congrArg Int32.toInt (w1 (x + 1) 11 (dW_310 x y hxy))).trans (h6.trans ((congrArg Int32.toInt (B (y + 1) 6 (by omega) (by omega))).symm.trans (congrArg Int32.toInt (w2 (y + 1) 6 (dW_311 x y hxy))).symm)))⟩
  have hRL : zz_RL σ2 x y := hR.real i1 i2 A B rr2 (fun k => w1 (x + 28) k ((dW_296 x y hxy) k)) (w1 x 2 (dW_297 x y hxy)) (fun k => w2 (y + 2) k ((dW_298 x y hxy) k)) (w2 y 2 (dW_299 x y hxy))
  obtain ⟨hqD, hqW, hqK, hqB, hqN, hqC, hqL, hqT, hqP, hqX, hqF, hqG, hqV⟩ := hQ
  obtain ⟨aD, aW, aKD, aKW, aB, aN, aC, aL, aT, aP, aX, aKP, aKX⟩ := zz_aX A
  obtain ⟨bD, bW, bKD, bKW, bB, bN, bC, bL, bT, bP, bX, bKP, bKX⟩ := zz_bM hR.2.1 B
  obtain ⟨aF, aKF, aV, aKV⟩ := zy_aX2 A
  obtain ⟨bF, bKF, bV, bKV⟩ := zy_bM2 B
  have rD : zz_DX σ2 (x + 1) = zz_DM σ2 (y + 1) := by rw [aD, zz_DXk (r := x + 1) w1 (dW_312 x y hxy), zz_DMk (a := y + 1) w2 (dW_313 x y hxy), bD, hqD]
  have rW : zz_PX 0 σ2 (x + 1) = zz_PM 0 σ2 (y + 1) := by rw [aW, zz_PXk (f := 0) (r := x + 1) w1 (dW_314 x y hxy), zz_PMk (f := 0) (a := y + 1) w2 (dW_315 x y hxy), bW, hqW]
  have rB : zz_HX 0 σ2 x = zz_HM σ2 (y + 4) := by rw [aB, zz_HX.eq (f := 0) (x := x) (fun j hj => w1 _ _ ((dW_316 x y hxy) j hj)), zz_HM.eq (a := y + 4) (fun j hj => w2 _ _ ((dW_317 x y hxy) j hj)), bB, hqB]
  have rN : zz_HX 1 σ2 x = zz_HM σ2 (y + 5) := by rw [aN, zz_HX.eq (f := 1) (x := x) (fun j hj => w1 _ _ ((dW_318 x y hxy) j hj)), zz_HM.eq (a := y + 5) (fun j hj => w2 _ _ ((dW_319 x y hxy) j hj)), bN, hqN]
  have rC : zz_CX σ2 x = zz_CM σ2 (y + 6) := by rw [aC, zz_CX.eq (x := x) (fun j hj k hk => w1 _ _ ((dW_320 x y hxy) j hj k hk)), zz_CM.eq (a := y + 6) (fun k hk => w2 _ _ ((dW_321 x y hxy) k hk)), bC, hqC]
  have rL : (σ2 (x + 56) 1).toInt = (σ2 y 18).toInt := by rw [aL, congrArg Int32.toInt (w1 (x + 56) 1 (dW_322 x y hxy)), congrArg Int32.toInt (w2 y 18 (dW_323 x y hxy)), bL, hqL]
  have rT : zz_TV σ2 (x + 56 + 1) = zz_TV σ2 (y + 12) := by rw [aT, zz_TV.eq (a := x + 56 + 1) (b := x + 56 + 1) (fun k _ => w1 _ k ((dW_324 x y hxy) k)), zz_TV.eq (a := y + 12) (b := y + 12) (fun k _ => w2 _ k ((dW_325 x y hxy) k)), bT, hqT]
  have rX : zz_tts (zz_XT σ2 (x + 1)) (zz_MT σ2 (y + 1)) := by rw [aX, zz_XT.all (r := x + 1) (fun a ha k => w1 a k ((dW_326 x y hxy) a ha k)), zz_MT.hi (a := y + 1) (b := y + 1) (fun k hk => w2 (y + 1) k ((dW_327 x y hxy) k hk)), bX]; exact hqX
  have rF : zz_PX 1 σ2 (x + 1) = zz_PM 1 σ2 (y + 1) := by rw [aF, zz_PXk (f := 1) (r := x + 1) w1 (dW_328 x y hxy), zz_PMk (f := 1) (a := y + 1) w2 (dW_329 x y hxy), bF, hqF]
  have rV : zy_wv σ2 (x + 1 + 5) 0 (σ2 (x + 1) 11).toInt = zy_wv σ2 (y + 1) 133 (σ2 (y + 1) 6).toInt := by rw [aV, zy_wv.eq (a := x + 1 + 5) (a1 := x + 1 + 5) (b := 0) (b1 := 0) (congrArg Int32.toInt (w1 (x + 1) 11 (dW_310 x y hxy))) (fun k hk => w1 (x + 1 + 5) (0 + k) ((dW_330 x y hxy) k hk)), zy_wv.eq (a := y + 1) (a1 := y + 1) (b := 133) (b1 := 133) (congrArg Int32.toInt (w2 (y + 1) 6 (dW_311 x y hxy))) (fun k hk => w2 (y + 1) (133 + k) ((dW_331 x y hxy) k hk)), bV, hqV]
  have rG : zy_FB (zz_PM 1 σ2 (y + 1)) := by rw [zz_PMk (f := 1) (a := y + 1) w2 (dW_329 x y hxy), bF]; exact hqG
  have rK : (σ2 x 2).toInt = 0 ∨ (zz_DX σ2 (x + 28) = zz_DM σ2 (y + 2) ∧ zz_PX 0 σ2 (x + 28) = zz_PM 0 σ2 (y + 2) ∧ zz_Tp σ2 (x + 28 + 4) (σ2 (x + 28) 9).toInt = zz_Tm σ2 (y + 2) ∧ zz_tts (zz_XT σ2 (x + 28)) (zz_MT σ2 (y + 2)) ∧ zz_PX 1 σ2 (x + 28) = zz_PM 1 σ2 (y + 2) ∧ zy_FB (zz_PM 1 σ2 (y + 2)) ∧ zy_wv σ2 (x + 28 + 5) 0 (σ2 (x + 28) 11).toInt = zy_wv σ2 (y + 2) 133 (σ2 (y + 2) 6).toInt) := hqK.elim (fun q => Or.inl ((congrArg Int32.toInt ((A x 2 (by omega) (by omega)).trans (w1 x 2 (dW_297 x y hxy)))).trans q)) (fun q => Or.inr ⟨by rw [aKD, zz_DXk (r := x + 28) w1 (dW_332 x y hxy), zz_DMk (a := y + 2) w2 (dW_333 x y hxy), bKD, q.1], by rw [aKW, zz_PXk (f := 0) (r := x + 28) w1 (dW_334 x y hxy), zz_PMk (f := 0) (a := y + 2) w2 (dW_335 x y hxy), bKW, q.2.1], by rw [aKP, zz_Tp.all (a := x + 28 + 4) (b := x + 28 + 4) (congrArg Int32.toInt (w1 (x + 28) 9 (dW_336 x y hxy))) (fun k => w1 _ k ((dW_337 x y hxy) k)), zz_Tm.eq (a := y + 2) (b := y + 2) (w2 (y + 2) 5 (dW_338 x y hxy)) hJ1.2.1.2.2.2.2.1.2 (fun k hk => w2 (y + 2) (73 + k) ((dW_339 x y hxy) k hk)), bKP, q.2.2.1], by rw [aKX, zz_XT.all (r := x + 28) (fun a ha k => w1 a k ((dW_340 x y hxy) a ha k)), zz_MT.hi (a := y + 2) (b := y + 2) (fun k hk => w2 (y + 2) k ((dW_341 x y hxy) k hk)), bKX]; exact q.2.2.2.1, by rw [aKF, zz_PXk (f := 1) (r := x + 28) w1 (dW_342 x y hxy), zz_PMk (f := 1) (a := y + 2) w2 (dW_343 x y hxy), bKF, q.2.2.2.2.1], by rw [zz_PMk (f := 1) (a := y + 2) w2 (dW_343 x y hxy), bKF]; exact q.2.2.2.2.2.1, by rw [aKV, zy_wv.eq (a := x + 28 + 5) (a1 := x + 28 + 5) (b := 0) (b1 := 0) (congrArg Int32.toInt (w1 (x + 28) 11 (dW_344 x y hxy))) (fun k hk => w1 (x + 28 + 5) (0 + k) ((dW_345 x y hxy) k hk)), zy_wv.eq (a := y + 2) (a1 := y + 2) (b := 133) (b1 := 133) (congrArg Int32.toInt (w2 (y + 2) 6 (dW_346 x y hxy))) (fun k hk => w2 (y + 2) (133 + k) ((dW_347 x y hxy) k hk)), bKV, q.2.2.2.2.2.2]⟩)
  have hw9 : n21 = n9 := by rw [e21, e20, e19, e16, e15, z14, z18, e9, e8, e7, e4, e3]
  have hcq : (σ (x + 1) 9).toInt = (σ1 (y + 1) 5).toInt := hR.2.2.1.2.2.2.2.2.1.trans (congrArg Int32.toInt (B (y + 1) 5 (by omega) (by omega))).symm
  have hrr0 : r1.toInt = r2.toInt := by omega
  have rP : zz_Tp σ2 (x + 1 + 4) (σ2 (x + 1) 9).toInt = zz_Tm σ2 (y + 1) := by
    by_cases q : r1.toInt < 0
    · rw [aP, p1.2.1 q, p2.2.1 (by omega), bP, hqP]
    · rw [aP, p1.2.2 (by omega), p2.2.2 (by omega), bP, hqP, hcq, hw9]
  have hQ2 : zz_RD σ2 x y := ⟨rD, rW, rK, rB, rN, rC, rL, rT, rP, rX, rF, rG, rV⟩
  refine lv_pop hx hb dL_law_556 rfl ?_
  refine lv_goto (tgt := 1384) hx hb dL_law_557 (by decide) ?_
  exact kk _ _ _ hRL hQ2 hP hS
