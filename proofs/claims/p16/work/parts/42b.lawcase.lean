theorem gL_law_X8_text : GoodIn wsL_law (wsV RL 59 RX8 yX8_text wzX8_text) := wz_coL bm_435 (wz_coL bm_436 (wz_coL bm_437 (wz_coL bm_2 (wz_inL bm_438))))
theorem gL_law_X9_text : GoodIn wsL_law (wsV RL 62 RX9 yX9_text wzX9_text) := wz_coL bm_506 (wz_coL bm_507 (wz_coL bm_508 (wz_coL bm_5 (wz_inL bm_509))))
theorem dW_348 (x y : Nat) (hxy : x + 76 ≤ y) : ∀ a k : Nat, y ≤ a → a ≤ y + 12 → ¬ ((a) = (x) + 24 ∨ (a) = (x) + 27 ∨ ((x) + 58 ≤ (a) ∧ (a) ≤ (x) + 67) ∨ ((a) = (x) + 1 ∧ (k) = 9) ∨ (a) = (x) + 22 ∨ (a) = (x) + 23 ∨ (a) = (x) + 25 ∨ (a) = (x) + 26) := by intros; omega
theorem dW_349 (x y : Nat) (hxy : x + 76 ≤ y) : ∀ a k : Nat, x ≤ a → a < x + 76 → ¬ (((a) = (y) + 3 ∨ ((y) + 7 ≤ (a) ∧ (a) ≤ (y) + 11)) ∨ ((a) = (y) ∧ 11 ≤ (k) ∧ (k) ≤ 15) ∨ ((a) = (y) + 1 ∧ ((k) = 5 ∨ 157 ≤ (k)))) := by intros; omega
theorem dW_350 (x y : Nat) (hxy : x + 76 ≤ y) : ∀ k : Nat, ¬ (((x + 28)) = (x) + 24 ∨ ((x + 28)) = (x) + 27 ∨ ((x) + 58 ≤ ((x + 28)) ∧ ((x + 28)) ≤ (x) + 67) ∨ (((x + 28)) = (x) + 1 ∧ (k) = 9) ∨ ((x + 28)) = (x) + 22 ∨ ((x + 28)) = (x) + 23 ∨ ((x + 28)) = (x) + 25 ∨ ((x + 28)) = (x) + 26) := by intros; omega
theorem dW_351 (x y : Nat) (hxy : x + 76 ≤ y) : ¬ ((x) = (x) + 24 ∨ (x) = (x) + 27 ∨ ((x) + 58 ≤ (x) ∧ (x) ≤ (x) + 67) ∨ ((x) = (x) + 1 ∧ (2) = 9) ∨ (x) = (x) + 22 ∨ (x) = (x) + 23 ∨ (x) = (x) + 25 ∨ (x) = (x) + 26) := by omega
theorem dW_352 (x y : Nat) (hxy : x + 76 ≤ y) : ∀ k : Nat, ¬ ((((y + 2)) = (y) + 3 ∨ ((y) + 7 ≤ ((y + 2)) ∧ ((y + 2)) ≤ (y) + 11)) ∨ (((y + 2)) = (y) ∧ 11 ≤ (k) ∧ (k) ≤ 15) ∨ (((y + 2)) = (y) + 1 ∧ ((k) = 5 ∨ 157 ≤ (k)))) := by intros; omega
theorem dW_353 (x y : Nat) (hxy : x + 76 ≤ y) : ¬ (((y) = (y) + 3 ∨ ((y) + 7 ≤ (y) ∧ (y) ≤ (y) + 11)) ∨ ((y) = (y) ∧ 11 ≤ (2) ∧ (2) ≤ 15) ∨ ((y) = (y) + 1 ∧ ((2) = 5 ∨ 157 ≤ (2)))) := by omega
theorem dW_354 (x y : Nat) (hxy : x + 76 ≤ y) : ¬ (((x + 1)) = (x) + 24 ∨ ((x + 1)) = (x) + 27 ∨ ((x) + 58 ≤ ((x + 1)) ∧ ((x + 1)) ≤ (x) + 67) ∨ (((x + 1)) = (x) + 1 ∧ (0) = 9) ∨ ((x + 1)) = (x) + 22 ∨ ((x + 1)) = (x) + 23 ∨ ((x + 1)) = (x) + 25 ∨ ((x + 1)) = (x) + 26) := by omega
theorem dW_355 (x y : Nat) (hxy : x + 76 ≤ y) : ¬ ((((y + 1)) = (y) + 3 ∨ ((y) + 7 ≤ ((y + 1)) ∧ ((y + 1)) ≤ (y) + 11)) ∨ (((y + 1)) = (y) ∧ 11 ≤ (0) ∧ (0) ≤ 15) ∨ (((y + 1)) = (y) + 1 ∧ ((0) = 5 ∨ 157 ≤ (0)))) := by omega
theorem dW_356 (x y : Nat) (hxy : x + 76 ≤ y) : ¬ (((x + 1)) = (x) + 24 ∨ ((x + 1)) = (x) + 27 ∨ ((x) + 58 ≤ ((x + 1)) ∧ ((x + 1)) ≤ (x) + 67) ∨ (((x + 1)) = (x) + 1 ∧ (1) = 9) ∨ ((x + 1)) = (x) + 22 ∨ ((x + 1)) = (x) + 23 ∨ ((x + 1)) = (x) + 25 ∨ ((x + 1)) = (x) + 26) := by omega
theorem dW_357 (x y : Nat) (hxy : x + 76 ≤ y) : ¬ ((((y + 1)) = (y) + 3 ∨ ((y) + 7 ≤ ((y + 1)) ∧ ((y + 1)) ≤ (y) + 11)) ∨ (((y + 1)) = (y) ∧ 11 ≤ (4) ∧ (4) ≤ 15) ∨ (((y + 1)) = (y) + 1 ∧ ((4) = 5 ∨ 157 ≤ (4)))) := by omega
theorem dW_358 (x y : Nat) (hxy : x + 76 ≤ y) : ¬ (((x + 1)) = (x) + 24 ∨ ((x + 1)) = (x) + 27 ∨ ((x) + 58 ≤ ((x + 1)) ∧ ((x + 1)) ≤ (x) + 67) ∨ (((x + 1)) = (x) + 1 ∧ (2) = 9) ∨ ((x + 1)) = (x) + 22 ∨ ((x + 1)) = (x) + 23 ∨ ((x + 1)) = (x) + 25 ∨ ((x + 1)) = (x) + 26) := by omega
theorem dW_359 (x y : Nat) (hxy : x + 76 ≤ y) : ¬ ((((y + 1)) = (y) + 3 ∨ ((y) + 7 ≤ ((y + 1)) ∧ ((y + 1)) ≤ (y) + 11)) ∨ (((y + 1)) = (y) ∧ 11 ≤ (1) ∧ (1) ≤ 15) ∨ (((y + 1)) = (y) + 1 ∧ ((1) = 5 ∨ 157 ≤ (1)))) := by omega
theorem dW_360 (x y : Nat) (hxy : x + 76 ≤ y) : ¬ (((x + 1)) = (x) + 24 ∨ ((x + 1)) = (x) + 27 ∨ ((x) + 58 ≤ ((x + 1)) ∧ ((x + 1)) ≤ (x) + 67) ∨ (((x + 1)) = (x) + 1 ∧ (4) = 9) ∨ ((x + 1)) = (x) + 22 ∨ ((x + 1)) = (x) + 23 ∨ ((x + 1)) = (x) + 25 ∨ ((x + 1)) = (x) + 26) := by omega
theorem dW_361 (x y : Nat) (hxy : x + 76 ≤ y) : ¬ ((((y + 1)) = (y) + 3 ∨ ((y) + 7 ≤ ((y + 1)) ∧ ((y + 1)) ≤ (y) + 11)) ∨ (((y + 1)) = (y) ∧ 11 ≤ (2) ∧ (2) ≤ 15) ∨ (((y + 1)) = (y) + 1 ∧ ((2) = 5 ∨ 157 ≤ (2)))) := by omega
theorem dW_362 (x y : Nat) (hxy : x + 76 ≤ y) : ¬ (((x + 1)) = (x) + 24 ∨ ((x + 1)) = (x) + 27 ∨ ((x) + 58 ≤ ((x + 1)) ∧ ((x + 1)) ≤ (x) + 67) ∨ (((x + 1)) = (x) + 1 ∧ (6) = 9) ∨ ((x + 1)) = (x) + 22 ∨ ((x + 1)) = (x) + 23 ∨ ((x + 1)) = (x) + 25 ∨ ((x + 1)) = (x) + 26) := by omega
theorem dW_363 (x y : Nat) (hxy : x + 76 ≤ y) : ¬ ((((y + 1)) = (y) + 3 ∨ ((y) + 7 ≤ ((y + 1)) ∧ ((y + 1)) ≤ (y) + 11)) ∨ (((y + 1)) = (y) ∧ 11 ≤ (3) ∧ (3) ≤ 15) ∨ (((y + 1)) = (y) + 1 ∧ ((3) = 5 ∨ 157 ≤ (3)))) := by omega
theorem dW_364 (x y : Nat) (hxy : x + 76 ≤ y) : ¬ (((x + 1)) = (x) + 24 ∨ ((x + 1)) = (x) + 27 ∨ ((x) + 58 ≤ ((x + 1)) ∧ ((x + 1)) ≤ (x) + 67) ∨ (((x + 1)) = (x) + 1 ∧ (11) = 9) ∨ ((x + 1)) = (x) + 22 ∨ ((x + 1)) = (x) + 23 ∨ ((x + 1)) = (x) + 25 ∨ ((x + 1)) = (x) + 26) := by omega
theorem dW_365 (x y : Nat) (hxy : x + 76 ≤ y) : ¬ ((((y + 1)) = (y) + 3 ∨ ((y) + 7 ≤ ((y + 1)) ∧ ((y + 1)) ≤ (y) + 11)) ∨ (((y + 1)) = (y) ∧ 11 ≤ (6) ∧ (6) ≤ 15) ∨ (((y + 1)) = (y) + 1 ∧ ((6) = 5 ∨ 157 ≤ (6)))) := by omega
theorem dW_366 (x y : Nat) (hxy : x + 76 ≤ y) : ∀ j : Nat, j < 9 → ∀ k : Nat, k < 6 → ¬ (((x + 1 + 6 + 1 * j)) = (x) + 24 ∨ ((x + 1 + 6 + 1 * j)) = (x) + 27 ∨ ((x) + 58 ≤ ((x + 1 + 6 + 1 * j)) ∧ ((x + 1 + 6 + 1 * j)) ≤ (x) + 67) ∨ (((x + 1 + 6 + 1 * j)) = (x) + 1 ∧ (k) = 9) ∨ ((x + 1 + 6 + 1 * j)) = (x) + 22 ∨ ((x + 1 + 6 + 1 * j)) = (x) + 23 ∨ ((x + 1 + 6 + 1 * j)) = (x) + 25 ∨ ((x + 1 + 6 + 1 * j)) = (x) + 26) := by intros; omega
theorem dW_367 (x y : Nat) (hxy : x + 76 ≤ y) : ∀ k : Nat, 7 ≤ k → k < 61 → ¬ ((((y + 1)) = (y) + 3 ∨ ((y) + 7 ≤ ((y + 1)) ∧ ((y + 1)) ≤ (y) + 11)) ∨ (((y + 1)) = (y) ∧ 11 ≤ (k) ∧ (k) ≤ 15) ∨ (((y + 1)) = (y) + 1 ∧ ((k) = 5 ∨ 157 ≤ (k)))) := by intros; omega
theorem dW_368 (x y : Nat) (hxy : x + 76 ≤ y) : ∀ j : Nat, j < 6 → ¬ (((x + 1 + 15 + 1 * j)) = (x) + 24 ∨ ((x + 1 + 15 + 1 * j)) = (x) + 27 ∨ ((x) + 58 ≤ ((x + 1 + 15 + 1 * j)) ∧ ((x + 1 + 15 + 1 * j)) ≤ (x) + 67) ∨ (((x + 1 + 15 + 1 * j)) = (x) + 1 ∧ (0) = 9) ∨ ((x + 1 + 15 + 1 * j)) = (x) + 22 ∨ ((x + 1 + 15 + 1 * j)) = (x) + 23 ∨ ((x + 1 + 15 + 1 * j)) = (x) + 25 ∨ ((x + 1 + 15 + 1 * j)) = (x) + 26) := by intros; omega
theorem dW_369 (x y : Nat) (hxy : x + 76 ≤ y) : ∀ j : Nat, j < 6 → ¬ ((((y + 1)) = (y) + 3 ∨ ((y) + 7 ≤ ((y + 1)) ∧ ((y + 1)) ≤ (y) + 11)) ∨ (((y + 1)) = (y) ∧ 11 ≤ ((61 + 2 * j + 0)) ∧ ((61 + 2 * j + 0)) ≤ 15) ∨ (((y + 1)) = (y) + 1 ∧ (((61 + 2 * j + 0)) = 5 ∨ 157 ≤ ((61 + 2 * j + 0))))) := by intros; omega
theorem dW_370 (x y : Nat) (hxy : x + 76 ≤ y) : ∀ j : Nat, j < 4 → ¬ (((x + 68 + 2 * j)) = (x) + 24 ∨ ((x + 68 + 2 * j)) = (x) + 27 ∨ ((x) + 58 ≤ ((x + 68 + 2 * j)) ∧ ((x + 68 + 2 * j)) ≤ (x) + 67) ∨ (((x + 68 + 2 * j)) = (x) + 1 ∧ (0) = 9) ∨ ((x + 68 + 2 * j)) = (x) + 22 ∨ ((x + 68 + 2 * j)) = (x) + 23 ∨ ((x + 68 + 2 * j)) = (x) + 25 ∨ ((x + 68 + 2 * j)) = (x) + 26) := by intros; omega
theorem dW_371 (x y : Nat) (hxy : x + 76 ≤ y) : ∀ j : Nat, j < 4 → ¬ ((((y + 4)) = (y) + 3 ∨ ((y) + 7 ≤ ((y + 4)) ∧ ((y + 4)) ≤ (y) + 11)) ∨ (((y + 4)) = (y) ∧ 11 ≤ (j) ∧ (j) ≤ 15) ∨ (((y + 4)) = (y) + 1 ∧ ((j) = 5 ∨ 157 ≤ (j)))) := by intros; omega
theorem dW_372 (x y : Nat) (hxy : x + 76 ≤ y) : ∀ j : Nat, j < 4 → ¬ (((x + 68 + 2 * j)) = (x) + 24 ∨ ((x + 68 + 2 * j)) = (x) + 27 ∨ ((x) + 58 ≤ ((x + 68 + 2 * j)) ∧ ((x + 68 + 2 * j)) ≤ (x) + 67) ∨ (((x + 68 + 2 * j)) = (x) + 1 ∧ (1) = 9) ∨ ((x + 68 + 2 * j)) = (x) + 22 ∨ ((x + 68 + 2 * j)) = (x) + 23 ∨ ((x + 68 + 2 * j)) = (x) + 25 ∨ ((x + 68 + 2 * j)) = (x) + 26) := by intros; omega
theorem dW_373 (x y : Nat) (hxy : x + 76 ≤ y) : ∀ j : Nat, j < 4 → ¬ ((((y + 5)) = (y) + 3 ∨ ((y) + 7 ≤ ((y + 5)) ∧ ((y + 5)) ≤ (y) + 11)) ∨ (((y + 5)) = (y) ∧ 11 ≤ (j) ∧ (j) ≤ 15) ∨ (((y + 5)) = (y) + 1 ∧ ((j) = 5 ∨ 157 ≤ (j)))) := by intros; omega
theorem dW_374 (x y : Nat) (hxy : x + 76 ≤ y) : ∀ j : Nat, j < 4 → ∀ k : Nat, k < 24 → ¬ (((x + 68 + 2 * j + 1)) = (x) + 24 ∨ ((x + 68 + 2 * j + 1)) = (x) + 27 ∨ ((x) + 58 ≤ ((x + 68 + 2 * j + 1)) ∧ ((x + 68 + 2 * j + 1)) ≤ (x) + 67) ∨ (((x + 68 + 2 * j + 1)) = (x) + 1 ∧ (k) = 9) ∨ ((x + 68 + 2 * j + 1)) = (x) + 22 ∨ ((x + 68 + 2 * j + 1)) = (x) + 23 ∨ ((x + 68 + 2 * j + 1)) = (x) + 25 ∨ ((x + 68 + 2 * j + 1)) = (x) + 26) := by intros; omega
theorem dW_375 (x y : Nat) (hxy : x + 76 ≤ y) : ∀ k : Nat, k < 96 → ¬ ((((y + 6)) = (y) + 3 ∨ ((y) + 7 ≤ ((y + 6)) ∧ ((y + 6)) ≤ (y) + 11)) ∨ (((y + 6)) = (y) ∧ 11 ≤ (k) ∧ (k) ≤ 15) ∨ (((y + 6)) = (y) + 1 ∧ ((k) = 5 ∨ 157 ≤ (k)))) := by intros; omega
theorem dW_376 (x y : Nat) (hxy : x + 76 ≤ y) : ¬ (((x + 56)) = (x) + 24 ∨ ((x + 56)) = (x) + 27 ∨ ((x) + 58 ≤ ((x + 56)) ∧ ((x + 56)) ≤ (x) + 67) ∨ (((x + 56)) = (x) + 1 ∧ (1) = 9) ∨ ((x + 56)) = (x) + 22 ∨ ((x + 56)) = (x) + 23 ∨ ((x + 56)) = (x) + 25 ∨ ((x + 56)) = (x) + 26) := by omega
theorem dW_377 (x y : Nat) (hxy : x + 76 ≤ y) : ¬ (((y) = (y) + 3 ∨ ((y) + 7 ≤ (y) ∧ (y) ≤ (y) + 11)) ∨ ((y) = (y) ∧ 11 ≤ (18) ∧ (18) ≤ 15) ∨ ((y) = (y) + 1 ∧ ((18) = 5 ∨ 157 ≤ (18)))) := by omega
theorem dW_378 (x y : Nat) (hxy : x + 76 ≤ y) : ∀ k : Nat, ¬ (((x + 56 + 1)) = (x) + 24 ∨ ((x + 56 + 1)) = (x) + 27 ∨ ((x) + 58 ≤ ((x + 56 + 1)) ∧ ((x + 56 + 1)) ≤ (x) + 67) ∨ (((x + 56 + 1)) = (x) + 1 ∧ (k) = 9) ∨ ((x + 56 + 1)) = (x) + 22 ∨ ((x + 56 + 1)) = (x) + 23 ∨ ((x + 56 + 1)) = (x) + 25 ∨ ((x + 56 + 1)) = (x) + 26) := by intros; omega
theorem dW_379 (x y : Nat) (hxy : x + 76 ≤ y) : ∀ k : Nat, ¬ ((((y + 12)) = (y) + 3 ∨ ((y) + 7 ≤ ((y + 12)) ∧ ((y + 12)) ≤ (y) + 11)) ∨ (((y + 12)) = (y) ∧ 11 ≤ (k) ∧ (k) ≤ 15) ∨ (((y + 12)) = (y) + 1 ∧ ((k) = 5 ∨ 157 ≤ (k)))) := by intros; omega
theorem dW_380 (x y : Nat) (hxy : x + 76 ≤ y) : ∀ j : Nat, j < 6 → ¬ (((x + 1 + 15 + 1 * j)) = (x) + 24 ∨ ((x + 1 + 15 + 1 * j)) = (x) + 27 ∨ ((x) + 58 ≤ ((x + 1 + 15 + 1 * j)) ∧ ((x + 1 + 15 + 1 * j)) ≤ (x) + 67) ∨ (((x + 1 + 15 + 1 * j)) = (x) + 1 ∧ (1) = 9) ∨ ((x + 1 + 15 + 1 * j)) = (x) + 22 ∨ ((x + 1 + 15 + 1 * j)) = (x) + 23 ∨ ((x + 1 + 15 + 1 * j)) = (x) + 25 ∨ ((x + 1 + 15 + 1 * j)) = (x) + 26) := by intros; omega
theorem dW_381 (x y : Nat) (hxy : x + 76 ≤ y) : ∀ j : Nat, j < 6 → ¬ ((((y + 1)) = (y) + 3 ∨ ((y) + 7 ≤ ((y + 1)) ∧ ((y + 1)) ≤ (y) + 11)) ∨ (((y + 1)) = (y) ∧ 11 ≤ ((61 + 2 * j + 1)) ∧ ((61 + 2 * j + 1)) ≤ 15) ∨ (((y + 1)) = (y) + 1 ∧ (((61 + 2 * j + 1)) = 5 ∨ 157 ≤ ((61 + 2 * j + 1))))) := by intros; omega
theorem dW_382 (x y : Nat) (hxy : x + 76 ≤ y) : ∀ k : Nat, k < 24 → ¬ (((x + 1 + 5)) = (x) + 24 ∨ ((x + 1 + 5)) = (x) + 27 ∨ ((x) + 58 ≤ ((x + 1 + 5)) ∧ ((x + 1 + 5)) ≤ (x) + 67) ∨ (((x + 1 + 5)) = (x) + 1 ∧ ((0 + k)) = 9) ∨ ((x + 1 + 5)) = (x) + 22 ∨ ((x + 1 + 5)) = (x) + 23 ∨ ((x + 1 + 5)) = (x) + 25 ∨ ((x + 1 + 5)) = (x) + 26) := by intros; omega
theorem dW_383 (x y : Nat) (hxy : x + 76 ≤ y) : ∀ k : Nat, k < 24 → ¬ ((((y + 1)) = (y) + 3 ∨ ((y) + 7 ≤ ((y + 1)) ∧ ((y + 1)) ≤ (y) + 11)) ∨ (((y + 1)) = (y) ∧ 11 ≤ ((133 + k)) ∧ ((133 + k)) ≤ 15) ∨ (((y + 1)) = (y) + 1 ∧ (((133 + k)) = 5 ∨ 157 ≤ ((133 + k))))) := by intros; omega
theorem dW_384 (x y : Nat) (hxy : x + 76 ≤ y) : ∀ j : Nat, j < 9 → ∀ k : Nat, k < 6 → ¬ (((x + 28 + 6 + 1 * j)) = (x) + 24 ∨ ((x + 28 + 6 + 1 * j)) = (x) + 27 ∨ ((x) + 58 ≤ ((x + 28 + 6 + 1 * j)) ∧ ((x + 28 + 6 + 1 * j)) ≤ (x) + 67) ∨ (((x + 28 + 6 + 1 * j)) = (x) + 1 ∧ (k) = 9) ∨ ((x + 28 + 6 + 1 * j)) = (x) + 22 ∨ ((x + 28 + 6 + 1 * j)) = (x) + 23 ∨ ((x + 28 + 6 + 1 * j)) = (x) + 25 ∨ ((x + 28 + 6 + 1 * j)) = (x) + 26) := by intros; omega
theorem dW_385 (x y : Nat) (hxy : x + 76 ≤ y) : ∀ k : Nat, 7 ≤ k → k < 61 → ¬ ((((y + 2)) = (y) + 3 ∨ ((y) + 7 ≤ ((y + 2)) ∧ ((y + 2)) ≤ (y) + 11)) ∨ (((y + 2)) = (y) ∧ 11 ≤ (k) ∧ (k) ≤ 15) ∨ (((y + 2)) = (y) + 1 ∧ ((k) = 5 ∨ 157 ≤ (k)))) := by intros; omega
theorem dW_386 (x y : Nat) (hxy : x + 76 ≤ y) : ∀ j : Nat, j < 6 → ¬ (((x + 28 + 15 + 1 * j)) = (x) + 24 ∨ ((x + 28 + 15 + 1 * j)) = (x) + 27 ∨ ((x) + 58 ≤ ((x + 28 + 15 + 1 * j)) ∧ ((x + 28 + 15 + 1 * j)) ≤ (x) + 67) ∨ (((x + 28 + 15 + 1 * j)) = (x) + 1 ∧ (0) = 9) ∨ ((x + 28 + 15 + 1 * j)) = (x) + 22 ∨ ((x + 28 + 15 + 1 * j)) = (x) + 23 ∨ ((x + 28 + 15 + 1 * j)) = (x) + 25 ∨ ((x + 28 + 15 + 1 * j)) = (x) + 26) := by intros; omega
theorem dW_387 (x y : Nat) (hxy : x + 76 ≤ y) : ∀ j : Nat, j < 6 → ¬ ((((y + 2)) = (y) + 3 ∨ ((y) + 7 ≤ ((y + 2)) ∧ ((y + 2)) ≤ (y) + 11)) ∨ (((y + 2)) = (y) ∧ 11 ≤ ((61 + 2 * j + 0)) ∧ ((61 + 2 * j + 0)) ≤ 15) ∨ (((y + 2)) = (y) + 1 ∧ (((61 + 2 * j + 0)) = 5 ∨ 157 ≤ ((61 + 2 * j + 0))))) := by intros; omega
theorem dW_388 (x y : Nat) (hxy : x + 76 ≤ y) : ¬ (((x + 28)) = (x) + 24 ∨ ((x + 28)) = (x) + 27 ∨ ((x) + 58 ≤ ((x + 28)) ∧ ((x + 28)) ≤ (x) + 67) ∨ (((x + 28)) = (x) + 1 ∧ (9) = 9) ∨ ((x + 28)) = (x) + 22 ∨ ((x + 28)) = (x) + 23 ∨ ((x + 28)) = (x) + 25 ∨ ((x + 28)) = (x) + 26) := by omega
theorem dW_389 (x y : Nat) (hxy : x + 76 ≤ y) : ∀ k : Nat, ¬ (((x + 28 + 4)) = (x) + 24 ∨ ((x + 28 + 4)) = (x) + 27 ∨ ((x) + 58 ≤ ((x + 28 + 4)) ∧ ((x + 28 + 4)) ≤ (x) + 67) ∨ (((x + 28 + 4)) = (x) + 1 ∧ (k) = 9) ∨ ((x + 28 + 4)) = (x) + 22 ∨ ((x + 28 + 4)) = (x) + 23 ∨ ((x + 28 + 4)) = (x) + 25 ∨ ((x + 28 + 4)) = (x) + 26) := by intros; omega
theorem dW_390 (x y : Nat) (hxy : x + 76 ≤ y) : ¬ ((((y + 2)) = (y) + 3 ∨ ((y) + 7 ≤ ((y + 2)) ∧ ((y + 2)) ≤ (y) + 11)) ∨ (((y + 2)) = (y) ∧ 11 ≤ (5) ∧ (5) ≤ 15) ∨ (((y + 2)) = (y) + 1 ∧ ((5) = 5 ∨ 157 ≤ (5)))) := by omega
theorem dW_391 (x y : Nat) (hxy : x + 76 ≤ y) : ∀ k : Nat, k < 60 → ¬ ((((y + 2)) = (y) + 3 ∨ ((y) + 7 ≤ ((y + 2)) ∧ ((y + 2)) ≤ (y) + 11)) ∨ (((y + 2)) = (y) ∧ 11 ≤ ((73 + k)) ∧ ((73 + k)) ≤ 15) ∨ (((y + 2)) = (y) + 1 ∧ (((73 + k)) = 5 ∨ 157 ≤ ((73 + k))))) := by intros; omega
theorem dW_392 (x y : Nat) (hxy : x + 76 ≤ y) : ∀ a : Nat, (a = x + 28 + 21 ∨ a = x + 28 + 22 ∨ a = x + 28 + 24 ∨ a = x + 28 + 25) → ∀ k : Nat, ¬ ((a) = (x) + 24 ∨ (a) = (x) + 27 ∨ ((x) + 58 ≤ (a) ∧ (a) ≤ (x) + 67) ∨ ((a) = (x) + 1 ∧ (k) = 9) ∨ (a) = (x) + 22 ∨ (a) = (x) + 23 ∨ (a) = (x) + 25 ∨ (a) = (x) + 26) := by intros; omega
theorem dW_393 (x y : Nat) (hxy : x + 76 ≤ y) : ∀ k : Nat, 157 ≤ k → ¬ ((((y + 2)) = (y) + 3 ∨ ((y) + 7 ≤ ((y + 2)) ∧ ((y + 2)) ≤ (y) + 11)) ∨ (((y + 2)) = (y) ∧ 11 ≤ (k) ∧ (k) ≤ 15) ∨ (((y + 2)) = (y) + 1 ∧ ((k) = 5 ∨ 157 ≤ (k)))) := by intros; omega
theorem dW_394 (x y : Nat) (hxy : x + 76 ≤ y) : ∀ j : Nat, j < 6 → ¬ (((x + 28 + 15 + 1 * j)) = (x) + 24 ∨ ((x + 28 + 15 + 1 * j)) = (x) + 27 ∨ ((x) + 58 ≤ ((x + 28 + 15 + 1 * j)) ∧ ((x + 28 + 15 + 1 * j)) ≤ (x) + 67) ∨ (((x + 28 + 15 + 1 * j)) = (x) + 1 ∧ (1) = 9) ∨ ((x + 28 + 15 + 1 * j)) = (x) + 22 ∨ ((x + 28 + 15 + 1 * j)) = (x) + 23 ∨ ((x + 28 + 15 + 1 * j)) = (x) + 25 ∨ ((x + 28 + 15 + 1 * j)) = (x) + 26) := by intros; omega
theorem dW_395 (x y : Nat) (hxy : x + 76 ≤ y) : ∀ j : Nat, j < 6 → ¬ ((((y + 2)) = (y) + 3 ∨ ((y) + 7 ≤ ((y + 2)) ∧ ((y + 2)) ≤ (y) + 11)) ∨ (((y + 2)) = (y) ∧ 11 ≤ ((61 + 2 * j + 1)) ∧ ((61 + 2 * j + 1)) ≤ 15) ∨ (((y + 2)) = (y) + 1 ∧ (((61 + 2 * j + 1)) = 5 ∨ 157 ≤ ((61 + 2 * j + 1))))) := by intros; omega
theorem dW_396 (x y : Nat) (hxy : x + 76 ≤ y) : ¬ (((x + 28)) = (x) + 24 ∨ ((x + 28)) = (x) + 27 ∨ ((x) + 58 ≤ ((x + 28)) ∧ ((x + 28)) ≤ (x) + 67) ∨ (((x + 28)) = (x) + 1 ∧ (11) = 9) ∨ ((x + 28)) = (x) + 22 ∨ ((x + 28)) = (x) + 23 ∨ ((x + 28)) = (x) + 25 ∨ ((x + 28)) = (x) + 26) := by omega
theorem dW_397 (x y : Nat) (hxy : x + 76 ≤ y) : ∀ k : Nat, k < 24 → ¬ (((x + 28 + 5)) = (x) + 24 ∨ ((x + 28 + 5)) = (x) + 27 ∨ ((x) + 58 ≤ ((x + 28 + 5)) ∧ ((x + 28 + 5)) ≤ (x) + 67) ∨ (((x + 28 + 5)) = (x) + 1 ∧ ((0 + k)) = 9) ∨ ((x + 28 + 5)) = (x) + 22 ∨ ((x + 28 + 5)) = (x) + 23 ∨ ((x + 28 + 5)) = (x) + 25 ∨ ((x + 28 + 5)) = (x) + 26) := by intros; omega
theorem dW_398 (x y : Nat) (hxy : x + 76 ≤ y) : ¬ ((((y + 2)) = (y) + 3 ∨ ((y) + 7 ≤ ((y + 2)) ∧ ((y + 2)) ≤ (y) + 11)) ∨ (((y + 2)) = (y) ∧ 11 ≤ (6) ∧ (6) ≤ 15) ∨ (((y + 2)) = (y) + 1 ∧ ((6) = 5 ∨ 157 ≤ (6)))) := by omega
theorem dW_399 (x y : Nat) (hxy : x + 76 ≤ y) : ∀ k : Nat, k < 24 → ¬ ((((y + 2)) = (y) + 3 ∨ ((y) + 7 ≤ ((y + 2)) ∧ ((y + 2)) ≤ (y) + 11)) ∨ (((y + 2)) = (y) ∧ 11 ≤ ((133 + k)) ∧ ((133 + k)) ≤ 15) ∨ (((y + 2)) = (y) + 1 ∧ (((133 + k)) = 5 ∨ 157 ≤ ((133 + k))))) := by intros; omega
set_option maxHeartbeats 4000000 in
set_option maxRecDepth 100000 in
theorem lc_text {p : Program} {l : Launch} {e : Env} {s : State} {m : MethodId} {below : List Frame} {meth : Method} {c : Code} {b L x y : Nat} {xs : Nat → Int32} {E : zz_E} {Q : State → Prop} (hA : zz_LA p s m c b L xs E x y) (i : Int32) (hi : 0 ≤ i.toInt ∧ i.toInt + 6 ≤ L) (σ : zz_S) (H : Heap) (locs : List Loc) (ls : Array Slot) (hR : zz_RL σ x y) (hQ : zz_RD σ x y) (hP : zz_P E σ H) (hS : va_S (zz_A E) s.heap H locs) (hl : lv_has ls 4 [(0, .ref b), (1, .ref x), (2, .ref y), (3, .int i)])
    (kk : ∀ (σ1 : zz_S) (H1 : Heap) (locs1 : List Loc), zz_RL σ1 x y → zz_RD σ1 x y → zz_P E σ1 H1 → va_S (zz_A E) s.heap H1 locs1 → W p l e room_1 s m #[Value.ref b] below meth c H1 locs1 600000 7302250 Q (F0 m 1384 ls [])) : W p l e room_1 s m #[Value.ref b] below meth c H locs 600000 7302250 Q (F0 m 560 ls []) := by
  obtain ⟨hx, hb, hml, hown, hts, hX, hbl, hbE, hL, gL, gM, hxy, hK⟩ := hA
  have hbA : ¬ zz_A E b := fun h => absurd (hbE b h) (Nat.not_le.mpr hbl)
  have k_1 : (1 : Int32).toInt = 1 := by decide +kernel
  refine lv_aload_n hx hb dL_law_560 rfl (lv_at hl 1 rfl) ?_
  refine lv_aload_n hx hb dL_law_561 rfl (lv_at hl 0 rfl) ?_
  refine lv_iload_n hx hb dL_law_562 rfl (lv_at hl 3 rfl) ?_
  refine lv_iconst (v := 1) hx hb dL_law_563 (by decide) ?_
  refine lv_iadd hx hb dL_law_564 ?_
  refine lv_topi (fun n1 e1 => ?_)
  have f1 : n1.toInt = (i).toInt + (1 : Int32).toInt := zz_addT e1 (by omega) (by omega)
  refine va_sld hx hb hX hbl hbA hS (vp_in_iff.mpr ⟨by omega, by omega⟩) dL_law_565 ?_
  refine lv_topi (fun v2 u2 => ?_)
  refine zz_callVi (As := [.int v2]) (rest := []) ⟨hx, hb, hml, hown, hts⟩ hK hP hS (c_X8_text l E σ x v2 gL hR.1) (cwV 1 hts gL_law_X8_text rfl rfl rfl (by decide +kernel) ⟨Nat.le_of_ble_eq_true rfl, Nat.le_of_ble_eq_true rfl⟩) (gL.1) rfl rfl hl.1 rfl (Nat.le_of_ble_eq_true rfl) dL_law_566 ⟨Nat.le_refl _, Nat.le_refl _⟩ (fun r1 σ1 H locs q1 hP hS => ?_)
  try dsimp only at q1
  obtain ⟨w1, p1⟩ := q1
  have B : ∀ a k : Nat, y ≤ a → a ≤ y + 12 → σ1 a k = σ a k := fun a k h1 h2 => w1 a k ((dW_348 x y hxy) a k h1 h2)
  have hJ1 : zz_IM σ1 y := hR.2.1.far B
  refine lv_pop hx hb dL_law_569 rfl ?_
  refine lv_aload_n hx hb dL_law_570 rfl (lv_at hl 2 rfl) ?_
  refine lv_aload_n hx hb dL_law_571 rfl (lv_at hl 0 rfl) ?_
  refine lv_iload_n hx hb dL_law_572 rfl (lv_at hl 3 rfl) ?_
  refine lv_iconst (v := 1) hx hb dL_law_573 (by decide) ?_
  refine lv_iadd hx hb dL_law_574 ?_
  refine lv_topi (fun n4 e4 => ?_)
  have f4 : n4.toInt = (i).toInt + (1 : Int32).toInt := zz_addT e4 (by omega) (by omega)
  refine va_sld hx hb hX hbl hbA hS (vp_in_iff.mpr ⟨by omega, by omega⟩) dL_law_575 ?_
  refine lv_topi (fun v5 u5 => ?_)
  have z5 : v5 = v2 := by rw [u5, u2, e4, e1]
  have zt5 := congrArg Int32.toInt z5
  refine zz_callVi (As := [.int v5]) (rest := []) ⟨hx, hb, hml, hown, hts⟩ hK hP hS (c_X9_text l E σ1 y v5 gM hJ1) (cwV 1 hts gL_law_X9_text rfl rfl rfl (by decide +kernel) ⟨Nat.le_of_ble_eq_true rfl, Nat.le_of_ble_eq_true rfl⟩) (gM.1) rfl rfl hl.1 rfl (Nat.le_of_ble_eq_true rfl) dL_law_576 ⟨Nat.le_refl _, Nat.le_refl _⟩ (fun r2 σ2 H locs q2 hP hS => ?_)
  try dsimp only at q2
  obtain ⟨w2, p2⟩ := q2
  have A : ∀ a k : Nat, x ≤ a → a < x + 76 → σ2 a k = σ1 a k := fun a k h1 h2 => w2 a k ((dW_349 x y hxy) a k h1 h2)
  obtain ⟨i1, p1⟩ := p1
  obtain ⟨i2, p2⟩ := p2
  try simp only [z5] at p2
  obtain ⟨h0, h1, h2, h3, h4, h5, h6⟩ := hR.2.2.1
  have ga5 := congrArg Int32.toInt (A (x + 1) 9 (by omega) (by omega))
  have gb5 := congrArg Int32.toInt (B (y + 1) 5 (by omega) (by omega))
  have rr2 : zz_RR σ2 (x + 1) (y + 1) := ⟨(congrArg Int32.toInt (A (x + 1) 0 (by omega) (by omega))).trans ((congrArg Int32.toInt (w1 (x + 1) 0 (dW_354 x y hxy))).trans (h0.trans ((congrArg Int32.toInt (B (y + 1) 0 (by omega) (by omega))).symm.trans (congrArg Int32.toInt (w2 (y + 1) 0 (dW_355 x y hxy))).symm))), (congrArg Int32.toInt (A (x + 1) 1 (by omega) (by omega))).trans ((congrArg Int32.toInt (w1 (x + 1) 1 (dW_356 x y hxy))).trans (h1.trans ((congrArg Int32.toInt (B (y + 1) 4 (by omega) (by omega))).symm.trans (congrArg Int32.toInt (w2 (y + 1) 4 (dW_357 x y hxy))).symm))), (congrArg Int32.toInt (A (x + 1) 2 (by omega) (by omega))).trans ((congrArg Int32.toInt (w1 (x + 1) 2 (dW_358 x y hxy))).trans (h2.trans ((congrArg Int32.toInt (B (y + 1) 1 (by omega) (by omega))).symm.trans (congrArg Int32.toInt (w2 (y + 1) 1 (dW_359 x y hxy))).symm))), (congrArg Int32.toInt (A (x + 1) 4 (by omega) (by omega))).trans ((congrArg Int32.toInt (w1 (x + 1) 4 (dW_360 x y hxy))).trans (h3.trans ((congrArg Int32.toInt (B (y + 1) 2 (by omega) (by omega))).symm.trans (congrArg Int32.toInt (w2 (y + 1) 2 (dW_361 x y hxy))).symm))), (congrArg Int32.toInt (A (x + 1) 6 (by omega) (by omega))).trans ((congrArg Int32.toInt (w1 (x + 1) 6 (dW_362 x y hxy))).trans (h4.trans ((congrArg Int32.toInt (B (y + 1) 3 (by omega) (by omega))).symm.trans (congrArg Int32.toInt (w2 (y + 1) 3 (dW_363 x y hxy))).symm))), by omega, (congrArg Int32.toInt (A (x + 1) 11 (by omega) (by omega))).trans ((congrArg Int32.toInt (w1 (x + 1) 11 (dW_364 x y hxy))).trans (h6.trans ((congrArg Int32.toInt (B (y + 1) 6 (by omega) (by omega))).symm.trans (congrArg Int32.toInt (w2 (y + 1) 6 (dW_365 x y hxy))).symm)))⟩
  have hRL : zz_RL σ2 x y := hR.real i1 i2 A B rr2 (fun k => w1 (x + 28) k ((dW_350 x y hxy) k)) (w1 x 2 (dW_351 x y hxy)) (fun k => w2 (y + 2) k ((dW_352 x y hxy) k)) (w2 y 2 (dW_353 x y hxy))
  obtain ⟨hqD, hqW, hqK, hqB, hqN, hqC, hqL, hqT, hqP, hqX, hqF, hqG, hqV⟩ := hQ
  obtain ⟨aD, aW, aKD, aKW, aB, aN, aC, aL, aT, aP, aX, aKP, aKX⟩ := zz_aX A
  obtain ⟨bD, bW, bKD, bKW, bB, bN, bC, bL, bT, bP, bX, bKP, bKX⟩ := zz_bM hR.2.1 B
  obtain ⟨aF, aKF, aV, aKV⟩ := zy_aX2 A
  obtain ⟨bF, bKF, bV, bKV⟩ := zy_bM2 B
  have rD : zz_DX σ2 (x + 1) = zz_DM σ2 (y + 1) := by rw [aD, zz_DXk (r := x + 1) w1 (dW_366 x y hxy), zz_DMk (a := y + 1) w2 (dW_367 x y hxy), bD, hqD]
  have rW : zz_PX 0 σ2 (x + 1) = zz_PM 0 σ2 (y + 1) := by rw [aW, zz_PXk (f := 0) (r := x + 1) w1 (dW_368 x y hxy), zz_PMk (f := 0) (a := y + 1) w2 (dW_369 x y hxy), bW, hqW]
  have rB : zz_HX 0 σ2 x = zz_HM σ2 (y + 4) := by rw [aB, zz_HX.eq (f := 0) (x := x) (fun j hj => w1 _ _ ((dW_370 x y hxy) j hj)), zz_HM.eq (a := y + 4) (fun j hj => w2 _ _ ((dW_371 x y hxy) j hj)), bB, hqB]
  have rN : zz_HX 1 σ2 x = zz_HM σ2 (y + 5) := by rw [aN, zz_HX.eq (f := 1) (x := x) (fun j hj => w1 _ _ ((dW_372 x y hxy) j hj)), zz_HM.eq (a := y + 5) (fun j hj => w2 _ _ ((dW_373 x y hxy) j hj)), bN, hqN]
  have rC : zz_CX σ2 x = zz_CM σ2 (y + 6) := by rw [aC, zz_CX.eq (x := x) (fun j hj k hk => w1 _ _ ((dW_374 x y hxy) j hj k hk)), zz_CM.eq (a := y + 6) (fun k hk => w2 _ _ ((dW_375 x y hxy) k hk)), bC, hqC]
  have rL : (σ2 (x + 56) 1).toInt = (σ2 y 18).toInt := by rw [aL, congrArg Int32.toInt (w1 (x + 56) 1 (dW_376 x y hxy)), congrArg Int32.toInt (w2 y 18 (dW_377 x y hxy)), bL, hqL]
  have rT : zz_TV σ2 (x + 56 + 1) = zz_TV σ2 (y + 12) := by rw [aT, zz_TV.eq (a := x + 56 + 1) (b := x + 56 + 1) (fun k _ => w1 _ k ((dW_378 x y hxy) k)), zz_TV.eq (a := y + 12) (b := y + 12) (fun k _ => w2 _ k ((dW_379 x y hxy) k)), bT, hqT]
  have rF : zz_PX 1 σ2 (x + 1) = zz_PM 1 σ2 (y + 1) := by rw [aF, zz_PXk (f := 1) (r := x + 1) w1 (dW_380 x y hxy), zz_PMk (f := 1) (a := y + 1) w2 (dW_381 x y hxy), bF, hqF]
  have rV : zy_wv σ2 (x + 1 + 5) 0 (σ2 (x + 1) 11).toInt = zy_wv σ2 (y + 1) 133 (σ2 (y + 1) 6).toInt := by rw [aV, zy_wv.eq (a := x + 1 + 5) (a1 := x + 1 + 5) (b := 0) (b1 := 0) (congrArg Int32.toInt (w1 (x + 1) 11 (dW_364 x y hxy))) (fun k hk => w1 (x + 1 + 5) (0 + k) ((dW_382 x y hxy) k hk)), zy_wv.eq (a := y + 1) (a1 := y + 1) (b := 133) (b1 := 133) (congrArg Int32.toInt (w2 (y + 1) 6 (dW_365 x y hxy))) (fun k hk => w2 (y + 1) (133 + k) ((dW_383 x y hxy) k hk)), bV, hqV]
  have rG : zy_FB (zz_PM 1 σ2 (y + 1)) := by rw [zz_PMk (f := 1) (a := y + 1) w2 (dW_381 x y hxy), bF]; exact hqG
  have rK : (σ2 x 2).toInt = 0 ∨ (zz_DX σ2 (x + 28) = zz_DM σ2 (y + 2) ∧ zz_PX 0 σ2 (x + 28) = zz_PM 0 σ2 (y + 2) ∧ zz_Tp σ2 (x + 28 + 4) (σ2 (x + 28) 9).toInt = zz_Tm σ2 (y + 2) ∧ zz_tts (zz_XT σ2 (x + 28)) (zz_MT σ2 (y + 2)) ∧ zz_PX 1 σ2 (x + 28) = zz_PM 1 σ2 (y + 2) ∧ zy_FB (zz_PM 1 σ2 (y + 2)) ∧ zy_wv σ2 (x + 28 + 5) 0 (σ2 (x + 28) 11).toInt = zy_wv σ2 (y + 2) 133 (σ2 (y + 2) 6).toInt) := hqK.elim (fun q => Or.inl ((congrArg Int32.toInt ((A x 2 (by omega) (by omega)).trans (w1 x 2 (dW_351 x y hxy)))).trans q)) (fun q => Or.inr ⟨by rw [aKD, zz_DXk (r := x + 28) w1 (dW_384 x y hxy), zz_DMk (a := y + 2) w2 (dW_385 x y hxy), bKD, q.1], by rw [aKW, zz_PXk (f := 0) (r := x + 28) w1 (dW_386 x y hxy), zz_PMk (f := 0) (a := y + 2) w2 (dW_387 x y hxy), bKW, q.2.1], by rw [aKP, zz_Tp.all (a := x + 28 + 4) (b := x + 28 + 4) (congrArg Int32.toInt (w1 (x + 28) 9 (dW_388 x y hxy))) (fun k => w1 _ k ((dW_389 x y hxy) k)), zz_Tm.eq (a := y + 2) (b := y + 2) (w2 (y + 2) 5 (dW_390 x y hxy)) hJ1.2.1.2.2.2.2.1.2 (fun k hk => w2 (y + 2) (73 + k) ((dW_391 x y hxy) k hk)), bKP, q.2.2.1], by rw [aKX, zz_XT.all (r := x + 28) (fun a ha k => w1 a k ((dW_392 x y hxy) a ha k)), zz_MT.hi (a := y + 2) (b := y + 2) (fun k hk => w2 (y + 2) k ((dW_393 x y hxy) k hk)), bKX]; exact q.2.2.2.1, by rw [aKF, zz_PXk (f := 1) (r := x + 28) w1 (dW_394 x y hxy), zz_PMk (f := 1) (a := y + 2) w2 (dW_395 x y hxy), bKF, q.2.2.2.2.1], by rw [zz_PMk (f := 1) (a := y + 2) w2 (dW_395 x y hxy), bKF]; exact q.2.2.2.2.2.1, by rw [aKV, zy_wv.eq (a := x + 28 + 5) (a1 := x + 28 + 5) (b := 0) (b1 := 0) (congrArg Int32.toInt (w1 (x + 28) 11 (dW_396 x y hxy))) (fun k hk => w1 (x + 28 + 5) (0 + k) ((dW_397 x y hxy) k hk)), zy_wv.eq (a := y + 2) (a1 := y + 2) (b := 133) (b1 := 133) (congrArg Int32.toInt (w2 (y + 2) 6 (dW_398 x y hxy))) (fun k hk => w2 (y + 2) (133 + k) ((dW_399 x y hxy) k hk)), bKV, q.2.2.2.2.2.2]⟩)
  have hcq : (σ1 (y + 1) 5).toInt = (σ (x + 1) 9).toInt := (congrArg Int32.toInt (B (y + 1) 5 (by omega) (by omega))).trans hR.2.2.1.2.2.2.2.2.1.symm
  have eP : zz_Tp σ (x + 1 + 4) (σ (x + 1) 9).toInt = zz_Tm σ1 (y + 1) := hqP.trans bP.symm
  have eX : zz_tts (zz_XT σ (x + 1)) (zz_MT σ1 (y + 1)) := by rw [bX]; exact hqX
  have rT3 : zz_Tp σ2 (x + 1 + 4) (σ2 (x + 1) 9).toInt = zz_Tm σ2 (y + 1) ∧ zz_tts (zz_XT σ2 (x + 1)) (zz_MT σ2 (y + 1)) ∧ r1.toInt = r2.toInt := by
    rcases p1 with ⟨a1, a2, a3, a4, a5⟩ | ⟨a1, a2, a3, a4⟩
    · rcases p2 with ⟨b1, b2, b3, b4, b5⟩ | ⟨b1, b2, b3, b4⟩
      · exact ⟨by rw [aP, a5, b5, bP, hqP], by rw [aX, a4, b4]; exact eX, a3.trans b3.symm⟩
      · exact absurd a1 (by omega)
    · rcases p2 with ⟨b1, b2, b3, b4, b5⟩ | ⟨b1, b2, b3, b4⟩
      · exact absurd b1 (by omega)
      · rw [eP] at a4
        obtain ⟨u1, u2⟩ := zz_txm a4 b4 hcq eX
        exact ⟨by rw [aP, zz_Tp.z a3, zz_Tm.z b3], by rw [aX]; exact u2, u1⟩
  have rP := rT3.1
  have rX := rT3.2.1
  have hQ2 : zz_RD σ2 x y := ⟨rD, rW, rK, rB, rN, rC, rL, rT, rP, rX, rF, rG, rV⟩
  refine lv_pop hx hb dL_law_579 rfl ?_
  refine lv_goto (tgt := 1384) hx hb dL_law_580 (by decide) ?_
  exact kk _ _ _ hRL hQ2 hP hS
theorem gL_law_X8_untell : GoodIn wsL_law (wsV RL 63 RX8 yX8_untell wzX8_untell) := wz_coL bm_559 (wz_coL bm_560 (wz_coL bm_561 (wz_coL bm_2 (wz_inL bm_562))))
theorem gL_law_X9_untell : GoodIn wsL_law (wsV RL 66 RX9 yX9_untell wzX9_untell) := wz_coL bm_564 (wz_coL bm_565 (wz_coL bm_566 (wz_coL bm_5 (wz_inL bm_567))))
theorem dW_400 (x y : Nat) (hxy : x + 76 ≤ y) : ∀ a k : Nat, y ≤ a → a ≤ y + 12 → ¬ ((a) = (x) + 24 ∨ (a) = (x) + 27 ∨ ((x) + 58 ≤ (a) ∧ (a) ≤ (x) + 67) ∨ (a) = (x) + 22 ∨ (a) = (x) + 25) := by intros; omega
theorem dW_401 (x y : Nat) (hxy : x + 76 ≤ y) : ∀ a k : Nat, x ≤ a → a < x + 76 → ¬ (((a) = (y) + 3 ∨ ((y) + 7 ≤ (a) ∧ (a) ≤ (y) + 11)) ∨ ((a) = (y) + 1 ∧ ((k) = 157 ∨ (k) = 278))) := by intros; omega
theorem dW_402 (x y : Nat) (hxy : x + 76 ≤ y) : ∀ k : Nat, k ≤ 6 → ¬ ((((y + 1)) = (y) + 3 ∨ ((y) + 7 ≤ ((y + 1)) ∧ ((y + 1)) ≤ (y) + 11)) ∨ (((y + 1)) = (y) + 1 ∧ ((k) = 157 ∨ (k) = 278))) := by intros; omega
theorem dW_403 (x y : Nat) (hxy : x + 76 ≤ y) : ∀ k : Nat, ¬ (((x + 28)) = (x) + 24 ∨ ((x + 28)) = (x) + 27 ∨ ((x) + 58 ≤ ((x + 28)) ∧ ((x + 28)) ≤ (x) + 67) ∨ ((x + 28)) = (x) + 22 ∨ ((x + 28)) = (x) + 25) := by intros; omega
theorem dW_404 (x y : Nat) (hxy : x + 76 ≤ y) : ¬ ((x) = (x) + 24 ∨ (x) = (x) + 27 ∨ ((x) + 58 ≤ (x) ∧ (x) ≤ (x) + 67) ∨ (x) = (x) + 22 ∨ (x) = (x) + 25) := by omega
theorem dW_405 (x y : Nat) (hxy : x + 76 ≤ y) : ∀ k : Nat, ¬ ((((y + 2)) = (y) + 3 ∨ ((y) + 7 ≤ ((y + 2)) ∧ ((y + 2)) ≤ (y) + 11)) ∨ (((y + 2)) = (y) + 1 ∧ ((k) = 157 ∨ (k) = 278))) := by intros; omega
theorem dW_406 (x y : Nat) (hxy : x + 76 ≤ y) : ¬ (((y) = (y) + 3 ∨ ((y) + 7 ≤ (y) ∧ (y) ≤ (y) + 11)) ∨ ((y) = (y) + 1 ∧ ((2) = 157 ∨ (2) = 278))) := by omega
theorem dW_407 (x y : Nat) (hxy : x + 76 ≤ y) : ∀ k : Nat, ¬ (((x + 1)) = (x) + 24 ∨ ((x + 1)) = (x) + 27 ∨ ((x) + 58 ≤ ((x + 1)) ∧ ((x + 1)) ≤ (x) + 67) ∨ ((x + 1)) = (x) + 22 ∨ ((x + 1)) = (x) + 25) := by intros; omega
theorem dW_408 (x y : Nat) (hxy : x + 76 ≤ y) : ∀ j : Nat, j < 9 → ∀ k : Nat, k < 6 → ¬ (((x + 1 + 6 + 1 * j)) = (x) + 24 ∨ ((x + 1 + 6 + 1 * j)) = (x) + 27 ∨ ((x) + 58 ≤ ((x + 1 + 6 + 1 * j)) ∧ ((x + 1 + 6 + 1 * j)) ≤ (x) + 67) ∨ ((x + 1 + 6 + 1 * j)) = (x) + 22 ∨ ((x + 1 + 6 + 1 * j)) = (x) + 25) := by intros; omega
theorem dW_409 (x y : Nat) (hxy : x + 76 ≤ y) : ∀ k : Nat, 7 ≤ k → k < 61 → ¬ ((((y + 1)) = (y) + 3 ∨ ((y) + 7 ≤ ((y + 1)) ∧ ((y + 1)) ≤ (y) + 11)) ∨ (((y + 1)) = (y) + 1 ∧ ((k) = 157 ∨ (k) = 278))) := by intros; omega
theorem dW_410 (x y : Nat) (hxy : x + 76 ≤ y) : ∀ j : Nat, j < 6 → ¬ (((x + 1 + 15 + 1 * j)) = (x) + 24 ∨ ((x + 1 + 15 + 1 * j)) = (x) + 27 ∨ ((x) + 58 ≤ ((x + 1 + 15 + 1 * j)) ∧ ((x + 1 + 15 + 1 * j)) ≤ (x) + 67) ∨ ((x + 1 + 15 + 1 * j)) = (x) + 22 ∨ ((x + 1 + 15 + 1 * j)) = (x) + 25) := by intros; omega
theorem dW_411 (x y : Nat) (hxy : x + 76 ≤ y) : ∀ j : Nat, j < 6 → ¬ ((((y + 1)) = (y) + 3 ∨ ((y) + 7 ≤ ((y + 1)) ∧ ((y + 1)) ≤ (y) + 11)) ∨ (((y + 1)) = (y) + 1 ∧ (((61 + 2 * j + 0)) = 157 ∨ ((61 + 2 * j + 0)) = 278))) := by intros; omega
theorem dW_412 (x y : Nat) (hxy : x + 76 ≤ y) : ∀ j : Nat, j < 4 → ¬ (((x + 68 + 2 * j)) = (x) + 24 ∨ ((x + 68 + 2 * j)) = (x) + 27 ∨ ((x) + 58 ≤ ((x + 68 + 2 * j)) ∧ ((x + 68 + 2 * j)) ≤ (x) + 67) ∨ ((x + 68 + 2 * j)) = (x) + 22 ∨ ((x + 68 + 2 * j)) = (x) + 25) := by intros; omega
theorem dW_413 (x y : Nat) (hxy : x + 76 ≤ y) : ∀ j : Nat, j < 4 → ¬ ((((y + 4)) = (y) + 3 ∨ ((y) + 7 ≤ ((y + 4)) ∧ ((y + 4)) ≤ (y) + 11)) ∨ (((y + 4)) = (y) + 1 ∧ ((j) = 157 ∨ (j) = 278))) := by intros; omega
theorem dW_414 (x y : Nat) (hxy : x + 76 ≤ y) : ∀ j : Nat, j < 4 → ¬ ((((y + 5)) = (y) + 3 ∨ ((y) + 7 ≤ ((y + 5)) ∧ ((y + 5)) ≤ (y) + 11)) ∨ (((y + 5)) = (y) + 1 ∧ ((j) = 157 ∨ (j) = 278))) := by intros; omega
theorem dW_415 (x y : Nat) (hxy : x + 76 ≤ y) : ∀ j : Nat, j < 4 → ∀ k : Nat, k < 24 → ¬ (((x + 68 + 2 * j + 1)) = (x) + 24 ∨ ((x + 68 + 2 * j + 1)) = (x) + 27 ∨ ((x) + 58 ≤ ((x + 68 + 2 * j + 1)) ∧ ((x + 68 + 2 * j + 1)) ≤ (x) + 67) ∨ ((x + 68 + 2 * j + 1)) = (x) + 22 ∨ ((x + 68 + 2 * j + 1)) = (x) + 25) := by intros; omega
theorem dW_416 (x y : Nat) (hxy : x + 76 ≤ y) : ∀ k : Nat, k < 96 → ¬ ((((y + 6)) = (y) + 3 ∨ ((y) + 7 ≤ ((y + 6)) ∧ ((y + 6)) ≤ (y) + 11)) ∨ (((y + 6)) = (y) + 1 ∧ ((k) = 157 ∨ (k) = 278))) := by intros; omega
theorem dW_417 (x y : Nat) (hxy : x + 76 ≤ y) : ¬ (((x + 56)) = (x) + 24 ∨ ((x + 56)) = (x) + 27 ∨ ((x) + 58 ≤ ((x + 56)) ∧ ((x + 56)) ≤ (x) + 67) ∨ ((x + 56)) = (x) + 22 ∨ ((x + 56)) = (x) + 25) := by omega
theorem dW_418 (x y : Nat) (hxy : x + 76 ≤ y) : ¬ (((y) = (y) + 3 ∨ ((y) + 7 ≤ (y) ∧ (y) ≤ (y) + 11)) ∨ ((y) = (y) + 1 ∧ ((18) = 157 ∨ (18) = 278))) := by omega
theorem dW_419 (x y : Nat) (hxy : x + 76 ≤ y) : ∀ k : Nat, ¬ (((x + 56 + 1)) = (x) + 24 ∨ ((x + 56 + 1)) = (x) + 27 ∨ ((x) + 58 ≤ ((x + 56 + 1)) ∧ ((x + 56 + 1)) ≤ (x) + 67) ∨ ((x + 56 + 1)) = (x) + 22 ∨ ((x + 56 + 1)) = (x) + 25) := by intros; omega
theorem dW_420 (x y : Nat) (hxy : x + 76 ≤ y) : ∀ k : Nat, ¬ ((((y + 12)) = (y) + 3 ∨ ((y) + 7 ≤ ((y + 12)) ∧ ((y + 12)) ≤ (y) + 11)) ∨ (((y + 12)) = (y) + 1 ∧ ((k) = 157 ∨ (k) = 278))) := by intros; omega
theorem dW_421 (x y : Nat) (hxy : x + 76 ≤ y) : ¬ (((x + 1)) = (x) + 24 ∨ ((x + 1)) = (x) + 27 ∨ ((x) + 58 ≤ ((x + 1)) ∧ ((x + 1)) ≤ (x) + 67) ∨ ((x + 1)) = (x) + 22 ∨ ((x + 1)) = (x) + 25) := by omega
theorem dW_422 (x y : Nat) (hxy : x + 76 ≤ y) : ∀ k : Nat, ¬ (((x + 1 + 4)) = (x) + 24 ∨ ((x + 1 + 4)) = (x) + 27 ∨ ((x) + 58 ≤ ((x + 1 + 4)) ∧ ((x + 1 + 4)) ≤ (x) + 67) ∨ ((x + 1 + 4)) = (x) + 22 ∨ ((x + 1 + 4)) = (x) + 25) := by intros; omega
theorem dW_423 (x y : Nat) (hxy : x + 76 ≤ y) : ¬ ((((y + 1)) = (y) + 3 ∨ ((y) + 7 ≤ ((y + 1)) ∧ ((y + 1)) ≤ (y) + 11)) ∨ (((y + 1)) = (y) + 1 ∧ ((5) = 157 ∨ (5) = 278))) := by omega
theorem dW_424 (x y : Nat) (hxy : x + 76 ≤ y) : ∀ k : Nat, k < 60 → ¬ ((((y + 1)) = (y) + 3 ∨ ((y) + 7 ≤ ((y + 1)) ∧ ((y + 1)) ≤ (y) + 11)) ∨ (((y + 1)) = (y) + 1 ∧ (((73 + k)) = 157 ∨ ((73 + k)) = 278))) := by intros; omega
theorem dW_425 (x y : Nat) (hxy : x + 76 ≤ y) : ∀ j : Nat, j < 6 → ¬ ((((y + 1)) = (y) + 3 ∨ ((y) + 7 ≤ ((y + 1)) ∧ ((y + 1)) ≤ (y) + 11)) ∨ (((y + 1)) = (y) + 1 ∧ (((61 + 2 * j + 1)) = 157 ∨ ((61 + 2 * j + 1)) = 278))) := by intros; omega
theorem dW_426 (x y : Nat) (hxy : x + 76 ≤ y) : ∀ k : Nat, k < 24 → ¬ (((x + 1 + 5)) = (x) + 24 ∨ ((x + 1 + 5)) = (x) + 27 ∨ ((x) + 58 ≤ ((x + 1 + 5)) ∧ ((x + 1 + 5)) ≤ (x) + 67) ∨ ((x + 1 + 5)) = (x) + 22 ∨ ((x + 1 + 5)) = (x) + 25) := by intros; omega
theorem dW_427 (x y : Nat) (hxy : x + 76 ≤ y) : ¬ ((((y + 1)) = (y) + 3 ∨ ((y) + 7 ≤ ((y + 1)) ∧ ((y + 1)) ≤ (y) + 11)) ∨ (((y + 1)) = (y) + 1 ∧ ((6) = 157 ∨ (6) = 278))) := by omega
theorem dW_428 (x y : Nat) (hxy : x + 76 ≤ y) : ∀ k : Nat, k < 24 → ¬ ((((y + 1)) = (y) + 3 ∨ ((y) + 7 ≤ ((y + 1)) ∧ ((y + 1)) ≤ (y) + 11)) ∨ (((y + 1)) = (y) + 1 ∧ (((133 + k)) = 157 ∨ ((133 + k)) = 278))) := by intros; omega
theorem dW_429 (x y : Nat) (hxy : x + 76 ≤ y) : ∀ j : Nat, j < 9 → ∀ k : Nat, k < 6 → ¬ (((x + 28 + 6 + 1 * j)) = (x) + 24 ∨ ((x + 28 + 6 + 1 * j)) = (x) + 27 ∨ ((x) + 58 ≤ ((x + 28 + 6 + 1 * j)) ∧ ((x + 28 + 6 + 1 * j)) ≤ (x) + 67) ∨ ((x + 28 + 6 + 1 * j)) = (x) + 22 ∨ ((x + 28 + 6 + 1 * j)) = (x) + 25) := by intros; omega
theorem dW_430 (x y : Nat) (hxy : x + 76 ≤ y) : ∀ k : Nat, 7 ≤ k → k < 61 → ¬ ((((y + 2)) = (y) + 3 ∨ ((y) + 7 ≤ ((y + 2)) ∧ ((y + 2)) ≤ (y) + 11)) ∨ (((y + 2)) = (y) + 1 ∧ ((k) = 157 ∨ (k) = 278))) := by intros; omega
theorem dW_431 (x y : Nat) (hxy : x + 76 ≤ y) : ∀ j : Nat, j < 6 → ¬ (((x + 28 + 15 + 1 * j)) = (x) + 24 ∨ ((x + 28 + 15 + 1 * j)) = (x) + 27 ∨ ((x) + 58 ≤ ((x + 28 + 15 + 1 * j)) ∧ ((x + 28 + 15 + 1 * j)) ≤ (x) + 67) ∨ ((x + 28 + 15 + 1 * j)) = (x) + 22 ∨ ((x + 28 + 15 + 1 * j)) = (x) + 25) := by intros; omega
theorem dW_432 (x y : Nat) (hxy : x + 76 ≤ y) : ∀ j : Nat, j < 6 → ¬ ((((y + 2)) = (y) + 3 ∨ ((y) + 7 ≤ ((y + 2)) ∧ ((y + 2)) ≤ (y) + 11)) ∨ (((y + 2)) = (y) + 1 ∧ (((61 + 2 * j + 0)) = 157 ∨ ((61 + 2 * j + 0)) = 278))) := by intros; omega
theorem dW_433 (x y : Nat) (hxy : x + 76 ≤ y) : ¬ (((x + 28)) = (x) + 24 ∨ ((x + 28)) = (x) + 27 ∨ ((x) + 58 ≤ ((x + 28)) ∧ ((x + 28)) ≤ (x) + 67) ∨ ((x + 28)) = (x) + 22 ∨ ((x + 28)) = (x) + 25) := by omega
theorem dW_434 (x y : Nat) (hxy : x + 76 ≤ y) : ∀ k : Nat, ¬ (((x + 28 + 4)) = (x) + 24 ∨ ((x + 28 + 4)) = (x) + 27 ∨ ((x) + 58 ≤ ((x + 28 + 4)) ∧ ((x + 28 + 4)) ≤ (x) + 67) ∨ ((x + 28 + 4)) = (x) + 22 ∨ ((x + 28 + 4)) = (x) + 25) := by intros; omega
theorem dW_435 (x y : Nat) (hxy : x + 76 ≤ y) : ¬ ((((y + 2)) = (y) + 3 ∨ ((y) + 7 ≤ ((y + 2)) ∧ ((y + 2)) ≤ (y) + 11)) ∨ (((y + 2)) = (y) + 1 ∧ ((5) = 157 ∨ (5) = 278))) := by omega
theorem dW_436 (x y : Nat) (hxy : x + 76 ≤ y) : ∀ k : Nat, k < 60 → ¬ ((((y + 2)) = (y) + 3 ∨ ((y) + 7 ≤ ((y + 2)) ∧ ((y + 2)) ≤ (y) + 11)) ∨ (((y + 2)) = (y) + 1 ∧ (((73 + k)) = 157 ∨ ((73 + k)) = 278))) := by intros; omega
theorem dW_437 (x y : Nat) (hxy : x + 76 ≤ y) : ∀ a : Nat, (a = x + 28 + 21 ∨ a = x + 28 + 22 ∨ a = x + 28 + 24 ∨ a = x + 28 + 25) → ∀ k : Nat, ¬ ((a) = (x) + 24 ∨ (a) = (x) + 27 ∨ ((x) + 58 ≤ (a) ∧ (a) ≤ (x) + 67) ∨ (a) = (x) + 22 ∨ (a) = (x) + 25) := by intros; omega
theorem dW_438 (x y : Nat) (hxy : x + 76 ≤ y) : ∀ k : Nat, 157 ≤ k → ¬ ((((y + 2)) = (y) + 3 ∨ ((y) + 7 ≤ ((y + 2)) ∧ ((y + 2)) ≤ (y) + 11)) ∨ (((y + 2)) = (y) + 1 ∧ ((k) = 157 ∨ (k) = 278))) := by intros; omega
theorem dW_439 (x y : Nat) (hxy : x + 76 ≤ y) : ∀ j : Nat, j < 6 → ¬ ((((y + 2)) = (y) + 3 ∨ ((y) + 7 ≤ ((y + 2)) ∧ ((y + 2)) ≤ (y) + 11)) ∨ (((y + 2)) = (y) + 1 ∧ (((61 + 2 * j + 1)) = 157 ∨ ((61 + 2 * j + 1)) = 278))) := by intros; omega
theorem dW_440 (x y : Nat) (hxy : x + 76 ≤ y) : ∀ k : Nat, k < 24 → ¬ (((x + 28 + 5)) = (x) + 24 ∨ ((x + 28 + 5)) = (x) + 27 ∨ ((x) + 58 ≤ ((x + 28 + 5)) ∧ ((x + 28 + 5)) ≤ (x) + 67) ∨ ((x + 28 + 5)) = (x) + 22 ∨ ((x + 28 + 5)) = (x) + 25) := by intros; omega
theorem dW_441 (x y : Nat) (hxy : x + 76 ≤ y) : ¬ ((((y + 2)) = (y) + 3 ∨ ((y) + 7 ≤ ((y + 2)) ∧ ((y + 2)) ≤ (y) + 11)) ∨ (((y + 2)) = (y) + 1 ∧ ((6) = 157 ∨ (6) = 278))) := by omega
theorem dW_442 (x y : Nat) (hxy : x + 76 ≤ y) : ∀ k : Nat, k < 24 → ¬ ((((y + 2)) = (y) + 3 ∨ ((y) + 7 ≤ ((y + 2)) ∧ ((y + 2)) ≤ (y) + 11)) ∨ (((y + 2)) = (y) + 1 ∧ (((133 + k)) = 157 ∨ ((133 + k)) = 278))) := by intros; omega
set_option maxHeartbeats 4000000 in
set_option maxRecDepth 100000 in
theorem lc_untell {p : Program} {l : Launch} {e : Env} {s : State} {m : MethodId} {below : List Frame} {meth : Method} {c : Code} {b L x y : Nat} {xs : Nat → Int32} {E : zz_E} {Q : State → Prop} (hA : zz_LA p s m c b L xs E x y) (i : Int32) (hi : 0 ≤ i.toInt ∧ i.toInt + 6 ≤ L) (σ : zz_S) (H : Heap) (locs : List Loc) (ls : Array Slot) (hR : zz_RL σ x y) (hQ : zz_RD σ x y) (hP : zz_P E σ H) (hS : va_S (zz_A E) s.heap H locs) (hl : lv_has ls 4 [(0, .ref b), (1, .ref x), (2, .ref y), (3, .int i)])
    (kk : ∀ (σ1 : zz_S) (H1 : Heap) (locs1 : List Loc), zz_RL σ1 x y → zz_RD σ1 x y → zz_P E σ1 H1 → va_S (zz_A E) s.heap H1 locs1 → W p l e room_1 s m #[Value.ref b] below meth c H1 locs1 600000 7302250 Q (F0 m 1384 ls [])) : W p l e room_1 s m #[Value.ref b] below meth c H locs 600000 7302250 Q (F0 m 583 ls []) := by
  obtain ⟨hx, hb, hml, hown, hts, hX, hbl, hbE, hL, gL, gM, hxy, hK⟩ := hA
  have hbA : ¬ zz_A E b := fun h => absurd (hbE b h) (Nat.not_le.mpr hbl)
  have k_1 : (1 : Int32).toInt = 1 := by decide +kernel
  refine lv_aload_n hx hb dL_law_583 rfl (lv_at hl 1 rfl) ?_
  refine lv_aload_n hx hb dL_law_584 rfl (lv_at hl 0 rfl) ?_
  refine lv_iload_n hx hb dL_law_585 rfl (lv_at hl 3 rfl) ?_
  refine lv_iconst (v := 1) hx hb dL_law_586 (by decide) ?_
  refine lv_iadd hx hb dL_law_587 ?_
  refine lv_topi (fun n1 e1 => ?_)
  have f1 : n1.toInt = (i).toInt + (1 : Int32).toInt := zz_addT e1 (by omega) (by omega)
  refine va_sld hx hb hX hbl hbA hS (vp_in_iff.mpr ⟨by omega, by omega⟩) dL_law_588 ?_
  refine lv_topi (fun v2 u2 => ?_)
  refine zz_callVi (As := [.int v2]) (rest := []) ⟨hx, hb, hml, hown, hts⟩ hK hP hS (c_X8_untell l E σ x v2 gL hR.1) (cwV 1 hts gL_law_X8_untell rfl rfl rfl (by decide +kernel) ⟨Nat.le_of_ble_eq_true rfl, Nat.le_of_ble_eq_true rfl⟩) (gL.1) rfl rfl hl.1 rfl (Nat.le_of_ble_eq_true rfl) dL_law_589 ⟨Nat.le_refl _, Nat.le_refl _⟩ (fun r1 σ1 H locs q1 hP hS => ?_)
  try dsimp only at q1
  obtain ⟨w1, p1⟩ := q1
  have B : ∀ a k : Nat, y ≤ a → a ≤ y + 12 → σ1 a k = σ a k := fun a k h1 h2 => w1 a k ((dW_400 x y hxy) a k h1 h2)
  have hJ1 : zz_IM σ1 y := hR.2.1.far B
  refine lv_pop hx hb dL_law_592 rfl ?_
  refine lv_aload_n hx hb dL_law_593 rfl (lv_at hl 2 rfl) ?_
  refine lv_aload_n hx hb dL_law_594 rfl (lv_at hl 0 rfl) ?_
  refine lv_iload_n hx hb dL_law_595 rfl (lv_at hl 3 rfl) ?_
  refine lv_iconst (v := 1) hx hb dL_law_596 (by decide) ?_
  refine lv_iadd hx hb dL_law_597 ?_
  refine lv_topi (fun n4 e4 => ?_)
  have f4 : n4.toInt = (i).toInt + (1 : Int32).toInt := zz_addT e4 (by omega) (by omega)
  refine va_sld hx hb hX hbl hbA hS (vp_in_iff.mpr ⟨by omega, by omega⟩) dL_law_598 ?_
  refine lv_topi (fun v5 u5 => ?_)
  have z5 : v5 = v2 := by rw [u5, u2, e4, e1]
  have zt5 := congrArg Int32.toInt z5
  refine zz_callVi (As := [.int v5]) (rest := []) ⟨hx, hb, hml, hown, hts⟩ hK hP hS (c_X9_untell l E σ1 y v5 gM hJ1) (cwV 1 hts gL_law_X9_untell rfl rfl rfl (by decide +kernel) ⟨Nat.le_of_ble_eq_true rfl, Nat.le_of_ble_eq_true rfl⟩) (gM.1) rfl rfl hl.1 rfl (Nat.le_of_ble_eq_true rfl) dL_law_599 ⟨Nat.le_refl _, Nat.le_refl _⟩ (fun r2 σ2 H locs q2 hP hS => ?_)
  try dsimp only at q2
  obtain ⟨w2, p2⟩ := q2
  have A : ∀ a k : Nat, x ≤ a → a < x + 76 → σ2 a k = σ1 a k := fun a k h1 h2 => w2 a k ((dW_401 x y hxy) a k h1 h2)
  obtain ⟨i1, p1⟩ := p1
  obtain ⟨i2, p2⟩ := p2
  try simp only [z5] at p2
  have hRL : zz_RL σ2 x y := hR.soft i1 i2 A B (fun k => w1 (x + 1) k ((dW_407 x y hxy) k)) (fun k hk => w2 (y + 1) k ((dW_402 x y hxy) k hk)) (fun k => w1 (x + 28) k ((dW_403 x y hxy) k)) (w1 x 2 (dW_404 x y hxy)) (fun k => w2 (y + 2) k ((dW_405 x y hxy) k)) (w2 y 2 (dW_406 x y hxy))
  obtain ⟨hqD, hqW, hqK, hqB, hqN, hqC, hqL, hqT, hqP, hqX, hqF, hqG, hqV⟩ := hQ
  obtain ⟨aD, aW, aKD, aKW, aB, aN, aC, aL, aT, aP, aX, aKP, aKX⟩ := zz_aX A
  obtain ⟨bD, bW, bKD, bKW, bB, bN, bC, bL, bT, bP, bX, bKP, bKX⟩ := zz_bM hR.2.1 B
  obtain ⟨aF, aKF, aV, aKV⟩ := zy_aX2 A
  obtain ⟨bF, bKF, bV, bKV⟩ := zy_bM2 B
  have rD : zz_DX σ2 (x + 1) = zz_DM σ2 (y + 1) := by rw [aD, zz_DXk (r := x + 1) w1 (dW_408 x y hxy), zz_DMk (a := y + 1) w2 (dW_409 x y hxy), bD, hqD]
  have rW : zz_PX 0 σ2 (x + 1) = zz_PM 0 σ2 (y + 1) := by rw [aW, zz_PXk (f := 0) (r := x + 1) w1 (dW_410 x y hxy), zz_PMk (f := 0) (a := y + 1) w2 (dW_411 x y hxy), bW, hqW]
  have rB : zz_HX 0 σ2 x = zz_HM σ2 (y + 4) := by rw [aB, zz_HX.eq (f := 0) (x := x) (fun j hj => w1 _ _ ((dW_412 x y hxy) j hj)), zz_HM.eq (a := y + 4) (fun j hj => w2 _ _ ((dW_413 x y hxy) j hj)), bB, hqB]
  have rN : zz_HX 1 σ2 x = zz_HM σ2 (y + 5) := by rw [aN, zz_HX.eq (f := 1) (x := x) (fun j hj => w1 _ _ ((dW_412 x y hxy) j hj)), zz_HM.eq (a := y + 5) (fun j hj => w2 _ _ ((dW_414 x y hxy) j hj)), bN, hqN]
  have rC : zz_CX σ2 x = zz_CM σ2 (y + 6) := by rw [aC, zz_CX.eq (x := x) (fun j hj k hk => w1 _ _ ((dW_415 x y hxy) j hj k hk)), zz_CM.eq (a := y + 6) (fun k hk => w2 _ _ ((dW_416 x y hxy) k hk)), bC, hqC]
  have rL : (σ2 (x + 56) 1).toInt = (σ2 y 18).toInt := by rw [aL, congrArg Int32.toInt (w1 (x + 56) 1 (dW_417 x y hxy)), congrArg Int32.toInt (w2 y 18 (dW_418 x y hxy)), bL, hqL]
  have rT : zz_TV σ2 (x + 56 + 1) = zz_TV σ2 (y + 12) := by rw [aT, zz_TV.eq (a := x + 56 + 1) (b := x + 56 + 1) (fun k _ => w1 _ k ((dW_419 x y hxy) k)), zz_TV.eq (a := y + 12) (b := y + 12) (fun k _ => w2 _ k ((dW_420 x y hxy) k)), bT, hqT]
  have rP : zz_Tp σ2 (x + 1 + 4) (σ2 (x + 1) 9).toInt = zz_Tm σ2 (y + 1) := by rw [aP, zz_Tp.all (a := x + 1 + 4) (b := x + 1 + 4) (congrArg Int32.toInt (w1 (x + 1) 9 (dW_421 x y hxy))) (fun k => w1 _ k ((dW_422 x y hxy) k)), zz_Tm.eq (a := y + 1) (b := y + 1) (w2 (y + 1) 5 (dW_423 x y hxy)) hJ1.1.2.2.2.2.1.2 (fun k hk => w2 (y + 1) (73 + k) ((dW_424 x y hxy) k hk)), bP, hqP]
  have rF : zz_PX 1 σ2 (x + 1) = zz_PM 1 σ2 (y + 1) := by rw [aF, zz_PXk (f := 1) (r := x + 1) w1 (dW_410 x y hxy), zz_PMk (f := 1) (a := y + 1) w2 (dW_425 x y hxy), bF, hqF]
  have rV : zy_wv σ2 (x + 1 + 5) 0 (σ2 (x + 1) 11).toInt = zy_wv σ2 (y + 1) 133 (σ2 (y + 1) 6).toInt := by rw [aV, zy_wv.eq (a := x + 1 + 5) (a1 := x + 1 + 5) (b := 0) (b1 := 0) (congrArg Int32.toInt (w1 (x + 1) 11 (dW_421 x y hxy))) (fun k hk => w1 (x + 1 + 5) (0 + k) ((dW_426 x y hxy) k hk)), zy_wv.eq (a := y + 1) (a1 := y + 1) (b := 133) (b1 := 133) (congrArg Int32.toInt (w2 (y + 1) 6 (dW_427 x y hxy))) (fun k hk => w2 (y + 1) (133 + k) ((dW_428 x y hxy) k hk)), bV, hqV]
  have rG : zy_FB (zz_PM 1 σ2 (y + 1)) := by rw [zz_PMk (f := 1) (a := y + 1) w2 (dW_425 x y hxy), bF]; exact hqG
  have rK : (σ2 x 2).toInt = 0 ∨ (zz_DX σ2 (x + 28) = zz_DM σ2 (y + 2) ∧ zz_PX 0 σ2 (x + 28) = zz_PM 0 σ2 (y + 2) ∧ zz_Tp σ2 (x + 28 + 4) (σ2 (x + 28) 9).toInt = zz_Tm σ2 (y + 2) ∧ zz_tts (zz_XT σ2 (x + 28)) (zz_MT σ2 (y + 2)) ∧ zz_PX 1 σ2 (x + 28) = zz_PM 1 σ2 (y + 2) ∧ zy_FB (zz_PM 1 σ2 (y + 2)) ∧ zy_wv σ2 (x + 28 + 5) 0 (σ2 (x + 28) 11).toInt = zy_wv σ2 (y + 2) 133 (σ2 (y + 2) 6).toInt) := hqK.elim (fun q => Or.inl ((congrArg Int32.toInt ((A x 2 (by omega) (by omega)).trans (w1 x 2 (dW_404 x y hxy)))).trans q)) (fun q => Or.inr ⟨by rw [aKD, zz_DXk (r := x + 28) w1 (dW_429 x y hxy), zz_DMk (a := y + 2) w2 (dW_430 x y hxy), bKD, q.1], by rw [aKW, zz_PXk (f := 0) (r := x + 28) w1 (dW_431 x y hxy), zz_PMk (f := 0) (a := y + 2) w2 (dW_432 x y hxy), bKW, q.2.1], by rw [aKP, zz_Tp.all (a := x + 28 + 4) (b := x + 28 + 4) (congrArg Int32.toInt (w1 (x + 28) 9 (dW_433 x y hxy))) (fun k => w1 _ k ((dW_434 x y hxy) k)), zz_Tm.eq (a := y + 2) (b := y + 2) (w2 (y + 2) 5 (dW_435 x y hxy)) hJ1.2.1.2.2.2.2.1.2 (fun k hk => w2 (y + 2) (73 + k) ((dW_436 x y hxy) k hk)), bKP, q.2.2.1], by rw [aKX, zz_XT.all (r := x + 28) (fun a ha k => w1 a k ((dW_437 x y hxy) a ha k)), zz_MT.hi (a := y + 2) (b := y + 2) (fun k hk => w2 (y + 2) k ((dW_438 x y hxy) k hk)), bKX]; exact q.2.2.2.1, by rw [aKF, zz_PXk (f := 1) (r := x + 28) w1 (dW_431 x y hxy), zz_PMk (f := 1) (a := y + 2) w2 (dW_439 x y hxy), bKF, q.2.2.2.2.1], by rw [zz_PMk (f := 1) (a := y + 2) w2 (dW_439 x y hxy), bKF]; exact q.2.2.2.2.2.1, by rw [aKV, zy_wv.eq (a := x + 28 + 5) (a1 := x + 28 + 5) (b := 0) (b1 := 0) (congrArg Int32.toInt (w1 (x + 28) 11 (dW_433 x y hxy))) (fun k hk => w1 (x + 28 + 5) (0 + k) ((dW_440 x y hxy) k hk)), zy_wv.eq (a := y + 2) (a1 := y + 2) (b := 133) (b1 := 133) (congrArg Int32.toInt (w2 (y + 2) 6 (dW_441 x y hxy))) (fun k hk => w2 (y + 2) (133 + k) ((dW_442 x y hxy) k hk)), bKV, q.2.2.2.2.2.2]⟩)
  have eX : zz_tts (zz_XT σ (x + 1)) (zz_MT σ1 (y + 1)) := by rw [bX]; exact hqX
  have rT2 : zz_tts (zz_XT σ2 (x + 1)) (zz_MT σ2 (y + 1)) ∧ r1.toInt = r2.toInt := by
    rcases p1 with ⟨a1, a2, a3⟩ | ⟨a1, a2, a3⟩
    · rcases p2 with ⟨b1, b2, b3⟩ | ⟨b1, b2, b3⟩
      · exact ⟨by rw [aX, a3, b3]; exact eX, a2.trans b2.symm⟩
      · exact absurd a1 (by omega)
    · rcases p2 with ⟨b1, b2, b3⟩ | ⟨b1, b2, b3⟩
      · exact absurd b1 (by omega)
      · obtain ⟨u1, u2⟩ := zz_unt a1 a2 a3 b2 b3 eX
        exact ⟨by rw [aX]; exact u2, u1⟩
  have rX := rT2.1
  have hQ2 : zz_RD σ2 x y := ⟨rD, rW, rK, rB, rN, rC, rL, rT, rP, rX, rF, rG, rV⟩
  refine lv_pop hx hb dL_law_602 rfl ?_
  refine lv_goto (tgt := 1384) hx hb dL_law_603 (by decide) ?_
  exact kk _ _ _ hRL hQ2 hP hS
theorem gL_law_X8_law : GoodIn wsL_law (wsV RL 67 RX8 yX8_law wzX8_law) := wz_coL bm_568 (wz_coL bm_569 (wz_coL bm_570 (wz_coL bm_2 (wz_inL bm_571))))
theorem gL_law_X9_law : GoodIn wsL_law (wsV RL 71 RX9 yX9_law wzX9_law) := wz_coL bm_573 (wz_coL bm_574 (wz_coL bm_575 (wz_coL bm_5 (wz_inL bm_576))))
set_option maxHeartbeats 4000000 in
set_option maxRecDepth 100000 in
theorem lc_law {p : Program} {l : Launch} {e : Env} {s : State} {m : MethodId} {below : List Frame} {meth : Method} {c : Code} {b L x y : Nat} {xs : Nat → Int32} {E : zz_E} {Q : State → Prop} (hA : zz_LA p s m c b L xs E x y) (i : Int32) (hi : 0 ≤ i.toInt ∧ i.toInt + 6 ≤ L) (σ : zz_S) (H : Heap) (locs : List Loc) (ls : Array Slot) (hR : zz_RL σ x y) (hQ : zz_RD σ x y) (hP : zz_P E σ H) (hS : va_S (zz_A E) s.heap H locs) (hl : lv_has ls 4 [(0, .ref b), (1, .ref x), (2, .ref y), (3, .int i)])
    (kk : ∀ (σ1 : zz_S) (H1 : Heap) (locs1 : List Loc), zz_RL σ1 x y → zz_RD σ1 x y → zz_P E σ1 H1 → va_S (zz_A E) s.heap H1 locs1 → W p l e room_1 s m #[Value.ref b] below meth c H1 locs1 600000 7302250 Q (F0 m 1384 ls [])) : W p l e room_1 s m #[Value.ref b] below meth c H locs 600000 7302250 Q (F0 m 606 ls []) := by
  obtain ⟨hx, hb, hml, hown, hts, hX, hbl, hbE, hL, gL, gM, hxy, hK⟩ := hA
  have hbA : ¬ zz_A E b := fun h => absurd (hbE b h) (Nat.not_le.mpr hbl)
  have k_1 : (1 : Int32).toInt = 1 := by decide +kernel
  have k_2 : (2 : Int32).toInt = 2 := by decide +kernel
  have k_3 : (3 : Int32).toInt = 3 := by decide +kernel
  have k_4 : (4 : Int32).toInt = 4 := by decide +kernel
  refine lv_aload_n hx hb dL_law_606 rfl (lv_at hl 1 rfl) ?_
  refine lv_aload_n hx hb dL_law_607 rfl (lv_at hl 0 rfl) ?_
  refine lv_iload_n hx hb dL_law_608 rfl (lv_at hl 3 rfl) ?_
  refine lv_iconst (v := 1) hx hb dL_law_609 (by decide) ?_
  refine lv_iadd hx hb dL_law_610 ?_
  refine lv_topi (fun n1 e1 => ?_)
  have f1 : n1.toInt = (i).toInt + (1 : Int32).toInt := zz_addT e1 (by omega) (by omega)
  refine va_sld hx hb hX hbl hbA hS (vp_in_iff.mpr ⟨by omega, by omega⟩) dL_law_611 ?_
  refine lv_topi (fun v2 u2 => ?_)
  refine lv_aload_n hx hb dL_law_612 rfl (lv_at hl 0 rfl) ?_
  refine lv_iload_n hx hb dL_law_613 rfl (lv_at hl 3 rfl) ?_
  refine lv_iconst (v := 2) hx hb dL_law_614 (by decide) ?_
  refine lv_iadd hx hb dL_law_615 ?_
  refine lv_topi (fun n3 e3 => ?_)
  have f3 : n3.toInt = (i).toInt + (2 : Int32).toInt := zz_addT e3 (by omega) (by omega)
  refine va_sld hx hb hX hbl hbA hS (vp_in_iff.mpr ⟨by omega, by omega⟩) dL_law_616 ?_
  refine lv_topi (fun v4 u4 => ?_)
  refine lv_aload_n hx hb dL_law_617 rfl (lv_at hl 0 rfl) ?_
  refine lv_iload_n hx hb dL_law_618 rfl (lv_at hl 3 rfl) ?_
  refine lv_iconst (v := 3) hx hb dL_law_619 (by decide) ?_
  refine lv_iadd hx hb dL_law_620 ?_
  refine lv_topi (fun n5 e5 => ?_)
  have f5 : n5.toInt = (i).toInt + (3 : Int32).toInt := zz_addT e5 (by omega) (by omega)
  refine va_sld hx hb hX hbl hbA hS (vp_in_iff.mpr ⟨by omega, by omega⟩) dL_law_621 ?_
  refine lv_topi (fun v6 u6 => ?_)
  refine lv_aload_n hx hb dL_law_622 rfl (lv_at hl 0 rfl) ?_
  refine lv_iload_n hx hb dL_law_623 rfl (lv_at hl 3 rfl) ?_
  refine lv_iconst (v := 4) hx hb dL_law_624 (by decide) ?_
  refine lv_iadd hx hb dL_law_625 ?_
  refine lv_topi (fun n7 e7 => ?_)
  have f7 : n7.toInt = (i).toInt + (4 : Int32).toInt := zz_addT e7 (by omega) (by omega)
  refine va_sld hx hb hX hbl hbA hS (vp_in_iff.mpr ⟨by omega, by omega⟩) dL_law_626 ?_
  refine lv_topi (fun v8 u8 => ?_)
  refine zz_callVi (As := [.int v2, .int v4, .int v6, .int v8]) (rest := []) ⟨hx, hb, hml, hown, hts⟩ hK hP hS (c_X8_law l E σ x v2 v4 v6 v8 gL hR.1 (zy_KK σ x y) (zy_KX hR hQ)) (cwV 4 hts gL_law_X8_law rfl rfl rfl (by decide +kernel) ⟨Nat.le_of_ble_eq_true rfl, Nat.le_of_ble_eq_true rfl⟩) (gL.1) rfl rfl hl.1 rfl (Nat.le_of_ble_eq_true rfl) dL_law_627 ⟨Nat.le_refl _, Nat.le_refl _⟩ (fun r1 σ1 H locs q1 hP hS => ?_)
  try dsimp only at q1
  obtain ⟨w1, p1⟩ := q1
  have B : ∀ a k : Nat, y ≤ a → a ≤ y + 12 → σ1 a k = σ a k := fun a k h1 h2 => w1 a k ((dW_55 x y hxy) a k h1 h2)
  have hJ1 : zz_IM σ1 y := hR.2.1.far B
  refine lv_pop hx hb dL_law_630 rfl ?_
  refine lv_aload_n hx hb dL_law_631 rfl (lv_at hl 2 rfl) ?_
  refine lv_aload_n hx hb dL_law_632 rfl (lv_at hl 0 rfl) ?_
  refine lv_iload_n hx hb dL_law_633 rfl (lv_at hl 3 rfl) ?_
  refine lv_iconst (v := 1) hx hb dL_law_634 (by decide) ?_
  refine lv_iadd hx hb dL_law_635 ?_
  refine lv_topi (fun n10 e10 => ?_)
  have f10 : n10.toInt = (i).toInt + (1 : Int32).toInt := zz_addT e10 (by omega) (by omega)
  refine va_sld hx hb hX hbl hbA hS (vp_in_iff.mpr ⟨by omega, by omega⟩) dL_law_636 ?_
  refine lv_topi (fun v11 u11 => ?_)
  have z11 : v11 = v2 := by rw [u11, u2, e10, e1]
  have zt11 := congrArg Int32.toInt z11
  refine lv_aload_n hx hb dL_law_637 rfl (lv_at hl 0 rfl) ?_
  refine lv_iload_n hx hb dL_law_638 rfl (lv_at hl 3 rfl) ?_
  refine lv_iconst (v := 2) hx hb dL_law_639 (by decide) ?_
  refine lv_iadd hx hb dL_law_640 ?_
  refine lv_topi (fun n12 e12 => ?_)
  have f12 : n12.toInt = (i).toInt + (2 : Int32).toInt := zz_addT e12 (by omega) (by omega)
  refine va_sld hx hb hX hbl hbA hS (vp_in_iff.mpr ⟨by omega, by omega⟩) dL_law_641 ?_
  refine lv_topi (fun v13 u13 => ?_)
  have z13 : v13 = v4 := by rw [u13, u4, e12, e3]
  have zt13 := congrArg Int32.toInt z13
  refine lv_aload_n hx hb dL_law_642 rfl (lv_at hl 0 rfl) ?_
  refine lv_iload_n hx hb dL_law_643 rfl (lv_at hl 3 rfl) ?_
  refine lv_iconst (v := 3) hx hb dL_law_644 (by decide) ?_
  refine lv_iadd hx hb dL_law_645 ?_
  refine lv_topi (fun n14 e14 => ?_)
  have f14 : n14.toInt = (i).toInt + (3 : Int32).toInt := zz_addT e14 (by omega) (by omega)
  refine va_sld hx hb hX hbl hbA hS (vp_in_iff.mpr ⟨by omega, by omega⟩) dL_law_646 ?_
  refine lv_topi (fun v15 u15 => ?_)
  have z15 : v15 = v6 := by rw [u15, u6, e14, e5]
  have zt15 := congrArg Int32.toInt z15
  refine lv_aload_n hx hb dL_law_647 rfl (lv_at hl 0 rfl) ?_
  refine lv_iload_n hx hb dL_law_648 rfl (lv_at hl 3 rfl) ?_
  refine lv_iconst (v := 4) hx hb dL_law_649 (by decide) ?_
  refine lv_iadd hx hb dL_law_650 ?_
  refine lv_topi (fun n16 e16 => ?_)
  have f16 : n16.toInt = (i).toInt + (4 : Int32).toInt := zz_addT e16 (by omega) (by omega)
  refine va_sld hx hb hX hbl hbA hS (vp_in_iff.mpr ⟨by omega, by omega⟩) dL_law_651 ?_
  refine lv_topi (fun v17 u17 => ?_)
  have z17 : v17 = v8 := by rw [u17, u8, e16, e7]
  have zt17 := congrArg Int32.toInt z17
  refine zz_callVi (As := [.int v11, .int v13, .int v15, .int v17]) (rest := []) ⟨hx, hb, hml, hown, hts⟩ hK hP hS (c_X9_law l E σ1 y v11 v13 v15 v17 gM hJ1 (zy_KK σ x y) (zy_KY hR hQ B)) (cwV 4 hts gL_law_X9_law rfl rfl rfl (by decide +kernel) ⟨Nat.le_of_ble_eq_true rfl, Nat.le_of_ble_eq_true rfl⟩) (gM.1) rfl rfl hl.1 rfl (Nat.le_of_ble_eq_true rfl) dL_law_652 ⟨Nat.le_refl _, Nat.le_refl _⟩ (fun r2 σ2 H locs q2 hP hS => ?_)
  try dsimp only at q2
  obtain ⟨w2, p2⟩ := q2
  have A : ∀ a k : Nat, x ≤ a → a < x + 76 → σ2 a k = σ1 a k := fun a k h1 h2 => w2 a k ((dW_56 x y hxy) a k h1 h2)
  have i1 : zz_IX σ1 x := hR.1.soft (w1.mono (dW_57 x y hxy))
  have i2 : zz_IM σ2 y := hJ1.soft (w2.mono (dW_58 x y hxy))
  try simp only [z11, z13, z15, z17] at p2
  have hRL : zz_RL σ2 x y := hR.soft i1 i2 A B (fun k => w1 (x + 1) k ((dW_64 x y hxy) k)) (fun k hk => w2 (y + 1) k ((dW_59 x y hxy) k hk)) (fun k => w1 (x + 28) k ((dW_60 x y hxy) k)) (w1 x 2 (dW_61 x y hxy)) (fun k => w2 (y + 2) k ((dW_62 x y hxy) k)) (w2 y 2 (dW_63 x y hxy))
  obtain ⟨hqD, hqW, hqK, hqB, hqN, hqC, hqL, hqT, hqP, hqX, hqF, hqG, hqV⟩ := hQ
  obtain ⟨aD, aW, aKD, aKW, aB, aN, aC, aL, aT, aP, aX, aKP, aKX⟩ := zz_aX A
  obtain ⟨bD, bW, bKD, bKW, bB, bN, bC, bL, bT, bP, bX, bKP, bKX⟩ := zz_bM hR.2.1 B
  obtain ⟨aF, aKF, aV, aKV⟩ := zy_aX2 A
  obtain ⟨bF, bKF, bV, bKV⟩ := zy_bM2 B
  have rD : zz_DX σ2 (x + 1) = zz_DM σ2 (y + 1) := by rw [aD, zz_DXk (r := x + 1) w1 (dW_65 x y hxy), zz_DMk (a := y + 1) w2 (dW_66 x y hxy), bD, hqD]
  have rW : zz_PX 0 σ2 (x + 1) = zz_PM 0 σ2 (y + 1) := by rw [aW, zz_PXk (f := 0) (r := x + 1) w1 (dW_67 x y hxy), zz_PMk (f := 0) (a := y + 1) w2 (dW_68 x y hxy), bW, hqW]
  have rB : zz_HX 0 σ2 x = zz_HM σ2 (y + 4) := by rw [aB, zz_HX.eq (f := 0) (x := x) (fun j hj => w1 _ _ ((dW_69 x y hxy) j hj)), zz_HM.eq (a := y + 4) (fun j hj => w2 _ _ ((dW_70 x y hxy) j hj)), bB, hqB]
  have rN : zz_HX 1 σ2 x = zz_HM σ2 (y + 5) := by rw [aN, zz_HX.eq (f := 1) (x := x) (fun j hj => w1 _ _ ((dW_69 x y hxy) j hj)), zz_HM.eq (a := y + 5) (fun j hj => w2 _ _ ((dW_71 x y hxy) j hj)), bN, hqN]
  have rC : zz_CX σ2 x = zz_CM σ2 (y + 6) := by rw [aC, zz_CX.eq (x := x) (fun j hj k hk => w1 _ _ ((dW_72 x y hxy) j hj k hk)), zz_CM.eq (a := y + 6) (fun k hk => w2 _ _ ((dW_73 x y hxy) k hk)), bC, hqC]
  have rL : (σ2 (x + 56) 1).toInt = (σ2 y 18).toInt := by rw [aL, congrArg Int32.toInt (w1 (x + 56) 1 (dW_74 x y hxy)), congrArg Int32.toInt (w2 y 18 (dW_63 x y hxy)), bL, hqL]
  have rT : zz_TV σ2 (x + 56 + 1) = zz_TV σ2 (y + 12) := by rw [aT, zz_TV.eq (a := x + 56 + 1) (b := x + 56 + 1) (fun k _ => w1 _ k ((dW_75 x y hxy) k)), zz_TV.eq (a := y + 12) (b := y + 12) (fun k _ => w2 _ k ((dW_76 x y hxy) k)), bT, hqT]
  have rP : zz_Tp σ2 (x + 1 + 4) (σ2 (x + 1) 9).toInt = zz_Tm σ2 (y + 1) := by rw [aP, zz_Tp.all (a := x + 1 + 4) (b := x + 1 + 4) (congrArg Int32.toInt (w1 (x + 1) 9 (dW_77 x y hxy))) (fun k => w1 _ k ((dW_78 x y hxy) k)), zz_Tm.eq (a := y + 1) (b := y + 1) (w2 (y + 1) 5 (dW_79 x y hxy)) hJ1.1.2.2.2.2.1.2 (fun k hk => w2 (y + 1) (73 + k) ((dW_80 x y hxy) k hk)), bP, hqP]
  have rX : zz_tts (zz_XT σ2 (x + 1)) (zz_MT σ2 (y + 1)) := by rw [aX, zz_XT.all (r := x + 1) (fun a ha k => w1 a k ((dW_81 x y hxy) a ha k)), zz_MT.hi (a := y + 1) (b := y + 1) (fun k hk => w2 (y + 1) k ((dW_82 x y hxy) k hk)), bX]; exact hqX
  have rF : zz_PX 1 σ2 (x + 1) = zz_PM 1 σ2 (y + 1) := by rw [aF, zz_PXk (f := 1) (r := x + 1) w1 (dW_67 x y hxy), zz_PMk (f := 1) (a := y + 1) w2 (dW_68 x y hxy), bF, hqF]
  have rV : zy_wv σ2 (x + 1 + 5) 0 (σ2 (x + 1) 11).toInt = zy_wv σ2 (y + 1) 133 (σ2 (y + 1) 6).toInt := by rw [aV, zy_wv.eq (a := x + 1 + 5) (a1 := x + 1 + 5) (b := 0) (b1 := 0) (congrArg Int32.toInt (w1 (x + 1) 11 (dW_77 x y hxy))) (fun k hk => w1 (x + 1 + 5) (0 + k) ((dW_83 x y hxy) k hk)), zy_wv.eq (a := y + 1) (a1 := y + 1) (b := 133) (b1 := 133) (congrArg Int32.toInt (w2 (y + 1) 6 (dW_79 x y hxy))) (fun k hk => w2 (y + 1) (133 + k) ((dW_84 x y hxy) k hk)), bV, hqV]
  have rG : zy_FB (zz_PM 1 σ2 (y + 1)) := by rw [zz_PMk (f := 1) (a := y + 1) w2 (dW_68 x y hxy), bF]; exact hqG
  have rK : (σ2 x 2).toInt = 0 ∨ (zz_DX σ2 (x + 28) = zz_DM σ2 (y + 2) ∧ zz_PX 0 σ2 (x + 28) = zz_PM 0 σ2 (y + 2) ∧ zz_Tp σ2 (x + 28 + 4) (σ2 (x + 28) 9).toInt = zz_Tm σ2 (y + 2) ∧ zz_tts (zz_XT σ2 (x + 28)) (zz_MT σ2 (y + 2)) ∧ zz_PX 1 σ2 (x + 28) = zz_PM 1 σ2 (y + 2) ∧ zy_FB (zz_PM 1 σ2 (y + 2)) ∧ zy_wv σ2 (x + 28 + 5) 0 (σ2 (x + 28) 11).toInt = zy_wv σ2 (y + 2) 133 (σ2 (y + 2) 6).toInt) := hqK.elim (fun q => Or.inl ((congrArg Int32.toInt ((A x 2 (by omega) (by omega)).trans (w1 x 2 (dW_61 x y hxy)))).trans q)) (fun q => Or.inr ⟨by rw [aKD, zz_DXk (r := x + 28) w1 (dW_85 x y hxy), zz_DMk (a := y + 2) w2 (dW_86 x y hxy), bKD, q.1], by rw [aKW, zz_PXk (f := 0) (r := x + 28) w1 (dW_87 x y hxy), zz_PMk (f := 0) (a := y + 2) w2 (dW_88 x y hxy), bKW, q.2.1], by rw [aKP, zz_Tp.all (a := x + 28 + 4) (b := x + 28 + 4) (congrArg Int32.toInt (w1 (x + 28) 9 (dW_89 x y hxy))) (fun k => w1 _ k ((dW_90 x y hxy) k)), zz_Tm.eq (a := y + 2) (b := y + 2) (w2 (y + 2) 5 (dW_91 x y hxy)) hJ1.2.1.2.2.2.2.1.2 (fun k hk => w2 (y + 2) (73 + k) ((dW_92 x y hxy) k hk)), bKP, q.2.2.1], by rw [aKX, zz_XT.all (r := x + 28) (fun a ha k => w1 a k ((dW_93 x y hxy) a ha k)), zz_MT.hi (a := y + 2) (b := y + 2) (fun k hk => w2 (y + 2) k ((dW_94 x y hxy) k hk)), bKX]; exact q.2.2.2.1, by rw [aKF, zz_PXk (f := 1) (r := x + 28) w1 (dW_87 x y hxy), zz_PMk (f := 1) (a := y + 2) w2 (dW_88 x y hxy), bKF, q.2.2.2.2.1], by rw [zz_PMk (f := 1) (a := y + 2) w2 (dW_88 x y hxy), bKF]; exact q.2.2.2.2.2.1, by rw [aKV, zy_wv.eq (a := x + 28 + 5) (a1 := x + 28 + 5) (b := 0) (b1 := 0) (congrArg Int32.toInt (w1 (x + 28) 11 (dW_89 x y hxy))) (fun k hk => w1 (x + 28 + 5) (0 + k) ((dW_95 x y hxy) k hk)), zy_wv.eq (a := y + 2) (a1 := y + 2) (b := 133) (b1 := 133) (congrArg Int32.toInt (w2 (y + 2) 6 (dW_91 x y hxy))) (fun k hk => w2 (y + 2) (133 + k) ((dW_96 x y hxy) k hk)), bKV, q.2.2.2.2.2.2]⟩)
  have hQ2 : zz_RD σ2 x y := ⟨rD, rW, rK, rB, rN, rC, rL, rT, rP, rX, rF, rG, rV⟩
  refine lv_pop hx hb dL_law_655 rfl ?_
  refine lv_goto (tgt := 1384) hx hb dL_law_656 (by decide) ?_
  exact kk _ _ _ hRL hQ2 hP hS
theorem gL_law_X8_hours : GoodIn wsL_law (wsV RL 72 RX8 yX8_hours wzX8_hours) := wz_coL bm_577 (wz_coL bm_578 (wz_coL bm_579 (wz_coL bm_2 (wz_inL bm_580))))
theorem gL_law_X9_hours : GoodIn wsL_law (wsV RL 75 RX9 yX9_hours wzX9_hours) := wz_coL bm_588 (wz_coL bm_589 (wz_coL bm_590 (wz_coL bm_5 (wz_inL bm_591))))
theorem dW_443 (x y : Nat) (hxy : x + 76 ≤ y) : ∀ a k : Nat, y ≤ a → a ≤ y + 12 → ¬ ((a) = (x) + 24 ∨ (a) = (x) + 27 ∨ ((x) + 58 ≤ (a) ∧ (a) ≤ (x) + 67) ∨ ((a) = (x) + 1 ∧ (k) = 0) ∨ ((x) + 16 ≤ (a) ∧ (a) < (x) + 22 ∧ (k) = 1)) := by intros; omega
theorem dW_444 (x y : Nat) (hxy : x + 76 ≤ y) : ∀ a k : Nat, x ≤ a → a < x + 76 → ¬ (((a) = (y) + 3 ∨ ((y) + 7 ≤ (a) ∧ (a) ≤ (y) + 11)) ∨ ((a) = (y) + 1 ∧ ((k) = 0 ∨ (61 ≤ (k) ∧ (k) < 73 ∧ (k) % 2 = 0)))) := by intros; omega
theorem dW_445 (x y : Nat) (hxy : x + 76 ≤ y) : ∀ k : Nat, ¬ (((x + 28)) = (x) + 24 ∨ ((x + 28)) = (x) + 27 ∨ ((x) + 58 ≤ ((x + 28)) ∧ ((x + 28)) ≤ (x) + 67) ∨ (((x + 28)) = (x) + 1 ∧ (k) = 0) ∨ ((x) + 16 ≤ ((x + 28)) ∧ ((x + 28)) < (x) + 22 ∧ (k) = 1)) := by intros; omega
theorem dW_446 (x y : Nat) (hxy : x + 76 ≤ y) : ¬ ((x) = (x) + 24 ∨ (x) = (x) + 27 ∨ ((x) + 58 ≤ (x) ∧ (x) ≤ (x) + 67) ∨ ((x) = (x) + 1 ∧ (2) = 0) ∨ ((x) + 16 ≤ (x) ∧ (x) < (x) + 22 ∧ (2) = 1)) := by omega
theorem dW_447 (x y : Nat) (hxy : x + 76 ≤ y) : ∀ k : Nat, ¬ ((((y + 2)) = (y) + 3 ∨ ((y) + 7 ≤ ((y + 2)) ∧ ((y + 2)) ≤ (y) + 11)) ∨ (((y + 2)) = (y) + 1 ∧ ((k) = 0 ∨ (61 ≤ (k) ∧ (k) < 73 ∧ (k) % 2 = 0)))) := by intros; omega
theorem dW_448 (x y : Nat) (hxy : x + 76 ≤ y) : ¬ (((y) = (y) + 3 ∨ ((y) + 7 ≤ (y) ∧ (y) ≤ (y) + 11)) ∨ ((y) = (y) + 1 ∧ ((2) = 0 ∨ (61 ≤ (2) ∧ (2) < 73 ∧ (2) % 2 = 0)))) := by omega
theorem dW_449 (x y : Nat) (hxy : x + 76 ≤ y) : ¬ (((x + 1)) = (x) + 24 ∨ ((x + 1)) = (x) + 27 ∨ ((x) + 58 ≤ ((x + 1)) ∧ ((x + 1)) ≤ (x) + 67) ∨ (((x + 1)) = (x) + 1 ∧ (1) = 0) ∨ ((x) + 16 ≤ ((x + 1)) ∧ ((x + 1)) < (x) + 22 ∧ (1) = 1)) := by omega
theorem dW_450 (x y : Nat) (hxy : x + 76 ≤ y) : ¬ ((((y + 1)) = (y) + 3 ∨ ((y) + 7 ≤ ((y + 1)) ∧ ((y + 1)) ≤ (y) + 11)) ∨ (((y + 1)) = (y) + 1 ∧ ((4) = 0 ∨ (61 ≤ (4) ∧ (4) < 73 ∧ (4) % 2 = 0)))) := by omega
theorem dW_451 (x y : Nat) (hxy : x + 76 ≤ y) : ¬ (((x + 1)) = (x) + 24 ∨ ((x + 1)) = (x) + 27 ∨ ((x) + 58 ≤ ((x + 1)) ∧ ((x + 1)) ≤ (x) + 67) ∨ (((x + 1)) = (x) + 1 ∧ (2) = 0) ∨ ((x) + 16 ≤ ((x + 1)) ∧ ((x + 1)) < (x) + 22 ∧ (2) = 1)) := by omega
theorem dW_452 (x y : Nat) (hxy : x + 76 ≤ y) : ¬ ((((y + 1)) = (y) + 3 ∨ ((y) + 7 ≤ ((y + 1)) ∧ ((y + 1)) ≤ (y) + 11)) ∨ (((y + 1)) = (y) + 1 ∧ ((1) = 0 ∨ (61 ≤ (1) ∧ (1) < 73 ∧ (1) % 2 = 0)))) := by omega
theorem dW_453 (x y : Nat) (hxy : x + 76 ≤ y) : ¬ (((x + 1)) = (x) + 24 ∨ ((x + 1)) = (x) + 27 ∨ ((x) + 58 ≤ ((x + 1)) ∧ ((x + 1)) ≤ (x) + 67) ∨ (((x + 1)) = (x) + 1 ∧ (4) = 0) ∨ ((x) + 16 ≤ ((x + 1)) ∧ ((x + 1)) < (x) + 22 ∧ (4) = 1)) := by omega
theorem dW_454 (x y : Nat) (hxy : x + 76 ≤ y) : ¬ ((((y + 1)) = (y) + 3 ∨ ((y) + 7 ≤ ((y + 1)) ∧ ((y + 1)) ≤ (y) + 11)) ∨ (((y + 1)) = (y) + 1 ∧ ((2) = 0 ∨ (61 ≤ (2) ∧ (2) < 73 ∧ (2) % 2 = 0)))) := by omega
theorem dW_455 (x y : Nat) (hxy : x + 76 ≤ y) : ¬ (((x + 1)) = (x) + 24 ∨ ((x + 1)) = (x) + 27 ∨ ((x) + 58 ≤ ((x + 1)) ∧ ((x + 1)) ≤ (x) + 67) ∨ (((x + 1)) = (x) + 1 ∧ (6) = 0) ∨ ((x) + 16 ≤ ((x + 1)) ∧ ((x + 1)) < (x) + 22 ∧ (6) = 1)) := by omega
theorem dW_456 (x y : Nat) (hxy : x + 76 ≤ y) : ¬ ((((y + 1)) = (y) + 3 ∨ ((y) + 7 ≤ ((y + 1)) ∧ ((y + 1)) ≤ (y) + 11)) ∨ (((y + 1)) = (y) + 1 ∧ ((3) = 0 ∨ (61 ≤ (3) ∧ (3) < 73 ∧ (3) % 2 = 0)))) := by omega
theorem dW_457 (x y : Nat) (hxy : x + 76 ≤ y) : ¬ (((x + 1)) = (x) + 24 ∨ ((x + 1)) = (x) + 27 ∨ ((x) + 58 ≤ ((x + 1)) ∧ ((x + 1)) ≤ (x) + 67) ∨ (((x + 1)) = (x) + 1 ∧ (9) = 0) ∨ ((x) + 16 ≤ ((x + 1)) ∧ ((x + 1)) < (x) + 22 ∧ (9) = 1)) := by omega
theorem dW_458 (x y : Nat) (hxy : x + 76 ≤ y) : ¬ ((((y + 1)) = (y) + 3 ∨ ((y) + 7 ≤ ((y + 1)) ∧ ((y + 1)) ≤ (y) + 11)) ∨ (((y + 1)) = (y) + 1 ∧ ((5) = 0 ∨ (61 ≤ (5) ∧ (5) < 73 ∧ (5) % 2 = 0)))) := by omega
theorem dW_459 (x y : Nat) (hxy : x + 76 ≤ y) : ¬ (((x + 1)) = (x) + 24 ∨ ((x + 1)) = (x) + 27 ∨ ((x) + 58 ≤ ((x + 1)) ∧ ((x + 1)) ≤ (x) + 67) ∨ (((x + 1)) = (x) + 1 ∧ (11) = 0) ∨ ((x) + 16 ≤ ((x + 1)) ∧ ((x + 1)) < (x) + 22 ∧ (11) = 1)) := by omega
theorem dW_460 (x y : Nat) (hxy : x + 76 ≤ y) : ¬ ((((y + 1)) = (y) + 3 ∨ ((y) + 7 ≤ ((y + 1)) ∧ ((y + 1)) ≤ (y) + 11)) ∨ (((y + 1)) = (y) + 1 ∧ ((6) = 0 ∨ (61 ≤ (6) ∧ (6) < 73 ∧ (6) % 2 = 0)))) := by omega
theorem dW_461 (x y : Nat) (hxy : x + 76 ≤ y) : ∀ j : Nat, j < 9 → ∀ k : Nat, k < 6 → ¬ (((x + 1 + 6 + 1 * j)) = (x) + 24 ∨ ((x + 1 + 6 + 1 * j)) = (x) + 27 ∨ ((x) + 58 ≤ ((x + 1 + 6 + 1 * j)) ∧ ((x + 1 + 6 + 1 * j)) ≤ (x) + 67) ∨ (((x + 1 + 6 + 1 * j)) = (x) + 1 ∧ (k) = 0) ∨ ((x) + 16 ≤ ((x + 1 + 6 + 1 * j)) ∧ ((x + 1 + 6 + 1 * j)) < (x) + 22 ∧ (k) = 1)) := by intros; omega
theorem dW_462 (x y : Nat) (hxy : x + 76 ≤ y) : ∀ k : Nat, 7 ≤ k → k < 61 → ¬ ((((y + 1)) = (y) + 3 ∨ ((y) + 7 ≤ ((y + 1)) ∧ ((y + 1)) ≤ (y) + 11)) ∨ (((y + 1)) = (y) + 1 ∧ ((k) = 0 ∨ (61 ≤ (k) ∧ (k) < 73 ∧ (k) % 2 = 0)))) := by intros; omega
theorem dW_463 (x y : Nat) (hxy : x + 76 ≤ y) : ∀ j : Nat, j < 6 → ¬ (((x + 1 + 15 + 1 * j)) = (x) + 24 ∨ ((x + 1 + 15 + 1 * j)) = (x) + 27 ∨ ((x) + 58 ≤ ((x + 1 + 15 + 1 * j)) ∧ ((x + 1 + 15 + 1 * j)) ≤ (x) + 67) ∨ (((x + 1 + 15 + 1 * j)) = (x) + 1 ∧ (0) = 0) ∨ ((x) + 16 ≤ ((x + 1 + 15 + 1 * j)) ∧ ((x + 1 + 15 + 1 * j)) < (x) + 22 ∧ (0) = 1)) := by intros; omega
theorem dW_464 (x y : Nat) (hxy : x + 76 ≤ y) : ∀ j : Nat, j < 6 → ¬ ((((y + 1)) = (y) + 3 ∨ ((y) + 7 ≤ ((y + 1)) ∧ ((y + 1)) ≤ (y) + 11)) ∨ (((y + 1)) = (y) + 1 ∧ (((61 + 2 * j + 0)) = 0 ∨ (61 ≤ ((61 + 2 * j + 0)) ∧ ((61 + 2 * j + 0)) < 73 ∧ ((61 + 2 * j + 0)) % 2 = 0)))) := by intros; omega
theorem dW_465 (x y : Nat) (hxy : x + 76 ≤ y) : ∀ j : Nat, j < 4 → ¬ (((x + 68 + 2 * j)) = (x) + 24 ∨ ((x + 68 + 2 * j)) = (x) + 27 ∨ ((x) + 58 ≤ ((x + 68 + 2 * j)) ∧ ((x + 68 + 2 * j)) ≤ (x) + 67) ∨ (((x + 68 + 2 * j)) = (x) + 1 ∧ (0) = 0) ∨ ((x) + 16 ≤ ((x + 68 + 2 * j)) ∧ ((x + 68 + 2 * j)) < (x) + 22 ∧ (0) = 1)) := by intros; omega
theorem dW_466 (x y : Nat) (hxy : x + 76 ≤ y) : ∀ j : Nat, j < 4 → ¬ ((((y + 4)) = (y) + 3 ∨ ((y) + 7 ≤ ((y + 4)) ∧ ((y + 4)) ≤ (y) + 11)) ∨ (((y + 4)) = (y) + 1 ∧ ((j) = 0 ∨ (61 ≤ (j) ∧ (j) < 73 ∧ (j) % 2 = 0)))) := by intros; omega
theorem dW_467 (x y : Nat) (hxy : x + 76 ≤ y) : ∀ j : Nat, j < 4 → ¬ (((x + 68 + 2 * j)) = (x) + 24 ∨ ((x + 68 + 2 * j)) = (x) + 27 ∨ ((x) + 58 ≤ ((x + 68 + 2 * j)) ∧ ((x + 68 + 2 * j)) ≤ (x) + 67) ∨ (((x + 68 + 2 * j)) = (x) + 1 ∧ (1) = 0) ∨ ((x) + 16 ≤ ((x + 68 + 2 * j)) ∧ ((x + 68 + 2 * j)) < (x) + 22 ∧ (1) = 1)) := by intros; omega
theorem dW_468 (x y : Nat) (hxy : x + 76 ≤ y) : ∀ j : Nat, j < 4 → ¬ ((((y + 5)) = (y) + 3 ∨ ((y) + 7 ≤ ((y + 5)) ∧ ((y + 5)) ≤ (y) + 11)) ∨ (((y + 5)) = (y) + 1 ∧ ((j) = 0 ∨ (61 ≤ (j) ∧ (j) < 73 ∧ (j) % 2 = 0)))) := by intros; omega
theorem dW_469 (x y : Nat) (hxy : x + 76 ≤ y) : ∀ j : Nat, j < 4 → ∀ k : Nat, k < 24 → ¬ (((x + 68 + 2 * j + 1)) = (x) + 24 ∨ ((x + 68 + 2 * j + 1)) = (x) + 27 ∨ ((x) + 58 ≤ ((x + 68 + 2 * j + 1)) ∧ ((x + 68 + 2 * j + 1)) ≤ (x) + 67) ∨ (((x + 68 + 2 * j + 1)) = (x) + 1 ∧ (k) = 0) ∨ ((x) + 16 ≤ ((x + 68 + 2 * j + 1)) ∧ ((x + 68 + 2 * j + 1)) < (x) + 22 ∧ (k) = 1)) := by intros; omega
theorem dW_470 (x y : Nat) (hxy : x + 76 ≤ y) : ∀ k : Nat, k < 96 → ¬ ((((y + 6)) = (y) + 3 ∨ ((y) + 7 ≤ ((y + 6)) ∧ ((y + 6)) ≤ (y) + 11)) ∨ (((y + 6)) = (y) + 1 ∧ ((k) = 0 ∨ (61 ≤ (k) ∧ (k) < 73 ∧ (k) % 2 = 0)))) := by intros; omega
theorem dW_471 (x y : Nat) (hxy : x + 76 ≤ y) : ¬ (((x + 56)) = (x) + 24 ∨ ((x + 56)) = (x) + 27 ∨ ((x) + 58 ≤ ((x + 56)) ∧ ((x + 56)) ≤ (x) + 67) ∨ (((x + 56)) = (x) + 1 ∧ (1) = 0) ∨ ((x) + 16 ≤ ((x + 56)) ∧ ((x + 56)) < (x) + 22 ∧ (1) = 1)) := by omega
theorem dW_472 (x y : Nat) (hxy : x + 76 ≤ y) : ¬ (((y) = (y) + 3 ∨ ((y) + 7 ≤ (y) ∧ (y) ≤ (y) + 11)) ∨ ((y) = (y) + 1 ∧ ((18) = 0 ∨ (61 ≤ (18) ∧ (18) < 73 ∧ (18) % 2 = 0)))) := by omega
theorem dW_473 (x y : Nat) (hxy : x + 76 ≤ y) : ∀ k : Nat, ¬ (((x + 56 + 1)) = (x) + 24 ∨ ((x + 56 + 1)) = (x) + 27 ∨ ((x) + 58 ≤ ((x + 56 + 1)) ∧ ((x + 56 + 1)) ≤ (x) + 67) ∨ (((x + 56 + 1)) = (x) + 1 ∧ (k) = 0) ∨ ((x) + 16 ≤ ((x + 56 + 1)) ∧ ((x + 56 + 1)) < (x) + 22 ∧ (k) = 1)) := by intros; omega
theorem dW_474 (x y : Nat) (hxy : x + 76 ≤ y) : ∀ k : Nat, ¬ ((((y + 12)) = (y) + 3 ∨ ((y) + 7 ≤ ((y + 12)) ∧ ((y + 12)) ≤ (y) + 11)) ∨ (((y + 12)) = (y) + 1 ∧ ((k) = 0 ∨ (61 ≤ (k) ∧ (k) < 73 ∧ (k) % 2 = 0)))) := by intros; omega
theorem dW_475 (x y : Nat) (hxy : x + 76 ≤ y) : ∀ k : Nat, ¬ (((x + 1 + 4)) = (x) + 24 ∨ ((x + 1 + 4)) = (x) + 27 ∨ ((x) + 58 ≤ ((x + 1 + 4)) ∧ ((x + 1 + 4)) ≤ (x) + 67) ∨ (((x + 1 + 4)) = (x) + 1 ∧ (k) = 0) ∨ ((x) + 16 ≤ ((x + 1 + 4)) ∧ ((x + 1 + 4)) < (x) + 22 ∧ (k) = 1)) := by intros; omega
theorem dW_476 (x y : Nat) (hxy : x + 76 ≤ y) : ∀ k : Nat, k < 60 → ¬ ((((y + 1)) = (y) + 3 ∨ ((y) + 7 ≤ ((y + 1)) ∧ ((y + 1)) ≤ (y) + 11)) ∨ (((y + 1)) = (y) + 1 ∧ (((73 + k)) = 0 ∨ (61 ≤ ((73 + k)) ∧ ((73 + k)) < 73 ∧ ((73 + k)) % 2 = 0)))) := by intros; omega
theorem dW_477 (x y : Nat) (hxy : x + 76 ≤ y) : ∀ a : Nat, (a = x + 1 + 21 ∨ a = x + 1 + 22 ∨ a = x + 1 + 24 ∨ a = x + 1 + 25) → ∀ k : Nat, ¬ ((a) = (x) + 24 ∨ (a) = (x) + 27 ∨ ((x) + 58 ≤ (a) ∧ (a) ≤ (x) + 67) ∨ ((a) = (x) + 1 ∧ (k) = 0) ∨ ((x) + 16 ≤ (a) ∧ (a) < (x) + 22 ∧ (k) = 1)) := by intros; omega
theorem dW_478 (x y : Nat) (hxy : x + 76 ≤ y) : ∀ k : Nat, 157 ≤ k → ¬ ((((y + 1)) = (y) + 3 ∨ ((y) + 7 ≤ ((y + 1)) ∧ ((y + 1)) ≤ (y) + 11)) ∨ (((y + 1)) = (y) + 1 ∧ ((k) = 0 ∨ (61 ≤ (k) ∧ (k) < 73 ∧ (k) % 2 = 0)))) := by intros; omega
theorem dW_479 (x y : Nat) (hxy : x + 76 ≤ y) : ∀ k : Nat, k < 24 → ¬ (((x + 1 + 5)) = (x) + 24 ∨ ((x + 1 + 5)) = (x) + 27 ∨ ((x) + 58 ≤ ((x + 1 + 5)) ∧ ((x + 1 + 5)) ≤ (x) + 67) ∨ (((x + 1 + 5)) = (x) + 1 ∧ ((0 + k)) = 0) ∨ ((x) + 16 ≤ ((x + 1 + 5)) ∧ ((x + 1 + 5)) < (x) + 22 ∧ ((0 + k)) = 1)) := by intros; omega
theorem dW_480 (x y : Nat) (hxy : x + 76 ≤ y) : ∀ k : Nat, k < 24 → ¬ ((((y + 1)) = (y) + 3 ∨ ((y) + 7 ≤ ((y + 1)) ∧ ((y + 1)) ≤ (y) + 11)) ∨ (((y + 1)) = (y) + 1 ∧ (((133 + k)) = 0 ∨ (61 ≤ ((133 + k)) ∧ ((133 + k)) < 73 ∧ ((133 + k)) % 2 = 0)))) := by intros; omega
theorem dW_481 (x y : Nat) (hxy : x + 76 ≤ y) : ∀ j : Nat, j < 9 → ∀ k : Nat, k < 6 → ¬ (((x + 28 + 6 + 1 * j)) = (x) + 24 ∨ ((x + 28 + 6 + 1 * j)) = (x) + 27 ∨ ((x) + 58 ≤ ((x + 28 + 6 + 1 * j)) ∧ ((x + 28 + 6 + 1 * j)) ≤ (x) + 67) ∨ (((x + 28 + 6 + 1 * j)) = (x) + 1 ∧ (k) = 0) ∨ ((x) + 16 ≤ ((x + 28 + 6 + 1 * j)) ∧ ((x + 28 + 6 + 1 * j)) < (x) + 22 ∧ (k) = 1)) := by intros; omega
theorem dW_482 (x y : Nat) (hxy : x + 76 ≤ y) : ∀ k : Nat, 7 ≤ k → k < 61 → ¬ ((((y + 2)) = (y) + 3 ∨ ((y) + 7 ≤ ((y + 2)) ∧ ((y + 2)) ≤ (y) + 11)) ∨ (((y + 2)) = (y) + 1 ∧ ((k) = 0 ∨ (61 ≤ (k) ∧ (k) < 73 ∧ (k) % 2 = 0)))) := by intros; omega
theorem dW_483 (x y : Nat) (hxy : x + 76 ≤ y) : ∀ j : Nat, j < 6 → ¬ (((x + 28 + 15 + 1 * j)) = (x) + 24 ∨ ((x + 28 + 15 + 1 * j)) = (x) + 27 ∨ ((x) + 58 ≤ ((x + 28 + 15 + 1 * j)) ∧ ((x + 28 + 15 + 1 * j)) ≤ (x) + 67) ∨ (((x + 28 + 15 + 1 * j)) = (x) + 1 ∧ (0) = 0) ∨ ((x) + 16 ≤ ((x + 28 + 15 + 1 * j)) ∧ ((x + 28 + 15 + 1 * j)) < (x) + 22 ∧ (0) = 1)) := by intros; omega
theorem dW_484 (x y : Nat) (hxy : x + 76 ≤ y) : ∀ j : Nat, j < 6 → ¬ ((((y + 2)) = (y) + 3 ∨ ((y) + 7 ≤ ((y + 2)) ∧ ((y + 2)) ≤ (y) + 11)) ∨ (((y + 2)) = (y) + 1 ∧ (((61 + 2 * j + 0)) = 0 ∨ (61 ≤ ((61 + 2 * j + 0)) ∧ ((61 + 2 * j + 0)) < 73 ∧ ((61 + 2 * j + 0)) % 2 = 0)))) := by intros; omega
theorem dW_485 (x y : Nat) (hxy : x + 76 ≤ y) : ¬ (((x + 28)) = (x) + 24 ∨ ((x + 28)) = (x) + 27 ∨ ((x) + 58 ≤ ((x + 28)) ∧ ((x + 28)) ≤ (x) + 67) ∨ (((x + 28)) = (x) + 1 ∧ (9) = 0) ∨ ((x) + 16 ≤ ((x + 28)) ∧ ((x + 28)) < (x) + 22 ∧ (9) = 1)) := by omega
theorem dW_486 (x y : Nat) (hxy : x + 76 ≤ y) : ∀ k : Nat, ¬ (((x + 28 + 4)) = (x) + 24 ∨ ((x + 28 + 4)) = (x) + 27 ∨ ((x) + 58 ≤ ((x + 28 + 4)) ∧ ((x + 28 + 4)) ≤ (x) + 67) ∨ (((x + 28 + 4)) = (x) + 1 ∧ (k) = 0) ∨ ((x) + 16 ≤ ((x + 28 + 4)) ∧ ((x + 28 + 4)) < (x) + 22 ∧ (k) = 1)) := by intros; omega
theorem dW_487 (x y : Nat) (hxy : x + 76 ≤ y) : ¬ ((((y + 2)) = (y) + 3 ∨ ((y) + 7 ≤ ((y + 2)) ∧ ((y + 2)) ≤ (y) + 11)) ∨ (((y + 2)) = (y) + 1 ∧ ((5) = 0 ∨ (61 ≤ (5) ∧ (5) < 73 ∧ (5) % 2 = 0)))) := by omega
theorem dW_488 (x y : Nat) (hxy : x + 76 ≤ y) : ∀ k : Nat, k < 60 → ¬ ((((y + 2)) = (y) + 3 ∨ ((y) + 7 ≤ ((y + 2)) ∧ ((y + 2)) ≤ (y) + 11)) ∨ (((y + 2)) = (y) + 1 ∧ (((73 + k)) = 0 ∨ (61 ≤ ((73 + k)) ∧ ((73 + k)) < 73 ∧ ((73 + k)) % 2 = 0)))) := by intros; omega
theorem dW_489 (x y : Nat) (hxy : x + 76 ≤ y) : ∀ a : Nat, (a = x + 28 + 21 ∨ a = x + 28 + 22 ∨ a = x + 28 + 24 ∨ a = x + 28 + 25) → ∀ k : Nat, ¬ ((a) = (x) + 24 ∨ (a) = (x) + 27 ∨ ((x) + 58 ≤ (a) ∧ (a) ≤ (x) + 67) ∨ ((a) = (x) + 1 ∧ (k) = 0) ∨ ((x) + 16 ≤ (a) ∧ (a) < (x) + 22 ∧ (k) = 1)) := by intros; omega
theorem dW_490 (x y : Nat) (hxy : x + 76 ≤ y) : ∀ k : Nat, 157 ≤ k → ¬ ((((y + 2)) = (y) + 3 ∨ ((y) + 7 ≤ ((y + 2)) ∧ ((y + 2)) ≤ (y) + 11)) ∨ (((y + 2)) = (y) + 1 ∧ ((k) = 0 ∨ (61 ≤ (k) ∧ (k) < 73 ∧ (k) % 2 = 0)))) := by intros; omega
theorem dW_491 (x y : Nat) (hxy : x + 76 ≤ y) : ∀ j : Nat, j < 6 → ¬ (((x + 28 + 15 + 1 * j)) = (x) + 24 ∨ ((x + 28 + 15 + 1 * j)) = (x) + 27 ∨ ((x) + 58 ≤ ((x + 28 + 15 + 1 * j)) ∧ ((x + 28 + 15 + 1 * j)) ≤ (x) + 67) ∨ (((x + 28 + 15 + 1 * j)) = (x) + 1 ∧ (1) = 0) ∨ ((x) + 16 ≤ ((x + 28 + 15 + 1 * j)) ∧ ((x + 28 + 15 + 1 * j)) < (x) + 22 ∧ (1) = 1)) := by intros; omega
theorem dW_492 (x y : Nat) (hxy : x + 76 ≤ y) : ∀ j : Nat, j < 6 → ¬ ((((y + 2)) = (y) + 3 ∨ ((y) + 7 ≤ ((y + 2)) ∧ ((y + 2)) ≤ (y) + 11)) ∨ (((y + 2)) = (y) + 1 ∧ (((61 + 2 * j + 1)) = 0 ∨ (61 ≤ ((61 + 2 * j + 1)) ∧ ((61 + 2 * j + 1)) < 73 ∧ ((61 + 2 * j + 1)) % 2 = 0)))) := by intros; omega
theorem dW_493 (x y : Nat) (hxy : x + 76 ≤ y) : ¬ (((x + 28)) = (x) + 24 ∨ ((x + 28)) = (x) + 27 ∨ ((x) + 58 ≤ ((x + 28)) ∧ ((x + 28)) ≤ (x) + 67) ∨ (((x + 28)) = (x) + 1 ∧ (11) = 0) ∨ ((x) + 16 ≤ ((x + 28)) ∧ ((x + 28)) < (x) + 22 ∧ (11) = 1)) := by omega
theorem dW_494 (x y : Nat) (hxy : x + 76 ≤ y) : ∀ k : Nat, k < 24 → ¬ (((x + 28 + 5)) = (x) + 24 ∨ ((x + 28 + 5)) = (x) + 27 ∨ ((x) + 58 ≤ ((x + 28 + 5)) ∧ ((x + 28 + 5)) ≤ (x) + 67) ∨ (((x + 28 + 5)) = (x) + 1 ∧ ((0 + k)) = 0) ∨ ((x) + 16 ≤ ((x + 28 + 5)) ∧ ((x + 28 + 5)) < (x) + 22 ∧ ((0 + k)) = 1)) := by intros; omega
theorem dW_495 (x y : Nat) (hxy : x + 76 ≤ y) : ¬ ((((y + 2)) = (y) + 3 ∨ ((y) + 7 ≤ ((y + 2)) ∧ ((y + 2)) ≤ (y) + 11)) ∨ (((y + 2)) = (y) + 1 ∧ ((6) = 0 ∨ (61 ≤ (6) ∧ (6) < 73 ∧ (6) % 2 = 0)))) := by omega
theorem dW_496 (x y : Nat) (hxy : x + 76 ≤ y) : ∀ k : Nat, k < 24 → ¬ ((((y + 2)) = (y) + 3 ∨ ((y) + 7 ≤ ((y + 2)) ∧ ((y + 2)) ≤ (y) + 11)) ∨ (((y + 2)) = (y) + 1 ∧ (((133 + k)) = 0 ∨ (61 ≤ ((133 + k)) ∧ ((133 + k)) < 73 ∧ ((133 + k)) % 2 = 0)))) := by intros; omega
set_option maxHeartbeats 4000000 in
set_option maxRecDepth 100000 in
theorem lc_hours {p : Program} {l : Launch} {e : Env} {s : State} {m : MethodId} {below : List Frame} {meth : Method} {c : Code} {b L x y : Nat} {xs : Nat → Int32} {E : zz_E} {Q : State → Prop} (hA : zz_LA p s m c b L xs E x y) (i : Int32) (hi : 0 ≤ i.toInt ∧ i.toInt + 6 ≤ L) (σ : zz_S) (H : Heap) (locs : List Loc) (ls : Array Slot) (hR : zz_RL σ x y) (hQ : zz_RD σ x y) (hP : zz_P E σ H) (hS : va_S (zz_A E) s.heap H locs) (hl : lv_has ls 4 [(0, .ref b), (1, .ref x), (2, .ref y), (3, .int i)])
    (kk : ∀ (σ1 : zz_S) (H1 : Heap) (locs1 : List Loc), zz_RL σ1 x y → zz_RD σ1 x y → zz_P E σ1 H1 → va_S (zz_A E) s.heap H1 locs1 → W p l e room_1 s m #[Value.ref b] below meth c H1 locs1 600000 7302250 Q (F0 m 1384 ls [])) : W p l e room_1 s m #[Value.ref b] below meth c H locs 600000 7302250 Q (F0 m 659 ls []) := by
  obtain ⟨hx, hb, hml, hown, hts, hX, hbl, hbE, hL, gL, gM, hxy, hK⟩ := hA
  have hbA : ¬ zz_A E b := fun h => absurd (hbE b h) (Nat.not_le.mpr hbl)
  have k_1 : (1 : Int32).toInt = 1 := by decide +kernel
  refine lv_aload_n hx hb dL_law_659 rfl (lv_at hl 1 rfl) ?_
  refine lv_aload_n hx hb dL_law_660 rfl (lv_at hl 0 rfl) ?_
  refine lv_iload_n hx hb dL_law_661 rfl (lv_at hl 3 rfl) ?_
  refine lv_iconst (v := 1) hx hb dL_law_662 (by decide) ?_
  refine lv_iadd hx hb dL_law_663 ?_
  refine lv_topi (fun n1 e1 => ?_)
  have f1 : n1.toInt = (i).toInt + (1 : Int32).toInt := zz_addT e1 (by omega) (by omega)
  refine va_sld hx hb hX hbl hbA hS (vp_in_iff.mpr ⟨by omega, by omega⟩) dL_law_664 ?_
  refine lv_topi (fun v2 u2 => ?_)
  refine zz_callVi (As := [.int v2]) (rest := []) ⟨hx, hb, hml, hown, hts⟩ hK hP hS (c_X8_hours l E σ x v2 gL hR.1 (zy_KK σ x y) (zy_KX hR hQ) (zy_FBX hQ)) (cwV 1 hts gL_law_X8_hours rfl rfl rfl (by decide +kernel) ⟨Nat.le_of_ble_eq_true rfl, Nat.le_of_ble_eq_true rfl⟩) (gL.1) rfl rfl hl.1 rfl (Nat.le_of_ble_eq_true rfl) dL_law_665 ⟨Nat.le_refl _, Nat.le_refl _⟩ (fun r1 σ1 H locs q1 hP hS => ?_)
  try dsimp only at q1
  obtain ⟨w1, p1⟩ := q1
  have B : ∀ a k : Nat, y ≤ a → a ≤ y + 12 → σ1 a k = σ a k := fun a k h1 h2 => w1 a k ((dW_443 x y hxy) a k h1 h2)
  have hJ1 : zz_IM σ1 y := hR.2.1.far B
  refine lv_pop hx hb dL_law_668 rfl ?_
  refine lv_aload_n hx hb dL_law_669 rfl (lv_at hl 2 rfl) ?_
  refine lv_aload_n hx hb dL_law_670 rfl (lv_at hl 0 rfl) ?_
  refine lv_iload_n hx hb dL_law_671 rfl (lv_at hl 3 rfl) ?_
  refine lv_iconst (v := 1) hx hb dL_law_672 (by decide) ?_
  refine lv_iadd hx hb dL_law_673 ?_
  refine lv_topi (fun n4 e4 => ?_)
  have f4 : n4.toInt = (i).toInt + (1 : Int32).toInt := zz_addT e4 (by omega) (by omega)
  refine va_sld hx hb hX hbl hbA hS (vp_in_iff.mpr ⟨by omega, by omega⟩) dL_law_674 ?_
  refine lv_topi (fun v5 u5 => ?_)
  have z5 : v5 = v2 := by rw [u5, u2, e4, e1]
  have zt5 := congrArg Int32.toInt z5
  refine zz_callVi (As := [.int v5]) (rest := []) ⟨hx, hb, hml, hown, hts⟩ hK hP hS (c_X9_hours l E σ1 y v5 gM hJ1 (zy_KK σ x y) (zy_KY hR hQ B) (zy_FBM hQ B)) (cwV 1 hts gL_law_X9_hours rfl rfl rfl (by decide +kernel) ⟨Nat.le_of_ble_eq_true rfl, Nat.le_of_ble_eq_true rfl⟩) (gM.1) rfl rfl hl.1 rfl (Nat.le_of_ble_eq_true rfl) dL_law_675 ⟨Nat.le_refl _, Nat.le_refl _⟩ (fun r2 σ2 H locs q2 hP hS => ?_)
  try dsimp only at q2
  obtain ⟨w2, p2⟩ := q2
  have A : ∀ a k : Nat, x ≤ a → a < x + 76 → σ2 a k = σ1 a k := fun a k h1 h2 => w2 a k ((dW_444 x y hxy) a k h1 h2)
  obtain ⟨i1, p1⟩ := p1
  obtain ⟨i2, p2⟩ := p2
  try simp only [z5] at p2
  obtain ⟨h0, h1, h2, h3, h4, h5, h6⟩ := hR.2.2.1
  have ga0 := congrArg Int32.toInt (A (x + 1) 0 (by omega) (by omega))
  have gb0 := congrArg Int32.toInt (B (y + 1) 0 (by omega) (by omega))
  have rr2 : zz_RR σ2 (x + 1) (y + 1) := ⟨by omega, (congrArg Int32.toInt (A (x + 1) 1 (by omega) (by omega))).trans ((congrArg Int32.toInt (w1 (x + 1) 1 (dW_449 x y hxy))).trans (h1.trans ((congrArg Int32.toInt (B (y + 1) 4 (by omega) (by omega))).symm.trans (congrArg Int32.toInt (w2 (y + 1) 4 (dW_450 x y hxy))).symm))), (congrArg Int32.toInt (A (x + 1) 2 (by omega) (by omega))).trans ((congrArg Int32.toInt (w1 (x + 1) 2 (dW_451 x y hxy))).trans (h2.trans ((congrArg Int32.toInt (B (y + 1) 1 (by omega) (by omega))).symm.trans (congrArg Int32.toInt (w2 (y + 1) 1 (dW_452 x y hxy))).symm))), (congrArg Int32.toInt (A (x + 1) 4 (by omega) (by omega))).trans ((congrArg Int32.toInt (w1 (x + 1) 4 (dW_453 x y hxy))).trans (h3.trans ((congrArg Int32.toInt (B (y + 1) 2 (by omega) (by omega))).symm.trans (congrArg Int32.toInt (w2 (y + 1) 2 (dW_454 x y hxy))).symm))), (congrArg Int32.toInt (A (x + 1) 6 (by omega) (by omega))).trans ((congrArg Int32.toInt (w1 (x + 1) 6 (dW_455 x y hxy))).trans (h4.trans ((congrArg Int32.toInt (B (y + 1) 3 (by omega) (by omega))).symm.trans (congrArg Int32.toInt (w2 (y + 1) 3 (dW_456 x y hxy))).symm))), (congrArg Int32.toInt (A (x + 1) 9 (by omega) (by omega))).trans ((congrArg Int32.toInt (w1 (x + 1) 9 (dW_457 x y hxy))).trans (h5.trans ((congrArg Int32.toInt (B (y + 1) 5 (by omega) (by omega))).symm.trans (congrArg Int32.toInt (w2 (y + 1) 5 (dW_458 x y hxy))).symm))), (congrArg Int32.toInt (A (x + 1) 11 (by omega) (by omega))).trans ((congrArg Int32.toInt (w1 (x + 1) 11 (dW_459 x y hxy))).trans (h6.trans ((congrArg Int32.toInt (B (y + 1) 6 (by omega) (by omega))).symm.trans (congrArg Int32.toInt (w2 (y + 1) 6 (dW_460 x y hxy))).symm)))⟩
  have hRL : zz_RL σ2 x y := hR.real i1 i2 A B rr2 (fun k => w1 (x + 28) k ((dW_445 x y hxy) k)) (w1 x 2 (dW_446 x y hxy)) (fun k => w2 (y + 2) k ((dW_447 x y hxy) k)) (w2 y 2 (dW_448 x y hxy))
  obtain ⟨hqD, hqW, hqK, hqB, hqN, hqC, hqL, hqT, hqP, hqX, hqF, hqG, hqV⟩ := hQ
  obtain ⟨aD, aW, aKD, aKW, aB, aN, aC, aL, aT, aP, aX, aKP, aKX⟩ := zz_aX A
  obtain ⟨bD, bW, bKD, bKW, bB, bN, bC, bL, bT, bP, bX, bKP, bKX⟩ := zz_bM hR.2.1 B
  obtain ⟨aF, aKF, aV, aKV⟩ := zy_aX2 A
  obtain ⟨bF, bKF, bV, bKV⟩ := zy_bM2 B
  have rD : zz_DX σ2 (x + 1) = zz_DM σ2 (y + 1) := by rw [aD, zz_DXk (r := x + 1) w1 (dW_461 x y hxy), zz_DMk (a := y + 1) w2 (dW_462 x y hxy), bD, hqD]
  have rW : zz_PX 0 σ2 (x + 1) = zz_PM 0 σ2 (y + 1) := by rw [aW, zz_PXk (f := 0) (r := x + 1) w1 (dW_463 x y hxy), zz_PMk (f := 0) (a := y + 1) w2 (dW_464 x y hxy), bW, hqW]
  have rB : zz_HX 0 σ2 x = zz_HM σ2 (y + 4) := by rw [aB, zz_HX.eq (f := 0) (x := x) (fun j hj => w1 _ _ ((dW_465 x y hxy) j hj)), zz_HM.eq (a := y + 4) (fun j hj => w2 _ _ ((dW_466 x y hxy) j hj)), bB, hqB]
  have rN : zz_HX 1 σ2 x = zz_HM σ2 (y + 5) := by rw [aN, zz_HX.eq (f := 1) (x := x) (fun j hj => w1 _ _ ((dW_467 x y hxy) j hj)), zz_HM.eq (a := y + 5) (fun j hj => w2 _ _ ((dW_468 x y hxy) j hj)), bN, hqN]
  have rC : zz_CX σ2 x = zz_CM σ2 (y + 6) := by rw [aC, zz_CX.eq (x := x) (fun j hj k hk => w1 _ _ ((dW_469 x y hxy) j hj k hk)), zz_CM.eq (a := y + 6) (fun k hk => w2 _ _ ((dW_470 x y hxy) k hk)), bC, hqC]
  have rL : (σ2 (x + 56) 1).toInt = (σ2 y 18).toInt := by rw [aL, congrArg Int32.toInt (w1 (x + 56) 1 (dW_471 x y hxy)), congrArg Int32.toInt (w2 y 18 (dW_472 x y hxy)), bL, hqL]
  have rT : zz_TV σ2 (x + 56 + 1) = zz_TV σ2 (y + 12) := by rw [aT, zz_TV.eq (a := x + 56 + 1) (b := x + 56 + 1) (fun k _ => w1 _ k ((dW_473 x y hxy) k)), zz_TV.eq (a := y + 12) (b := y + 12) (fun k _ => w2 _ k ((dW_474 x y hxy) k)), bT, hqT]
  have rP : zz_Tp σ2 (x + 1 + 4) (σ2 (x + 1) 9).toInt = zz_Tm σ2 (y + 1) := by rw [aP, zz_Tp.all (a := x + 1 + 4) (b := x + 1 + 4) (congrArg Int32.toInt (w1 (x + 1) 9 (dW_457 x y hxy))) (fun k => w1 _ k ((dW_475 x y hxy) k)), zz_Tm.eq (a := y + 1) (b := y + 1) (w2 (y + 1) 5 (dW_458 x y hxy)) hJ1.1.2.2.2.2.1.2 (fun k hk => w2 (y + 1) (73 + k) ((dW_476 x y hxy) k hk)), bP, hqP]
  have rX : zz_tts (zz_XT σ2 (x + 1)) (zz_MT σ2 (y + 1)) := by rw [aX, zz_XT.all (r := x + 1) (fun a ha k => w1 a k ((dW_477 x y hxy) a ha k)), zz_MT.hi (a := y + 1) (b := y + 1) (fun k hk => w2 (y + 1) k ((dW_478 x y hxy) k hk)), bX]; exact hqX
  have rV : zy_wv σ2 (x + 1 + 5) 0 (σ2 (x + 1) 11).toInt = zy_wv σ2 (y + 1) 133 (σ2 (y + 1) 6).toInt := by rw [aV, zy_wv.eq (a := x + 1 + 5) (a1 := x + 1 + 5) (b := 0) (b1 := 0) (congrArg Int32.toInt (w1 (x + 1) 11 (dW_459 x y hxy))) (fun k hk => w1 (x + 1 + 5) (0 + k) ((dW_479 x y hxy) k hk)), zy_wv.eq (a := y + 1) (a1 := y + 1) (b := 133) (b1 := 133) (congrArg Int32.toInt (w2 (y + 1) 6 (dW_460 x y hxy))) (fun k hk => w2 (y + 1) (133 + k) ((dW_480 x y hxy) k hk)), bV, hqV]
  have rK : (σ2 x 2).toInt = 0 ∨ (zz_DX σ2 (x + 28) = zz_DM σ2 (y + 2) ∧ zz_PX 0 σ2 (x + 28) = zz_PM 0 σ2 (y + 2) ∧ zz_Tp σ2 (x + 28 + 4) (σ2 (x + 28) 9).toInt = zz_Tm σ2 (y + 2) ∧ zz_tts (zz_XT σ2 (x + 28)) (zz_MT σ2 (y + 2)) ∧ zz_PX 1 σ2 (x + 28) = zz_PM 1 σ2 (y + 2) ∧ zy_FB (zz_PM 1 σ2 (y + 2)) ∧ zy_wv σ2 (x + 28 + 5) 0 (σ2 (x + 28) 11).toInt = zy_wv σ2 (y + 2) 133 (σ2 (y + 2) 6).toInt) := hqK.elim (fun q => Or.inl ((congrArg Int32.toInt ((A x 2 (by omega) (by omega)).trans (w1 x 2 (dW_446 x y hxy)))).trans q)) (fun q => Or.inr ⟨by rw [aKD, zz_DXk (r := x + 28) w1 (dW_481 x y hxy), zz_DMk (a := y + 2) w2 (dW_482 x y hxy), bKD, q.1], by rw [aKW, zz_PXk (f := 0) (r := x + 28) w1 (dW_483 x y hxy), zz_PMk (f := 0) (a := y + 2) w2 (dW_484 x y hxy), bKW, q.2.1], by rw [aKP, zz_Tp.all (a := x + 28 + 4) (b := x + 28 + 4) (congrArg Int32.toInt (w1 (x + 28) 9 (dW_485 x y hxy))) (fun k => w1 _ k ((dW_486 x y hxy) k)), zz_Tm.eq (a := y + 2) (b := y + 2) (w2 (y + 2) 5 (dW_487 x y hxy)) hJ1.2.1.2.2.2.2.1.2 (fun k hk => w2 (y + 2) (73 + k) ((dW_488 x y hxy) k hk)), bKP, q.2.2.1], by rw [aKX, zz_XT.all (r := x + 28) (fun a ha k => w1 a k ((dW_489 x y hxy) a ha k)), zz_MT.hi (a := y + 2) (b := y + 2) (fun k hk => w2 (y + 2) k ((dW_490 x y hxy) k hk)), bKX]; exact q.2.2.2.1, by rw [aKF, zz_PXk (f := 1) (r := x + 28) w1 (dW_491 x y hxy), zz_PMk (f := 1) (a := y + 2) w2 (dW_492 x y hxy), bKF, q.2.2.2.2.1], by rw [zz_PMk (f := 1) (a := y + 2) w2 (dW_492 x y hxy), bKF]; exact q.2.2.2.2.2.1, by rw [aKV, zy_wv.eq (a := x + 28 + 5) (a1 := x + 28 + 5) (b := 0) (b1 := 0) (congrArg Int32.toInt (w1 (x + 28) 11 (dW_493 x y hxy))) (fun k hk => w1 (x + 28 + 5) (0 + k) ((dW_494 x y hxy) k hk)), zy_wv.eq (a := y + 2) (a1 := y + 2) (b := 133) (b1 := 133) (congrArg Int32.toInt (w2 (y + 2) 6 (dW_495 x y hxy))) (fun k hk => w2 (y + 2) (133 + k) ((dW_496 x y hxy) k hk)), bKV, q.2.2.2.2.2.2]⟩)
  have gc6 : (σ (x + 1) 6).toInt = (σ1 (y + 1) 3).toInt := hR.2.2.1.2.2.2.2.1.trans (congrArg Int32.toInt (B (y + 1) 3 (by omega) (by omega))).symm
  have gh9 : (σ1 (y + 1) 0).toInt = (σ (x + 1) 0).toInt := (congrArg Int32.toInt (B (y + 1) 0 (by omega) (by omega))).trans hR.2.2.1.1.symm
  have eW : zz_PX 0 σ (x + 1) = zz_PM 0 σ1 (y + 1) := hqW.trans bW.symm
  have eF : zz_PX 1 σ (x + 1) = zz_PM 1 σ1 (y + 1) := hqF.trans bF.symm
  have hG1 : zy_FB (zz_PM 1 σ1 (y + 1)) := by rw [bF]; exact hqG
  have hrr0 : r1.toInt = r2.toInt := by omega
  have rFG : zz_PX 1 σ2 (x + 1) = zz_PM 1 σ2 (y + 1) ∧ zy_FB (zz_PM 1 σ2 (y + 1)) := by
    by_cases q : r1.toInt < 0
    · exact ⟨by rw [aF, p1.2.1 q, p2.2.1 (by omega), eF], by rw [p2.2.1 (by omega)]; exact hG1⟩
    · exact ⟨by rw [aF, p1.2.2 (by omega), p2.2.2 (by omega), eW, eF, gc6, gh9], by rw [p2.2.2 (by omega)]; exact hG1.hs _ _ _⟩
  obtain ⟨rF, rG⟩ := rFG
  have hQ2 : zz_RD σ2 x y := ⟨rD, rW, rK, rB, rN, rC, rL, rT, rP, rX, rF, rG, rV⟩
  refine lv_pop hx hb dL_law_678 rfl ?_
  refine lv_goto (tgt := 1384) hx hb dL_law_679 (by decide) ?_
  exact kk _ _ _ hRL hQ2 hP hS
theorem gL_law_X8_loose : GoodIn wsL_law (wsV RL 76 RX8 yX8_loose wzX8_loose) := wz_coL bm_597 (wz_coL bm_598 (wz_coL bm_599 (wz_coL bm_2 (wz_inL bm_600))))
theorem gL_law_X9_loose : GoodIn wsL_law (wsV RL 79 RX9 yX9_loose wzX9_loose) := wz_coL bm_611 (wz_coL bm_612 (wz_coL bm_613 (wz_coL bm_5 (wz_inL bm_614))))
theorem dW_497 (x y : Nat) (hxy : x + 76 ≤ y) : ∀ a k : Nat, y ≤ a → a ≤ y + 12 → ¬ ((a) = (x) + 24 ∨ (a) = (x) + 27 ∨ ((x) + 58 ≤ (a) ∧ (a) ≤ (x) + 67) ∨ ((a) = (x) + 1 ∧ ((k) = 0 ∨ (k) = 2 ∨ (k) = 4)) ∨ ((x) + 7 ≤ (a) ∧ (a) < (x) + 16) ∨ ((x) + 16 ≤ (a) ∧ (a) < (x) + 22 ∧ (k) = 1)) := by intros; omega
theorem dW_498 (x y : Nat) (hxy : x + 76 ≤ y) : ∀ a k : Nat, x ≤ a → a < x + 76 → ¬ (((a) = (y) + 3 ∨ ((y) + 7 ≤ (a) ∧ (a) ≤ (y) + 11)) ∨ ((a) = (y) + 1 ∧ ((k) = 0 ∨ (k) = 1 ∨ (k) = 2 ∨ (7 ≤ (k) ∧ (k) < 61) ∨ (61 ≤ (k) ∧ (k) < 73 ∧ (k) % 2 = 0)))) := by intros; omega
theorem dW_499 (x y : Nat) (hxy : x + 76 ≤ y) : ∀ k : Nat, ¬ (((x + 28)) = (x) + 24 ∨ ((x + 28)) = (x) + 27 ∨ ((x) + 58 ≤ ((x + 28)) ∧ ((x + 28)) ≤ (x) + 67) ∨ (((x + 28)) = (x) + 1 ∧ ((k) = 0 ∨ (k) = 2 ∨ (k) = 4)) ∨ ((x) + 7 ≤ ((x + 28)) ∧ ((x + 28)) < (x) + 16) ∨ ((x) + 16 ≤ ((x + 28)) ∧ ((x + 28)) < (x) + 22 ∧ (k) = 1)) := by intros; omega
theorem dW_500 (x y : Nat) (hxy : x + 76 ≤ y) : ¬ ((x) = (x) + 24 ∨ (x) = (x) + 27 ∨ ((x) + 58 ≤ (x) ∧ (x) ≤ (x) + 67) ∨ ((x) = (x) + 1 ∧ ((2) = 0 ∨ (2) = 2 ∨ (2) = 4)) ∨ ((x) + 7 ≤ (x) ∧ (x) < (x) + 16) ∨ ((x) + 16 ≤ (x) ∧ (x) < (x) + 22 ∧ (2) = 1)) := by omega
theorem dW_501 (x y : Nat) (hxy : x + 76 ≤ y) : ∀ k : Nat, ¬ ((((y + 2)) = (y) + 3 ∨ ((y) + 7 ≤ ((y + 2)) ∧ ((y + 2)) ≤ (y) + 11)) ∨ (((y + 2)) = (y) + 1 ∧ ((k) = 0 ∨ (k) = 1 ∨ (k) = 2 ∨ (7 ≤ (k) ∧ (k) < 61) ∨ (61 ≤ (k) ∧ (k) < 73 ∧ (k) % 2 = 0)))) := by intros; omega
theorem dW_502 (x y : Nat) (hxy : x + 76 ≤ y) : ¬ (((y) = (y) + 3 ∨ ((y) + 7 ≤ (y) ∧ (y) ≤ (y) + 11)) ∨ ((y) = (y) + 1 ∧ ((2) = 0 ∨ (2) = 1 ∨ (2) = 2 ∨ (7 ≤ (2) ∧ (2) < 61) ∨ (61 ≤ (2) ∧ (2) < 73 ∧ (2) % 2 = 0)))) := by omega
theorem dW_503 (x y : Nat) (hxy : x + 76 ≤ y) : ¬ (((x + 1)) = (x) + 24 ∨ ((x + 1)) = (x) + 27 ∨ ((x) + 58 ≤ ((x + 1)) ∧ ((x + 1)) ≤ (x) + 67) ∨ (((x + 1)) = (x) + 1 ∧ ((1) = 0 ∨ (1) = 2 ∨ (1) = 4)) ∨ ((x) + 7 ≤ ((x + 1)) ∧ ((x + 1)) < (x) + 16) ∨ ((x) + 16 ≤ ((x + 1)) ∧ ((x + 1)) < (x) + 22 ∧ (1) = 1)) := by omega
theorem dW_504 (x y : Nat) (hxy : x + 76 ≤ y) : ¬ ((((y + 1)) = (y) + 3 ∨ ((y) + 7 ≤ ((y + 1)) ∧ ((y + 1)) ≤ (y) + 11)) ∨ (((y + 1)) = (y) + 1 ∧ ((4) = 0 ∨ (4) = 1 ∨ (4) = 2 ∨ (7 ≤ (4) ∧ (4) < 61) ∨ (61 ≤ (4) ∧ (4) < 73 ∧ (4) % 2 = 0)))) := by omega
theorem dW_505 (x y : Nat) (hxy : x + 76 ≤ y) : ¬ (((x + 1)) = (x) + 24 ∨ ((x + 1)) = (x) + 27 ∨ ((x) + 58 ≤ ((x + 1)) ∧ ((x + 1)) ≤ (x) + 67) ∨ (((x + 1)) = (x) + 1 ∧ ((6) = 0 ∨ (6) = 2 ∨ (6) = 4)) ∨ ((x) + 7 ≤ ((x + 1)) ∧ ((x + 1)) < (x) + 16) ∨ ((x) + 16 ≤ ((x + 1)) ∧ ((x + 1)) < (x) + 22 ∧ (6) = 1)) := by omega
theorem dW_506 (x y : Nat) (hxy : x + 76 ≤ y) : ¬ ((((y + 1)) = (y) + 3 ∨ ((y) + 7 ≤ ((y + 1)) ∧ ((y + 1)) ≤ (y) + 11)) ∨ (((y + 1)) = (y) + 1 ∧ ((3) = 0 ∨ (3) = 1 ∨ (3) = 2 ∨ (7 ≤ (3) ∧ (3) < 61) ∨ (61 ≤ (3) ∧ (3) < 73 ∧ (3) % 2 = 0)))) := by omega
theorem dW_507 (x y : Nat) (hxy : x + 76 ≤ y) : ¬ (((x + 1)) = (x) + 24 ∨ ((x + 1)) = (x) + 27 ∨ ((x) + 58 ≤ ((x + 1)) ∧ ((x + 1)) ≤ (x) + 67) ∨ (((x + 1)) = (x) + 1 ∧ ((9) = 0 ∨ (9) = 2 ∨ (9) = 4)) ∨ ((x) + 7 ≤ ((x + 1)) ∧ ((x + 1)) < (x) + 16) ∨ ((x) + 16 ≤ ((x + 1)) ∧ ((x + 1)) < (x) + 22 ∧ (9) = 1)) := by omega
theorem dW_508 (x y : Nat) (hxy : x + 76 ≤ y) : ¬ ((((y + 1)) = (y) + 3 ∨ ((y) + 7 ≤ ((y + 1)) ∧ ((y + 1)) ≤ (y) + 11)) ∨ (((y + 1)) = (y) + 1 ∧ ((5) = 0 ∨ (5) = 1 ∨ (5) = 2 ∨ (7 ≤ (5) ∧ (5) < 61) ∨ (61 ≤ (5) ∧ (5) < 73 ∧ (5) % 2 = 0)))) := by omega
theorem dW_509 (x y : Nat) (hxy : x + 76 ≤ y) : ¬ (((x + 1)) = (x) + 24 ∨ ((x + 1)) = (x) + 27 ∨ ((x) + 58 ≤ ((x + 1)) ∧ ((x + 1)) ≤ (x) + 67) ∨ (((x + 1)) = (x) + 1 ∧ ((11) = 0 ∨ (11) = 2 ∨ (11) = 4)) ∨ ((x) + 7 ≤ ((x + 1)) ∧ ((x + 1)) < (x) + 16) ∨ ((x) + 16 ≤ ((x + 1)) ∧ ((x + 1)) < (x) + 22 ∧ (11) = 1)) := by omega
theorem dW_510 (x y : Nat) (hxy : x + 76 ≤ y) : ¬ ((((y + 1)) = (y) + 3 ∨ ((y) + 7 ≤ ((y + 1)) ∧ ((y + 1)) ≤ (y) + 11)) ∨ (((y + 1)) = (y) + 1 ∧ ((6) = 0 ∨ (6) = 1 ∨ (6) = 2 ∨ (7 ≤ (6) ∧ (6) < 61) ∨ (61 ≤ (6) ∧ (6) < 73 ∧ (6) % 2 = 0)))) := by omega
theorem dW_511 (x y : Nat) (hxy : x + 76 ≤ y) : ∀ j : Nat, j < 6 → ¬ (((x + 1 + 15 + 1 * j)) = (x) + 24 ∨ ((x + 1 + 15 + 1 * j)) = (x) + 27 ∨ ((x) + 58 ≤ ((x + 1 + 15 + 1 * j)) ∧ ((x + 1 + 15 + 1 * j)) ≤ (x) + 67) ∨ (((x + 1 + 15 + 1 * j)) = (x) + 1 ∧ ((0) = 0 ∨ (0) = 2 ∨ (0) = 4)) ∨ ((x) + 7 ≤ ((x + 1 + 15 + 1 * j)) ∧ ((x + 1 + 15 + 1 * j)) < (x) + 16) ∨ ((x) + 16 ≤ ((x + 1 + 15 + 1 * j)) ∧ ((x + 1 + 15 + 1 * j)) < (x) + 22 ∧ (0) = 1)) := by intros; omega
theorem dW_512 (x y : Nat) (hxy : x + 76 ≤ y) : ∀ j : Nat, j < 6 → ¬ ((((y + 1)) = (y) + 3 ∨ ((y) + 7 ≤ ((y + 1)) ∧ ((y + 1)) ≤ (y) + 11)) ∨ (((y + 1)) = (y) + 1 ∧ (((61 + 2 * j + 0)) = 0 ∨ ((61 + 2 * j + 0)) = 1 ∨ ((61 + 2 * j + 0)) = 2 ∨ (7 ≤ ((61 + 2 * j + 0)) ∧ ((61 + 2 * j + 0)) < 61) ∨ (61 ≤ ((61 + 2 * j + 0)) ∧ ((61 + 2 * j + 0)) < 73 ∧ ((61 + 2 * j + 0)) % 2 = 0)))) := by intros; omega
theorem dW_513 (x y : Nat) (hxy : x + 76 ≤ y) : ∀ j : Nat, j < 4 → ¬ (((x + 68 + 2 * j)) = (x) + 24 ∨ ((x + 68 + 2 * j)) = (x) + 27 ∨ ((x) + 58 ≤ ((x + 68 + 2 * j)) ∧ ((x + 68 + 2 * j)) ≤ (x) + 67) ∨ (((x + 68 + 2 * j)) = (x) + 1 ∧ ((0) = 0 ∨ (0) = 2 ∨ (0) = 4)) ∨ ((x) + 7 ≤ ((x + 68 + 2 * j)) ∧ ((x + 68 + 2 * j)) < (x) + 16) ∨ ((x) + 16 ≤ ((x + 68 + 2 * j)) ∧ ((x + 68 + 2 * j)) < (x) + 22 ∧ (0) = 1)) := by intros; omega
theorem dW_514 (x y : Nat) (hxy : x + 76 ≤ y) : ∀ j : Nat, j < 4 → ¬ ((((y + 4)) = (y) + 3 ∨ ((y) + 7 ≤ ((y + 4)) ∧ ((y + 4)) ≤ (y) + 11)) ∨ (((y + 4)) = (y) + 1 ∧ ((j) = 0 ∨ (j) = 1 ∨ (j) = 2 ∨ (7 ≤ (j) ∧ (j) < 61) ∨ (61 ≤ (j) ∧ (j) < 73 ∧ (j) % 2 = 0)))) := by intros; omega
theorem dW_515 (x y : Nat) (hxy : x + 76 ≤ y) : ∀ j : Nat, j < 4 → ¬ (((x + 68 + 2 * j)) = (x) + 24 ∨ ((x + 68 + 2 * j)) = (x) + 27 ∨ ((x) + 58 ≤ ((x + 68 + 2 * j)) ∧ ((x + 68 + 2 * j)) ≤ (x) + 67) ∨ (((x + 68 + 2 * j)) = (x) + 1 ∧ ((1) = 0 ∨ (1) = 2 ∨ (1) = 4)) ∨ ((x) + 7 ≤ ((x + 68 + 2 * j)) ∧ ((x + 68 + 2 * j)) < (x) + 16) ∨ ((x) + 16 ≤ ((x + 68 + 2 * j)) ∧ ((x + 68 + 2 * j)) < (x) + 22 ∧ (1) = 1)) := by intros; omega
theorem dW_516 (x y : Nat) (hxy : x + 76 ≤ y) : ∀ j : Nat, j < 4 → ¬ ((((y + 5)) = (y) + 3 ∨ ((y) + 7 ≤ ((y + 5)) ∧ ((y + 5)) ≤ (y) + 11)) ∨ (((y + 5)) = (y) + 1 ∧ ((j) = 0 ∨ (j) = 1 ∨ (j) = 2 ∨ (7 ≤ (j) ∧ (j) < 61) ∨ (61 ≤ (j) ∧ (j) < 73 ∧ (j) % 2 = 0)))) := by intros; omega
theorem dW_517 (x y : Nat) (hxy : x + 76 ≤ y) : ∀ j : Nat, j < 4 → ∀ k : Nat, k < 24 → ¬ (((x + 68 + 2 * j + 1)) = (x) + 24 ∨ ((x + 68 + 2 * j + 1)) = (x) + 27 ∨ ((x) + 58 ≤ ((x + 68 + 2 * j + 1)) ∧ ((x + 68 + 2 * j + 1)) ≤ (x) + 67) ∨ (((x + 68 + 2 * j + 1)) = (x) + 1 ∧ ((k) = 0 ∨ (k) = 2 ∨ (k) = 4)) ∨ ((x) + 7 ≤ ((x + 68 + 2 * j + 1)) ∧ ((x + 68 + 2 * j + 1)) < (x) + 16) ∨ ((x) + 16 ≤ ((x + 68 + 2 * j + 1)) ∧ ((x + 68 + 2 * j + 1)) < (x) + 22 ∧ (k) = 1)) := by intros; omega
theorem dW_518 (x y : Nat) (hxy : x + 76 ≤ y) : ∀ k : Nat, k < 96 → ¬ ((((y + 6)) = (y) + 3 ∨ ((y) + 7 ≤ ((y + 6)) ∧ ((y + 6)) ≤ (y) + 11)) ∨ (((y + 6)) = (y) + 1 ∧ ((k) = 0 ∨ (k) = 1 ∨ (k) = 2 ∨ (7 ≤ (k) ∧ (k) < 61) ∨ (61 ≤ (k) ∧ (k) < 73 ∧ (k) % 2 = 0)))) := by intros; omega
theorem dW_519 (x y : Nat) (hxy : x + 76 ≤ y) : ¬ (((x + 56)) = (x) + 24 ∨ ((x + 56)) = (x) + 27 ∨ ((x) + 58 ≤ ((x + 56)) ∧ ((x + 56)) ≤ (x) + 67) ∨ (((x + 56)) = (x) + 1 ∧ ((1) = 0 ∨ (1) = 2 ∨ (1) = 4)) ∨ ((x) + 7 ≤ ((x + 56)) ∧ ((x + 56)) < (x) + 16) ∨ ((x) + 16 ≤ ((x + 56)) ∧ ((x + 56)) < (x) + 22 ∧ (1) = 1)) := by omega
theorem dW_520 (x y : Nat) (hxy : x + 76 ≤ y) : ¬ (((y) = (y) + 3 ∨ ((y) + 7 ≤ (y) ∧ (y) ≤ (y) + 11)) ∨ ((y) = (y) + 1 ∧ ((18) = 0 ∨ (18) = 1 ∨ (18) = 2 ∨ (7 ≤ (18) ∧ (18) < 61) ∨ (61 ≤ (18) ∧ (18) < 73 ∧ (18) % 2 = 0)))) := by omega
theorem dW_521 (x y : Nat) (hxy : x + 76 ≤ y) : ∀ k : Nat, ¬ (((x + 56 + 1)) = (x) + 24 ∨ ((x + 56 + 1)) = (x) + 27 ∨ ((x) + 58 ≤ ((x + 56 + 1)) ∧ ((x + 56 + 1)) ≤ (x) + 67) ∨ (((x + 56 + 1)) = (x) + 1 ∧ ((k) = 0 ∨ (k) = 2 ∨ (k) = 4)) ∨ ((x) + 7 ≤ ((x + 56 + 1)) ∧ ((x + 56 + 1)) < (x) + 16) ∨ ((x) + 16 ≤ ((x + 56 + 1)) ∧ ((x + 56 + 1)) < (x) + 22 ∧ (k) = 1)) := by intros; omega
theorem dW_522 (x y : Nat) (hxy : x + 76 ≤ y) : ∀ k : Nat, ¬ ((((y + 12)) = (y) + 3 ∨ ((y) + 7 ≤ ((y + 12)) ∧ ((y + 12)) ≤ (y) + 11)) ∨ (((y + 12)) = (y) + 1 ∧ ((k) = 0 ∨ (k) = 1 ∨ (k) = 2 ∨ (7 ≤ (k) ∧ (k) < 61) ∨ (61 ≤ (k) ∧ (k) < 73 ∧ (k) % 2 = 0)))) := by intros; omega
theorem dW_523 (x y : Nat) (hxy : x + 76 ≤ y) : ∀ k : Nat, ¬ (((x + 1 + 4)) = (x) + 24 ∨ ((x + 1 + 4)) = (x) + 27 ∨ ((x) + 58 ≤ ((x + 1 + 4)) ∧ ((x + 1 + 4)) ≤ (x) + 67) ∨ (((x + 1 + 4)) = (x) + 1 ∧ ((k) = 0 ∨ (k) = 2 ∨ (k) = 4)) ∨ ((x) + 7 ≤ ((x + 1 + 4)) ∧ ((x + 1 + 4)) < (x) + 16) ∨ ((x) + 16 ≤ ((x + 1 + 4)) ∧ ((x + 1 + 4)) < (x) + 22 ∧ (k) = 1)) := by intros; omega
theorem dW_524 (x y : Nat) (hxy : x + 76 ≤ y) : ∀ k : Nat, k < 60 → ¬ ((((y + 1)) = (y) + 3 ∨ ((y) + 7 ≤ ((y + 1)) ∧ ((y + 1)) ≤ (y) + 11)) ∨ (((y + 1)) = (y) + 1 ∧ (((73 + k)) = 0 ∨ ((73 + k)) = 1 ∨ ((73 + k)) = 2 ∨ (7 ≤ ((73 + k)) ∧ ((73 + k)) < 61) ∨ (61 ≤ ((73 + k)) ∧ ((73 + k)) < 73 ∧ ((73 + k)) % 2 = 0)))) := by intros; omega
theorem dW_525 (x y : Nat) (hxy : x + 76 ≤ y) : ∀ a : Nat, (a = x + 1 + 21 ∨ a = x + 1 + 22 ∨ a = x + 1 + 24 ∨ a = x + 1 + 25) → ∀ k : Nat, ¬ ((a) = (x) + 24 ∨ (a) = (x) + 27 ∨ ((x) + 58 ≤ (a) ∧ (a) ≤ (x) + 67) ∨ ((a) = (x) + 1 ∧ ((k) = 0 ∨ (k) = 2 ∨ (k) = 4)) ∨ ((x) + 7 ≤ (a) ∧ (a) < (x) + 16) ∨ ((x) + 16 ≤ (a) ∧ (a) < (x) + 22 ∧ (k) = 1)) := by intros; omega
theorem dW_526 (x y : Nat) (hxy : x + 76 ≤ y) : ∀ k : Nat, 157 ≤ k → ¬ ((((y + 1)) = (y) + 3 ∨ ((y) + 7 ≤ ((y + 1)) ∧ ((y + 1)) ≤ (y) + 11)) ∨ (((y + 1)) = (y) + 1 ∧ ((k) = 0 ∨ (k) = 1 ∨ (k) = 2 ∨ (7 ≤ (k) ∧ (k) < 61) ∨ (61 ≤ (k) ∧ (k) < 73 ∧ (k) % 2 = 0)))) := by intros; omega
theorem dW_527 (x y : Nat) (hxy : x + 76 ≤ y) : ∀ k : Nat, k < 24 → ¬ (((x + 1 + 5)) = (x) + 24 ∨ ((x + 1 + 5)) = (x) + 27 ∨ ((x) + 58 ≤ ((x + 1 + 5)) ∧ ((x + 1 + 5)) ≤ (x) + 67) ∨ (((x + 1 + 5)) = (x) + 1 ∧ (((0 + k)) = 0 ∨ ((0 + k)) = 2 ∨ ((0 + k)) = 4)) ∨ ((x) + 7 ≤ ((x + 1 + 5)) ∧ ((x + 1 + 5)) < (x) + 16) ∨ ((x) + 16 ≤ ((x + 1 + 5)) ∧ ((x + 1 + 5)) < (x) + 22 ∧ ((0 + k)) = 1)) := by intros; omega
theorem dW_528 (x y : Nat) (hxy : x + 76 ≤ y) : ∀ k : Nat, k < 24 → ¬ ((((y + 1)) = (y) + 3 ∨ ((y) + 7 ≤ ((y + 1)) ∧ ((y + 1)) ≤ (y) + 11)) ∨ (((y + 1)) = (y) + 1 ∧ (((133 + k)) = 0 ∨ ((133 + k)) = 1 ∨ ((133 + k)) = 2 ∨ (7 ≤ ((133 + k)) ∧ ((133 + k)) < 61) ∨ (61 ≤ ((133 + k)) ∧ ((133 + k)) < 73 ∧ ((133 + k)) % 2 = 0)))) := by intros; omega
theorem dW_529 (x y : Nat) (hxy : x + 76 ≤ y) : ∀ j : Nat, j < 9 → ∀ k : Nat, k < 6 → ¬ (((x + 28 + 6 + 1 * j)) = (x) + 24 ∨ ((x + 28 + 6 + 1 * j)) = (x) + 27 ∨ ((x) + 58 ≤ ((x + 28 + 6 + 1 * j)) ∧ ((x + 28 + 6 + 1 * j)) ≤ (x) + 67) ∨ (((x + 28 + 6 + 1 * j)) = (x) + 1 ∧ ((k) = 0 ∨ (k) = 2 ∨ (k) = 4)) ∨ ((x) + 7 ≤ ((x + 28 + 6 + 1 * j)) ∧ ((x + 28 + 6 + 1 * j)) < (x) + 16) ∨ ((x) + 16 ≤ ((x + 28 + 6 + 1 * j)) ∧ ((x + 28 + 6 + 1 * j)) < (x) + 22 ∧ (k) = 1)) := by intros; omega
theorem dW_530 (x y : Nat) (hxy : x + 76 ≤ y) : ∀ k : Nat, 7 ≤ k → k < 61 → ¬ ((((y + 2)) = (y) + 3 ∨ ((y) + 7 ≤ ((y + 2)) ∧ ((y + 2)) ≤ (y) + 11)) ∨ (((y + 2)) = (y) + 1 ∧ ((k) = 0 ∨ (k) = 1 ∨ (k) = 2 ∨ (7 ≤ (k) ∧ (k) < 61) ∨ (61 ≤ (k) ∧ (k) < 73 ∧ (k) % 2 = 0)))) := by intros; omega
theorem dW_531 (x y : Nat) (hxy : x + 76 ≤ y) : ∀ j : Nat, j < 6 → ¬ (((x + 28 + 15 + 1 * j)) = (x) + 24 ∨ ((x + 28 + 15 + 1 * j)) = (x) + 27 ∨ ((x) + 58 ≤ ((x + 28 + 15 + 1 * j)) ∧ ((x + 28 + 15 + 1 * j)) ≤ (x) + 67) ∨ (((x + 28 + 15 + 1 * j)) = (x) + 1 ∧ ((0) = 0 ∨ (0) = 2 ∨ (0) = 4)) ∨ ((x) + 7 ≤ ((x + 28 + 15 + 1 * j)) ∧ ((x + 28 + 15 + 1 * j)) < (x) + 16) ∨ ((x) + 16 ≤ ((x + 28 + 15 + 1 * j)) ∧ ((x + 28 + 15 + 1 * j)) < (x) + 22 ∧ (0) = 1)) := by intros; omega
theorem dW_532 (x y : Nat) (hxy : x + 76 ≤ y) : ∀ j : Nat, j < 6 → ¬ ((((y + 2)) = (y) + 3 ∨ ((y) + 7 ≤ ((y + 2)) ∧ ((y + 2)) ≤ (y) + 11)) ∨ (((y + 2)) = (y) + 1 ∧ (((61 + 2 * j + 0)) = 0 ∨ ((61 + 2 * j + 0)) = 1 ∨ ((61 + 2 * j + 0)) = 2 ∨ (7 ≤ ((61 + 2 * j + 0)) ∧ ((61 + 2 * j + 0)) < 61) ∨ (61 ≤ ((61 + 2 * j + 0)) ∧ ((61 + 2 * j + 0)) < 73 ∧ ((61 + 2 * j + 0)) % 2 = 0)))) := by intros; omega
theorem dW_533 (x y : Nat) (hxy : x + 76 ≤ y) : ¬ (((x + 28)) = (x) + 24 ∨ ((x + 28)) = (x) + 27 ∨ ((x) + 58 ≤ ((x + 28)) ∧ ((x + 28)) ≤ (x) + 67) ∨ (((x + 28)) = (x) + 1 ∧ ((9) = 0 ∨ (9) = 2 ∨ (9) = 4)) ∨ ((x) + 7 ≤ ((x + 28)) ∧ ((x + 28)) < (x) + 16) ∨ ((x) + 16 ≤ ((x + 28)) ∧ ((x + 28)) < (x) + 22 ∧ (9) = 1)) := by omega
theorem dW_534 (x y : Nat) (hxy : x + 76 ≤ y) : ∀ k : Nat, ¬ (((x + 28 + 4)) = (x) + 24 ∨ ((x + 28 + 4)) = (x) + 27 ∨ ((x) + 58 ≤ ((x + 28 + 4)) ∧ ((x + 28 + 4)) ≤ (x) + 67) ∨ (((x + 28 + 4)) = (x) + 1 ∧ ((k) = 0 ∨ (k) = 2 ∨ (k) = 4)) ∨ ((x) + 7 ≤ ((x + 28 + 4)) ∧ ((x + 28 + 4)) < (x) + 16) ∨ ((x) + 16 ≤ ((x + 28 + 4)) ∧ ((x + 28 + 4)) < (x) + 22 ∧ (k) = 1)) := by intros; omega
theorem dW_535 (x y : Nat) (hxy : x + 76 ≤ y) : ¬ ((((y + 2)) = (y) + 3 ∨ ((y) + 7 ≤ ((y + 2)) ∧ ((y + 2)) ≤ (y) + 11)) ∨ (((y + 2)) = (y) + 1 ∧ ((5) = 0 ∨ (5) = 1 ∨ (5) = 2 ∨ (7 ≤ (5) ∧ (5) < 61) ∨ (61 ≤ (5) ∧ (5) < 73 ∧ (5) % 2 = 0)))) := by omega
theorem dW_536 (x y : Nat) (hxy : x + 76 ≤ y) : ∀ k : Nat, k < 60 → ¬ ((((y + 2)) = (y) + 3 ∨ ((y) + 7 ≤ ((y + 2)) ∧ ((y + 2)) ≤ (y) + 11)) ∨ (((y + 2)) = (y) + 1 ∧ (((73 + k)) = 0 ∨ ((73 + k)) = 1 ∨ ((73 + k)) = 2 ∨ (7 ≤ ((73 + k)) ∧ ((73 + k)) < 61) ∨ (61 ≤ ((73 + k)) ∧ ((73 + k)) < 73 ∧ ((73 + k)) % 2 = 0)))) := by intros; omega
theorem dW_537 (x y : Nat) (hxy : x + 76 ≤ y) : ∀ a : Nat, (a = x + 28 + 21 ∨ a = x + 28 + 22 ∨ a = x + 28 + 24 ∨ a = x + 28 + 25) → ∀ k : Nat, ¬ ((a) = (x) + 24 ∨ (a) = (x) + 27 ∨ ((x) + 58 ≤ (a) ∧ (a) ≤ (x) + 67) ∨ ((a) = (x) + 1 ∧ ((k) = 0 ∨ (k) = 2 ∨ (k) = 4)) ∨ ((x) + 7 ≤ (a) ∧ (a) < (x) + 16) ∨ ((x) + 16 ≤ (a) ∧ (a) < (x) + 22 ∧ (k) = 1)) := by intros; omega
theorem dW_538 (x y : Nat) (hxy : x + 76 ≤ y) : ∀ k : Nat, 157 ≤ k → ¬ ((((y + 2)) = (y) + 3 ∨ ((y) + 7 ≤ ((y + 2)) ∧ ((y + 2)) ≤ (y) + 11)) ∨ (((y + 2)) = (y) + 1 ∧ ((k) = 0 ∨ (k) = 1 ∨ (k) = 2 ∨ (7 ≤ (k) ∧ (k) < 61) ∨ (61 ≤ (k) ∧ (k) < 73 ∧ (k) % 2 = 0)))) := by intros; omega
theorem dW_539 (x y : Nat) (hxy : x + 76 ≤ y) : ∀ j : Nat, j < 6 → ¬ (((x + 28 + 15 + 1 * j)) = (x) + 24 ∨ ((x + 28 + 15 + 1 * j)) = (x) + 27 ∨ ((x) + 58 ≤ ((x + 28 + 15 + 1 * j)) ∧ ((x + 28 + 15 + 1 * j)) ≤ (x) + 67) ∨ (((x + 28 + 15 + 1 * j)) = (x) + 1 ∧ ((1) = 0 ∨ (1) = 2 ∨ (1) = 4)) ∨ ((x) + 7 ≤ ((x + 28 + 15 + 1 * j)) ∧ ((x + 28 + 15 + 1 * j)) < (x) + 16) ∨ ((x) + 16 ≤ ((x + 28 + 15 + 1 * j)) ∧ ((x + 28 + 15 + 1 * j)) < (x) + 22 ∧ (1) = 1)) := by intros; omega
theorem dW_540 (x y : Nat) (hxy : x + 76 ≤ y) : ∀ j : Nat, j < 6 → ¬ ((((y + 2)) = (y) + 3 ∨ ((y) + 7 ≤ ((y + 2)) ∧ ((y + 2)) ≤ (y) + 11)) ∨ (((y + 2)) = (y) + 1 ∧ (((61 + 2 * j + 1)) = 0 ∨ ((61 + 2 * j + 1)) = 1 ∨ ((61 + 2 * j + 1)) = 2 ∨ (7 ≤ ((61 + 2 * j + 1)) ∧ ((61 + 2 * j + 1)) < 61) ∨ (61 ≤ ((61 + 2 * j + 1)) ∧ ((61 + 2 * j + 1)) < 73 ∧ ((61 + 2 * j + 1)) % 2 = 0)))) := by intros; omega
theorem dW_541 (x y : Nat) (hxy : x + 76 ≤ y) : ¬ (((x + 28)) = (x) + 24 ∨ ((x + 28)) = (x) + 27 ∨ ((x) + 58 ≤ ((x + 28)) ∧ ((x + 28)) ≤ (x) + 67) ∨ (((x + 28)) = (x) + 1 ∧ ((11) = 0 ∨ (11) = 2 ∨ (11) = 4)) ∨ ((x) + 7 ≤ ((x + 28)) ∧ ((x + 28)) < (x) + 16) ∨ ((x) + 16 ≤ ((x + 28)) ∧ ((x + 28)) < (x) + 22 ∧ (11) = 1)) := by omega
theorem dW_542 (x y : Nat) (hxy : x + 76 ≤ y) : ∀ k : Nat, k < 24 → ¬ (((x + 28 + 5)) = (x) + 24 ∨ ((x + 28 + 5)) = (x) + 27 ∨ ((x) + 58 ≤ ((x + 28 + 5)) ∧ ((x + 28 + 5)) ≤ (x) + 67) ∨ (((x + 28 + 5)) = (x) + 1 ∧ (((0 + k)) = 0 ∨ ((0 + k)) = 2 ∨ ((0 + k)) = 4)) ∨ ((x) + 7 ≤ ((x + 28 + 5)) ∧ ((x + 28 + 5)) < (x) + 16) ∨ ((x) + 16 ≤ ((x + 28 + 5)) ∧ ((x + 28 + 5)) < (x) + 22 ∧ ((0 + k)) = 1)) := by intros; omega
theorem dW_543 (x y : Nat) (hxy : x + 76 ≤ y) : ¬ ((((y + 2)) = (y) + 3 ∨ ((y) + 7 ≤ ((y + 2)) ∧ ((y + 2)) ≤ (y) + 11)) ∨ (((y + 2)) = (y) + 1 ∧ ((6) = 0 ∨ (6) = 1 ∨ (6) = 2 ∨ (7 ≤ (6) ∧ (6) < 61) ∨ (61 ≤ (6) ∧ (6) < 73 ∧ (6) % 2 = 0)))) := by omega
theorem dW_544 (x y : Nat) (hxy : x + 76 ≤ y) : ∀ k : Nat, k < 24 → ¬ ((((y + 2)) = (y) + 3 ∨ ((y) + 7 ≤ ((y + 2)) ∧ ((y + 2)) ≤ (y) + 11)) ∨ (((y + 2)) = (y) + 1 ∧ (((133 + k)) = 0 ∨ ((133 + k)) = 1 ∨ ((133 + k)) = 2 ∨ (7 ≤ ((133 + k)) ∧ ((133 + k)) < 61) ∨ (61 ≤ ((133 + k)) ∧ ((133 + k)) < 73 ∧ ((133 + k)) % 2 = 0)))) := by intros; omega
set_option maxHeartbeats 4000000 in
set_option maxRecDepth 100000 in
theorem lc_loose {p : Program} {l : Launch} {e : Env} {s : State} {m : MethodId} {below : List Frame} {meth : Method} {c : Code} {b L x y : Nat} {xs : Nat → Int32} {E : zz_E} {Q : State → Prop} (hA : zz_LA p s m c b L xs E x y) (i : Int32) (hi : 0 ≤ i.toInt ∧ i.toInt + 6 ≤ L) (σ : zz_S) (H : Heap) (locs : List Loc) (ls : Array Slot) (hR : zz_RL σ x y) (hQ : zz_RD σ x y) (hP : zz_P E σ H) (hS : va_S (zz_A E) s.heap H locs) (hl : lv_has ls 4 [(0, .ref b), (1, .ref x), (2, .ref y), (3, .int i)])
    (kk : ∀ (σ1 : zz_S) (H1 : Heap) (locs1 : List Loc), zz_RL σ1 x y → zz_RD σ1 x y → zz_P E σ1 H1 → va_S (zz_A E) s.heap H1 locs1 → W p l e room_1 s m #[Value.ref b] below meth c H1 locs1 600000 7302250 Q (F0 m 1384 ls [])) : W p l e room_1 s m #[Value.ref b] below meth c H locs 600000 7302250 Q (F0 m 682 ls []) := by
  obtain ⟨hx, hb, hml, hown, hts, hX, hbl, hbE, hL, gL, gM, hxy, hK⟩ := hA
  have hbA : ¬ zz_A E b := fun h => absurd (hbE b h) (Nat.not_le.mpr hbl)
  have k_1 : (1 : Int32).toInt = 1 := by decide +kernel
  refine lv_aload_n hx hb dL_law_682 rfl (lv_at hl 1 rfl) ?_
  refine lv_aload_n hx hb dL_law_683 rfl (lv_at hl 0 rfl) ?_
  refine lv_iload_n hx hb dL_law_684 rfl (lv_at hl 3 rfl) ?_
  refine lv_iconst (v := 1) hx hb dL_law_685 (by decide) ?_
  refine lv_iadd hx hb dL_law_686 ?_
  refine lv_topi (fun n1 e1 => ?_)
  have f1 : n1.toInt = (i).toInt + (1 : Int32).toInt := zz_addT e1 (by omega) (by omega)
  refine va_sld hx hb hX hbl hbA hS (vp_in_iff.mpr ⟨by omega, by omega⟩) dL_law_687 ?_
  refine lv_topi (fun v2 u2 => ?_)
  refine zz_callVi (As := [.int v2]) (rest := []) ⟨hx, hb, hml, hown, hts⟩ hK hP hS (c_X8_loose l E σ x v2 gL hR.1 (zy_KK σ x y) (zy_KX hR hQ) (zy_FBX hQ)) (cwV 1 hts gL_law_X8_loose rfl rfl rfl (by decide +kernel) ⟨Nat.le_of_ble_eq_true rfl, Nat.le_of_ble_eq_true rfl⟩) (gL.1) rfl rfl hl.1 rfl (Nat.le_of_ble_eq_true rfl) dL_law_688 ⟨Nat.le_refl _, Nat.le_refl _⟩ (fun r1 σ1 H locs q1 hP hS => ?_)
  try dsimp only at q1
  obtain ⟨w1, p1⟩ := q1
  have B : ∀ a k : Nat, y ≤ a → a ≤ y + 12 → σ1 a k = σ a k := fun a k h1 h2 => w1 a k ((dW_497 x y hxy) a k h1 h2)
  have hJ1 : zz_IM σ1 y := hR.2.1.far B
  refine lv_aload_n hx hb dL_law_691 rfl (lv_at hl 2 rfl) ?_
  refine lv_aload_n hx hb dL_law_692 rfl (lv_at hl 0 rfl) ?_
  refine lv_iload_n hx hb dL_law_693 rfl (lv_at hl 3 rfl) ?_
  refine lv_iconst (v := 1) hx hb dL_law_694 (by decide) ?_
  refine lv_iadd hx hb dL_law_695 ?_
  refine lv_topi (fun n4 e4 => ?_)
  have f4 : n4.toInt = (i).toInt + (1 : Int32).toInt := zz_addT e4 (by omega) (by omega)
  refine va_sld hx hb hX hbl hbA hS (vp_in_iff.mpr ⟨by omega, by omega⟩) dL_law_696 ?_
  refine lv_topi (fun v5 u5 => ?_)
  have z5 : v5 = v2 := by rw [u5, u2, e4, e1]
  have zt5 := congrArg Int32.toInt z5
  refine zz_callVi (As := [.int v5]) (rest := [.int r1]) ⟨hx, hb, hml, hown, hts⟩ hK hP hS (c_X9_loose l E σ1 y v5 gM hJ1 (zy_KK σ x y) (zy_KY hR hQ B) (zy_FBM hQ B)) (cwV 1 hts gL_law_X9_loose rfl rfl rfl (by decide +kernel) ⟨Nat.le_of_ble_eq_true rfl, Nat.le_of_ble_eq_true rfl⟩) (gM.1) rfl rfl hl.1 rfl (Nat.le_of_ble_eq_true rfl) dL_law_697 ⟨Nat.le_refl _, Nat.le_refl _⟩ (fun r2 σ2 H locs q2 hP hS => ?_)
  try dsimp only at q2
  obtain ⟨w2, p2⟩ := q2
  have A : ∀ a k : Nat, x ≤ a → a < x + 76 → σ2 a k = σ1 a k := fun a k h1 h2 => w2 a k ((dW_498 x y hxy) a k h1 h2)
  obtain ⟨i1, p1⟩ := p1
  obtain ⟨i2, p2⟩ := p2
  try simp only [z5] at p2
  obtain ⟨h0, h1, h2, h3, h4, h5, h6⟩ := hR.2.2.1
  have ga0 := congrArg Int32.toInt (A (x + 1) 0 (by omega) (by omega))
  have gb0 := congrArg Int32.toInt (B (y + 1) 0 (by omega) (by omega))
  have ga1 := congrArg Int32.toInt (A (x + 1) 1 (by omega) (by omega))
  have gb1 := congrArg Int32.toInt (B (y + 1) 4 (by omega) (by omega))
  have ga2 := congrArg Int32.toInt (A (x + 1) 2 (by omega) (by omega))
  have gb2 := congrArg Int32.toInt (B (y + 1) 1 (by omega) (by omega))
  have ga3 := congrArg Int32.toInt (A (x + 1) 4 (by omega) (by omega))
  have gb3 := congrArg Int32.toInt (B (y + 1) 2 (by omega) (by omega))
  have ga4 := congrArg Int32.toInt (A (x + 1) 6 (by omega) (by omega))
  have gb4 := congrArg Int32.toInt (B (y + 1) 3 (by omega) (by omega))
  have ga5 := congrArg Int32.toInt (A (x + 1) 9 (by omega) (by omega))
  have gb5 := congrArg Int32.toInt (B (y + 1) 5 (by omega) (by omega))
  have ga6 := congrArg Int32.toInt (A (x + 1) 11 (by omega) (by omega))
  have gb6 := congrArg Int32.toInt (B (y + 1) 6 (by omega) (by omega))
  have ez : σ (x + 1) 2 = σ1 (y + 1) 1 := zz_ext (by omega)
  try rw [z5] at p2
  rw [show (σ1 (y + 1) 0).toInt = (σ (x + 1) 0).toInt from by omega, show (σ1 (y + 1) 4).toInt = (σ (x + 1) 1).toInt from by omega, show (σ1 (y + 1) 2).toInt = (σ (x + 1) 4).toInt from by omega, ← ez] at p2
  have rr : r1.toInt = r2.toInt ∧ (σ1 (x + 1) 0).toInt = (σ2 (y + 1) 0).toInt ∧ (σ1 (x + 1) 2).toInt = (σ2 (y + 1) 1).toInt ∧ (σ1 (x + 1) 4).toInt = (σ2 (y + 1) 2).toInt := by
    rcases p1 with ⟨a1, a2, a3, a4, a5, a8, a7⟩ | ⟨a1, a2, a3, a4, a5, a6, a8, a7⟩ | ⟨a1, a2, a3, a4, a5, a6, a8, a7⟩
    · rcases p2 with ⟨b1, b2, b3, b4, b5, b8, b7⟩ | ⟨b1, b2, b3, b4, b5, b6, b8, b7⟩ | ⟨b1, b2, b3, b4, b5, b6, b8, b7⟩
      · rw [a3, a4, a5, b3, b4, b5]; exact ⟨by omega, by omega, by omega, by omega⟩
      · exact absurd a1 (by omega)
      · exact absurd a1 (by omega)
    · rcases p2 with ⟨b1, b2, b3, b4, b5, b8, b7⟩ | ⟨b1, b2, b3, b4, b5, b6, b8, b7⟩ | ⟨b1, b2, b3, b4, b5, b6, b8, b7⟩
      · exact absurd b1 (by omega)
      · rw [a4, a5, a6, b4, b5, b6]; exact ⟨by omega, by omega, by omega, by omega⟩
      · exact absurd a2 (by omega)
    · rcases p2 with ⟨b1, b2, b3, b4, b5, b8, b7⟩ | ⟨b1, b2, b3, b4, b5, b6, b8, b7⟩ | ⟨b1, b2, b3, b4, b5, b6, b8, b7⟩
      · exact absurd b1 (by omega)
      · exact absurd b2 (by omega)
      · rw [a3, b3, a5, a6, b5, b6]; exact ⟨rfl, by omega, rfl, rfl⟩
  have rr2 : zz_RR σ2 (x + 1) (y + 1) := ⟨by omega, (congrArg Int32.toInt (A (x + 1) 1 (by omega) (by omega))).trans ((congrArg Int32.toInt (w1 (x + 1) 1 (dW_503 x y hxy))).trans (h1.trans ((congrArg Int32.toInt (B (y + 1) 4 (by omega) (by omega))).symm.trans (congrArg Int32.toInt (w2 (y + 1) 4 (dW_504 x y hxy))).symm))), by omega, by omega, (congrArg Int32.toInt (A (x + 1) 6 (by omega) (by omega))).trans ((congrArg Int32.toInt (w1 (x + 1) 6 (dW_505 x y hxy))).trans (h4.trans ((congrArg Int32.toInt (B (y + 1) 3 (by omega) (by omega))).symm.trans (congrArg Int32.toInt (w2 (y + 1) 3 (dW_506 x y hxy))).symm))), (congrArg Int32.toInt (A (x + 1) 9 (by omega) (by omega))).trans ((congrArg Int32.toInt (w1 (x + 1) 9 (dW_507 x y hxy))).trans (h5.trans ((congrArg Int32.toInt (B (y + 1) 5 (by omega) (by omega))).symm.trans (congrArg Int32.toInt (w2 (y + 1) 5 (dW_508 x y hxy))).symm))), (congrArg Int32.toInt (A (x + 1) 11 (by omega) (by omega))).trans ((congrArg Int32.toInt (w1 (x + 1) 11 (dW_509 x y hxy))).trans (h6.trans ((congrArg Int32.toInt (B (y + 1) 6 (by omega) (by omega))).symm.trans (congrArg Int32.toInt (w2 (y + 1) 6 (dW_510 x y hxy))).symm)))⟩
  have hRL : zz_RL σ2 x y := hR.real i1 i2 A B rr2 (fun k => w1 (x + 28) k ((dW_499 x y hxy) k)) (w1 x 2 (dW_500 x y hxy)) (fun k => w2 (y + 2) k ((dW_501 x y hxy) k)) (w2 y 2 (dW_502 x y hxy))
  obtain ⟨hqD, hqW, hqK, hqB, hqN, hqC, hqL, hqT, hqP, hqX, hqF, hqG, hqV⟩ := hQ
  obtain ⟨aD, aW, aKD, aKW, aB, aN, aC, aL, aT, aP, aX, aKP, aKX⟩ := zz_aX A
  obtain ⟨bD, bW, bKD, bKW, bB, bN, bC, bL, bT, bP, bX, bKP, bKX⟩ := zz_bM hR.2.1 B
  obtain ⟨aF, aKF, aV, aKV⟩ := zy_aX2 A
  obtain ⟨bF, bKF, bV, bKV⟩ := zy_bM2 B
  have rW : zz_PX 0 σ2 (x + 1) = zz_PM 0 σ2 (y + 1) := by rw [aW, zz_PXk (f := 0) (r := x + 1) w1 (dW_511 x y hxy), zz_PMk (f := 0) (a := y + 1) w2 (dW_512 x y hxy), bW, hqW]
  have rB : zz_HX 0 σ2 x = zz_HM σ2 (y + 4) := by rw [aB, zz_HX.eq (f := 0) (x := x) (fun j hj => w1 _ _ ((dW_513 x y hxy) j hj)), zz_HM.eq (a := y + 4) (fun j hj => w2 _ _ ((dW_514 x y hxy) j hj)), bB, hqB]
  have rN : zz_HX 1 σ2 x = zz_HM σ2 (y + 5) := by rw [aN, zz_HX.eq (f := 1) (x := x) (fun j hj => w1 _ _ ((dW_515 x y hxy) j hj)), zz_HM.eq (a := y + 5) (fun j hj => w2 _ _ ((dW_516 x y hxy) j hj)), bN, hqN]
  have rC : zz_CX σ2 x = zz_CM σ2 (y + 6) := by rw [aC, zz_CX.eq (x := x) (fun j hj k hk => w1 _ _ ((dW_517 x y hxy) j hj k hk)), zz_CM.eq (a := y + 6) (fun k hk => w2 _ _ ((dW_518 x y hxy) k hk)), bC, hqC]
  have rL : (σ2 (x + 56) 1).toInt = (σ2 y 18).toInt := by rw [aL, congrArg Int32.toInt (w1 (x + 56) 1 (dW_519 x y hxy)), congrArg Int32.toInt (w2 y 18 (dW_520 x y hxy)), bL, hqL]
  have rT : zz_TV σ2 (x + 56 + 1) = zz_TV σ2 (y + 12) := by rw [aT, zz_TV.eq (a := x + 56 + 1) (b := x + 56 + 1) (fun k _ => w1 _ k ((dW_521 x y hxy) k)), zz_TV.eq (a := y + 12) (b := y + 12) (fun k _ => w2 _ k ((dW_522 x y hxy) k)), bT, hqT]
  have rP : zz_Tp σ2 (x + 1 + 4) (σ2 (x + 1) 9).toInt = zz_Tm σ2 (y + 1) := by rw [aP, zz_Tp.all (a := x + 1 + 4) (b := x + 1 + 4) (congrArg Int32.toInt (w1 (x + 1) 9 (dW_507 x y hxy))) (fun k => w1 _ k ((dW_523 x y hxy) k)), zz_Tm.eq (a := y + 1) (b := y + 1) (w2 (y + 1) 5 (dW_508 x y hxy)) hJ1.1.2.2.2.2.1.2 (fun k hk => w2 (y + 1) (73 + k) ((dW_524 x y hxy) k hk)), bP, hqP]
  have rX : zz_tts (zz_XT σ2 (x + 1)) (zz_MT σ2 (y + 1)) := by rw [aX, zz_XT.all (r := x + 1) (fun a ha k => w1 a k ((dW_525 x y hxy) a ha k)), zz_MT.hi (a := y + 1) (b := y + 1) (fun k hk => w2 (y + 1) k ((dW_526 x y hxy) k hk)), bX]; exact hqX
  have rV : zy_wv σ2 (x + 1 + 5) 0 (σ2 (x + 1) 11).toInt = zy_wv σ2 (y + 1) 133 (σ2 (y + 1) 6).toInt := by rw [aV, zy_wv.eq (a := x + 1 + 5) (a1 := x + 1 + 5) (b := 0) (b1 := 0) (congrArg Int32.toInt (w1 (x + 1) 11 (dW_509 x y hxy))) (fun k hk => w1 (x + 1 + 5) (0 + k) ((dW_527 x y hxy) k hk)), zy_wv.eq (a := y + 1) (a1 := y + 1) (b := 133) (b1 := 133) (congrArg Int32.toInt (w2 (y + 1) 6 (dW_510 x y hxy))) (fun k hk => w2 (y + 1) (133 + k) ((dW_528 x y hxy) k hk)), bV, hqV]
  have rK : (σ2 x 2).toInt = 0 ∨ (zz_DX σ2 (x + 28) = zz_DM σ2 (y + 2) ∧ zz_PX 0 σ2 (x + 28) = zz_PM 0 σ2 (y + 2) ∧ zz_Tp σ2 (x + 28 + 4) (σ2 (x + 28) 9).toInt = zz_Tm σ2 (y + 2) ∧ zz_tts (zz_XT σ2 (x + 28)) (zz_MT σ2 (y + 2)) ∧ zz_PX 1 σ2 (x + 28) = zz_PM 1 σ2 (y + 2) ∧ zy_FB (zz_PM 1 σ2 (y + 2)) ∧ zy_wv σ2 (x + 28 + 5) 0 (σ2 (x + 28) 11).toInt = zy_wv σ2 (y + 2) 133 (σ2 (y + 2) 6).toInt) := hqK.elim (fun q => Or.inl ((congrArg Int32.toInt ((A x 2 (by omega) (by omega)).trans (w1 x 2 (dW_500 x y hxy)))).trans q)) (fun q => Or.inr ⟨by rw [aKD, zz_DXk (r := x + 28) w1 (dW_529 x y hxy), zz_DMk (a := y + 2) w2 (dW_530 x y hxy), bKD, q.1], by rw [aKW, zz_PXk (f := 0) (r := x + 28) w1 (dW_531 x y hxy), zz_PMk (f := 0) (a := y + 2) w2 (dW_532 x y hxy), bKW, q.2.1], by rw [aKP, zz_Tp.all (a := x + 28 + 4) (b := x + 28 + 4) (congrArg Int32.toInt (w1 (x + 28) 9 (dW_533 x y hxy))) (fun k => w1 _ k ((dW_534 x y hxy) k)), zz_Tm.eq (a := y + 2) (b := y + 2) (w2 (y + 2) 5 (dW_535 x y hxy)) hJ1.2.1.2.2.2.2.1.2 (fun k hk => w2 (y + 2) (73 + k) ((dW_536 x y hxy) k hk)), bKP, q.2.2.1], by rw [aKX, zz_XT.all (r := x + 28) (fun a ha k => w1 a k ((dW_537 x y hxy) a ha k)), zz_MT.hi (a := y + 2) (b := y + 2) (fun k hk => w2 (y + 2) k ((dW_538 x y hxy) k hk)), bKX]; exact q.2.2.2.1, by rw [aKF, zz_PXk (f := 1) (r := x + 28) w1 (dW_539 x y hxy), zz_PMk (f := 1) (a := y + 2) w2 (dW_540 x y hxy), bKF, q.2.2.2.2.1], by rw [zz_PMk (f := 1) (a := y + 2) w2 (dW_540 x y hxy), bKF]; exact q.2.2.2.2.2.1, by rw [aKV, zy_wv.eq (a := x + 28 + 5) (a1 := x + 28 + 5) (b := 0) (b1 := 0) (congrArg Int32.toInt (w1 (x + 28) 11 (dW_541 x y hxy))) (fun k hk => w1 (x + 28 + 5) (0 + k) ((dW_542 x y hxy) k hk)), zy_wv.eq (a := y + 2) (a1 := y + 2) (b := 133) (b1 := 133) (congrArg Int32.toInt (w2 (y + 2) 6 (dW_543 x y hxy))) (fun k hk => w2 (y + 2) (133 + k) ((dW_544 x y hxy) k hk)), bKV, q.2.2.2.2.2.2]⟩)
  have gc6 : (σ (x + 1) 6).toInt = (σ1 (y + 1) 3).toInt := hR.2.2.1.2.2.2.2.1.trans (congrArg Int32.toInt (B (y + 1) 3 (by omega) (by omega))).symm
  have eW : zz_PX 0 σ (x + 1) = zz_PM 0 σ1 (y + 1) := hqW.trans bW.symm
  have eF : zz_PX 1 σ (x + 1) = zz_PM 1 σ1 (y + 1) := hqF.trans bF.symm
  have hG1 : zy_FB (zz_PM 1 σ1 (y + 1)) := by rw [bF]; exact hqG
  have eDq : zz_DX σ (x + 1) = zz_DM σ1 (y + 1) := hqD.trans bD.symm
  have rDF : zz_DX σ2 (x + 1) = zz_DM σ2 (y + 1) ∧ zz_PX 1 σ2 (x + 1) = zz_PM 1 σ2 (y + 1) ∧ zy_FB (zz_PM 1 σ2 (y + 1)) := by
    rcases p1 with ⟨a1, a2, a3, a4, a5, a8, a7⟩ | ⟨a1, a2, a3, a4, a5, a6, a8, a7⟩ | ⟨a1, a2, a3, a4, a5, a6, a8, a7⟩
    · rcases p2 with ⟨b1, b2, b3, b4, b5, b8, b7⟩ | ⟨b1, b2, b3, b4, b5, b6, b8, b7⟩ | ⟨b1, b2, b3, b4, b5, b6, b8, b7⟩
      · exact ⟨by rw [aD, a7, b7, eDq], by rw [aF, a8, b8, eF], by rw [b8]; exact hG1⟩
      · exact absurd a1 (by omega)
      · exact absurd a1 (by omega)
    · rcases p2 with ⟨b1, b2, b3, b4, b5, b8, b7⟩ | ⟨b1, b2, b3, b4, b5, b6, b8, b7⟩ | ⟨b1, b2, b3, b4, b5, b6, b8, b7⟩
      · exact absurd b1 (by omega)
      · exact ⟨by rw [aD, a7, b7, eDq], by rw [aF, a8, b8, eF], by rw [b8]; exact hG1⟩
      · exact absurd a2 (by omega)
    · rcases p2 with ⟨b1, b2, b3, b4, b5, b8, b7⟩ | ⟨b1, b2, b3, b4, b5, b6, b8, b7⟩ | ⟨b1, b2, b3, b4, b5, b6, b8, b7⟩
      · exact absurd b1 (by omega)
      · exact absurd b2 (by omega)
      · exact ⟨by rw [aD, a7, b7, eDq], by rw [aF, a8, b8, eW, eF, eDq, gc6], by rw [b8]; exact hG1.lf _ _ _ _ _ _⟩
  obtain ⟨rD, rF, rG⟩ := rDF
  have hQ2 : zz_RD σ2 x y := ⟨rD, rW, rK, rB, rN, rC, rL, rT, rP, rX, rF, rG, rV⟩
  have hrr := rr.1
  refine lv_icmp_eq (tgt := 1384) hx hb dL_law_700 (by decide) (fun _ => kk _ _ _ hRL hQ2 hP hS) (fun cc => absurd (zz_ext hrr) cc)
theorem gL_law_X8_seed : GoodIn wsL_law (wsV RL 80 RX8 yX8_seed wzX8_seed) := wz_coL bm_624 (wz_coL bm_625 (wz_coL bm_626 (wz_coL bm_2 (wz_inL bm_627))))
theorem gL_law_X9_seed : GoodIn wsL_law (wsV RL 83 RX9 yX9_seed wzX9_seed) := wz_coL bm_629 (wz_coL bm_630 (wz_coL bm_631 (wz_coL bm_5 (wz_inL bm_632))))
theorem dW_545 (x y : Nat) (hxy : x + 76 ≤ y) : ∀ a k : Nat, y ≤ a → a ≤ y + 12 → ¬ ((a) = (x) + 24 ∨ (a) = (x) + 27 ∨ ((x) + 58 ≤ (a) ∧ (a) ≤ (x) + 67) ∨ ((a) = (x) + 1 ∧ (k) = 2)) := by intros; omega
theorem dW_546 (x y : Nat) (hxy : x + 76 ≤ y) : ∀ a k : Nat, x ≤ a → a < x + 76 → ¬ (((a) = (y) + 3 ∨ ((y) + 7 ≤ (a) ∧ (a) ≤ (y) + 11)) ∨ ((a) = (y) + 1 ∧ (k) = 1)) := by intros; omega
theorem dW_547 (x y : Nat) (hxy : x + 76 ≤ y) : ∀ k : Nat, ¬ (((x + 28)) = (x) + 24 ∨ ((x + 28)) = (x) + 27 ∨ ((x) + 58 ≤ ((x + 28)) ∧ ((x + 28)) ≤ (x) + 67) ∨ (((x + 28)) = (x) + 1 ∧ (k) = 2)) := by intros; omega
theorem dW_548 (x y : Nat) (hxy : x + 76 ≤ y) : ¬ ((x) = (x) + 24 ∨ (x) = (x) + 27 ∨ ((x) + 58 ≤ (x) ∧ (x) ≤ (x) + 67) ∨ ((x) = (x) + 1 ∧ (2) = 2)) := by omega
theorem dW_549 (x y : Nat) (hxy : x + 76 ≤ y) : ∀ k : Nat, ¬ ((((y + 2)) = (y) + 3 ∨ ((y) + 7 ≤ ((y + 2)) ∧ ((y + 2)) ≤ (y) + 11)) ∨ (((y + 2)) = (y) + 1 ∧ (k) = 1)) := by intros; omega
theorem dW_550 (x y : Nat) (hxy : x + 76 ≤ y) : ¬ (((y) = (y) + 3 ∨ ((y) + 7 ≤ (y) ∧ (y) ≤ (y) + 11)) ∨ ((y) = (y) + 1 ∧ (2) = 1)) := by omega
theorem dW_551 (x y : Nat) (hxy : x + 76 ≤ y) : ¬ (((x + 1)) = (x) + 24 ∨ ((x + 1)) = (x) + 27 ∨ ((x) + 58 ≤ ((x + 1)) ∧ ((x + 1)) ≤ (x) + 67) ∨ (((x + 1)) = (x) + 1 ∧ (0) = 2)) := by omega
theorem dW_552 (x y : Nat) (hxy : x + 76 ≤ y) : ¬ ((((y + 1)) = (y) + 3 ∨ ((y) + 7 ≤ ((y + 1)) ∧ ((y + 1)) ≤ (y) + 11)) ∨ (((y + 1)) = (y) + 1 ∧ (0) = 1)) := by omega
theorem dW_553 (x y : Nat) (hxy : x + 76 ≤ y) : ¬ (((x + 1)) = (x) + 24 ∨ ((x + 1)) = (x) + 27 ∨ ((x) + 58 ≤ ((x + 1)) ∧ ((x + 1)) ≤ (x) + 67) ∨ (((x + 1)) = (x) + 1 ∧ (1) = 2)) := by omega
theorem dW_554 (x y : Nat) (hxy : x + 76 ≤ y) : ¬ ((((y + 1)) = (y) + 3 ∨ ((y) + 7 ≤ ((y + 1)) ∧ ((y + 1)) ≤ (y) + 11)) ∨ (((y + 1)) = (y) + 1 ∧ (4) = 1)) := by omega
theorem dW_555 (x y : Nat) (hxy : x + 76 ≤ y) : ¬ (((x + 1)) = (x) + 24 ∨ ((x + 1)) = (x) + 27 ∨ ((x) + 58 ≤ ((x + 1)) ∧ ((x + 1)) ≤ (x) + 67) ∨ (((x + 1)) = (x) + 1 ∧ (4) = 2)) := by omega
theorem dW_556 (x y : Nat) (hxy : x + 76 ≤ y) : ¬ ((((y + 1)) = (y) + 3 ∨ ((y) + 7 ≤ ((y + 1)) ∧ ((y + 1)) ≤ (y) + 11)) ∨ (((y + 1)) = (y) + 1 ∧ (2) = 1)) := by omega
theorem dW_557 (x y : Nat) (hxy : x + 76 ≤ y) : ¬ (((x + 1)) = (x) + 24 ∨ ((x + 1)) = (x) + 27 ∨ ((x) + 58 ≤ ((x + 1)) ∧ ((x + 1)) ≤ (x) + 67) ∨ (((x + 1)) = (x) + 1 ∧ (6) = 2)) := by omega
theorem dW_558 (x y : Nat) (hxy : x + 76 ≤ y) : ¬ ((((y + 1)) = (y) + 3 ∨ ((y) + 7 ≤ ((y + 1)) ∧ ((y + 1)) ≤ (y) + 11)) ∨ (((y + 1)) = (y) + 1 ∧ (3) = 1)) := by omega
theorem dW_559 (x y : Nat) (hxy : x + 76 ≤ y) : ¬ (((x + 1)) = (x) + 24 ∨ ((x + 1)) = (x) + 27 ∨ ((x) + 58 ≤ ((x + 1)) ∧ ((x + 1)) ≤ (x) + 67) ∨ (((x + 1)) = (x) + 1 ∧ (9) = 2)) := by omega
theorem dW_560 (x y : Nat) (hxy : x + 76 ≤ y) : ¬ ((((y + 1)) = (y) + 3 ∨ ((y) + 7 ≤ ((y + 1)) ∧ ((y + 1)) ≤ (y) + 11)) ∨ (((y + 1)) = (y) + 1 ∧ (5) = 1)) := by omega
theorem dW_561 (x y : Nat) (hxy : x + 76 ≤ y) : ¬ (((x + 1)) = (x) + 24 ∨ ((x + 1)) = (x) + 27 ∨ ((x) + 58 ≤ ((x + 1)) ∧ ((x + 1)) ≤ (x) + 67) ∨ (((x + 1)) = (x) + 1 ∧ (11) = 2)) := by omega
theorem dW_562 (x y : Nat) (hxy : x + 76 ≤ y) : ¬ ((((y + 1)) = (y) + 3 ∨ ((y) + 7 ≤ ((y + 1)) ∧ ((y + 1)) ≤ (y) + 11)) ∨ (((y + 1)) = (y) + 1 ∧ (6) = 1)) := by omega
theorem dW_563 (x y : Nat) (hxy : x + 76 ≤ y) : ∀ j : Nat, j < 9 → ∀ k : Nat, k < 6 → ¬ (((x + 1 + 6 + 1 * j)) = (x) + 24 ∨ ((x + 1 + 6 + 1 * j)) = (x) + 27 ∨ ((x) + 58 ≤ ((x + 1 + 6 + 1 * j)) ∧ ((x + 1 + 6 + 1 * j)) ≤ (x) + 67) ∨ (((x + 1 + 6 + 1 * j)) = (x) + 1 ∧ (k) = 2)) := by intros; omega
theorem dW_564 (x y : Nat) (hxy : x + 76 ≤ y) : ∀ k : Nat, 7 ≤ k → k < 61 → ¬ ((((y + 1)) = (y) + 3 ∨ ((y) + 7 ≤ ((y + 1)) ∧ ((y + 1)) ≤ (y) + 11)) ∨ (((y + 1)) = (y) + 1 ∧ (k) = 1)) := by intros; omega
theorem dW_565 (x y : Nat) (hxy : x + 76 ≤ y) : ∀ j : Nat, j < 6 → ¬ (((x + 1 + 15 + 1 * j)) = (x) + 24 ∨ ((x + 1 + 15 + 1 * j)) = (x) + 27 ∨ ((x) + 58 ≤ ((x + 1 + 15 + 1 * j)) ∧ ((x + 1 + 15 + 1 * j)) ≤ (x) + 67) ∨ (((x + 1 + 15 + 1 * j)) = (x) + 1 ∧ (0) = 2)) := by intros; omega
theorem dW_566 (x y : Nat) (hxy : x + 76 ≤ y) : ∀ j : Nat, j < 6 → ¬ ((((y + 1)) = (y) + 3 ∨ ((y) + 7 ≤ ((y + 1)) ∧ ((y + 1)) ≤ (y) + 11)) ∨ (((y + 1)) = (y) + 1 ∧ ((61 + 2 * j + 0)) = 1)) := by intros; omega
theorem dW_567 (x y : Nat) (hxy : x + 76 ≤ y) : ∀ j : Nat, j < 4 → ¬ (((x + 68 + 2 * j)) = (x) + 24 ∨ ((x + 68 + 2 * j)) = (x) + 27 ∨ ((x) + 58 ≤ ((x + 68 + 2 * j)) ∧ ((x + 68 + 2 * j)) ≤ (x) + 67) ∨ (((x + 68 + 2 * j)) = (x) + 1 ∧ (0) = 2)) := by intros; omega
theorem dW_568 (x y : Nat) (hxy : x + 76 ≤ y) : ∀ j : Nat, j < 4 → ¬ ((((y + 4)) = (y) + 3 ∨ ((y) + 7 ≤ ((y + 4)) ∧ ((y + 4)) ≤ (y) + 11)) ∨ (((y + 4)) = (y) + 1 ∧ (j) = 1)) := by intros; omega
theorem dW_569 (x y : Nat) (hxy : x + 76 ≤ y) : ∀ j : Nat, j < 4 → ¬ (((x + 68 + 2 * j)) = (x) + 24 ∨ ((x + 68 + 2 * j)) = (x) + 27 ∨ ((x) + 58 ≤ ((x + 68 + 2 * j)) ∧ ((x + 68 + 2 * j)) ≤ (x) + 67) ∨ (((x + 68 + 2 * j)) = (x) + 1 ∧ (1) = 2)) := by intros; omega
theorem dW_570 (x y : Nat) (hxy : x + 76 ≤ y) : ∀ j : Nat, j < 4 → ¬ ((((y + 5)) = (y) + 3 ∨ ((y) + 7 ≤ ((y + 5)) ∧ ((y + 5)) ≤ (y) + 11)) ∨ (((y + 5)) = (y) + 1 ∧ (j) = 1)) := by intros; omega
theorem dW_571 (x y : Nat) (hxy : x + 76 ≤ y) : ∀ j : Nat, j < 4 → ∀ k : Nat, k < 24 → ¬ (((x + 68 + 2 * j + 1)) = (x) + 24 ∨ ((x + 68 + 2 * j + 1)) = (x) + 27 ∨ ((x) + 58 ≤ ((x + 68 + 2 * j + 1)) ∧ ((x + 68 + 2 * j + 1)) ≤ (x) + 67) ∨ (((x + 68 + 2 * j + 1)) = (x) + 1 ∧ (k) = 2)) := by intros; omega
theorem dW_572 (x y : Nat) (hxy : x + 76 ≤ y) : ∀ k : Nat, k < 96 → ¬ ((((y + 6)) = (y) + 3 ∨ ((y) + 7 ≤ ((y + 6)) ∧ ((y + 6)) ≤ (y) + 11)) ∨ (((y + 6)) = (y) + 1 ∧ (k) = 1)) := by intros; omega
theorem dW_573 (x y : Nat) (hxy : x + 76 ≤ y) : ¬ (((x + 56)) = (x) + 24 ∨ ((x + 56)) = (x) + 27 ∨ ((x) + 58 ≤ ((x + 56)) ∧ ((x + 56)) ≤ (x) + 67) ∨ (((x + 56)) = (x) + 1 ∧ (1) = 2)) := by omega
theorem dW_574 (x y : Nat) (hxy : x + 76 ≤ y) : ¬ (((y) = (y) + 3 ∨ ((y) + 7 ≤ (y) ∧ (y) ≤ (y) + 11)) ∨ ((y) = (y) + 1 ∧ (18) = 1)) := by omega
theorem dW_575 (x y : Nat) (hxy : x + 76 ≤ y) : ∀ k : Nat, ¬ (((x + 56 + 1)) = (x) + 24 ∨ ((x + 56 + 1)) = (x) + 27 ∨ ((x) + 58 ≤ ((x + 56 + 1)) ∧ ((x + 56 + 1)) ≤ (x) + 67) ∨ (((x + 56 + 1)) = (x) + 1 ∧ (k) = 2)) := by intros; omega
theorem dW_576 (x y : Nat) (hxy : x + 76 ≤ y) : ∀ k : Nat, ¬ ((((y + 12)) = (y) + 3 ∨ ((y) + 7 ≤ ((y + 12)) ∧ ((y + 12)) ≤ (y) + 11)) ∨ (((y + 12)) = (y) + 1 ∧ (k) = 1)) := by intros; omega
theorem dW_577 (x y : Nat) (hxy : x + 76 ≤ y) : ∀ k : Nat, ¬ (((x + 1 + 4)) = (x) + 24 ∨ ((x + 1 + 4)) = (x) + 27 ∨ ((x) + 58 ≤ ((x + 1 + 4)) ∧ ((x + 1 + 4)) ≤ (x) + 67) ∨ (((x + 1 + 4)) = (x) + 1 ∧ (k) = 2)) := by intros; omega
theorem dW_578 (x y : Nat) (hxy : x + 76 ≤ y) : ∀ k : Nat, k < 60 → ¬ ((((y + 1)) = (y) + 3 ∨ ((y) + 7 ≤ ((y + 1)) ∧ ((y + 1)) ≤ (y) + 11)) ∨ (((y + 1)) = (y) + 1 ∧ ((73 + k)) = 1)) := by intros; omega
theorem dW_579 (x y : Nat) (hxy : x + 76 ≤ y) : ∀ a : Nat, (a = x + 1 + 21 ∨ a = x + 1 + 22 ∨ a = x + 1 + 24 ∨ a = x + 1 + 25) → ∀ k : Nat, ¬ ((a) = (x) + 24 ∨ (a) = (x) + 27 ∨ ((x) + 58 ≤ (a) ∧ (a) ≤ (x) + 67) ∨ ((a) = (x) + 1 ∧ (k) = 2)) := by intros; omega
theorem dW_580 (x y : Nat) (hxy : x + 76 ≤ y) : ∀ k : Nat, 157 ≤ k → ¬ ((((y + 1)) = (y) + 3 ∨ ((y) + 7 ≤ ((y + 1)) ∧ ((y + 1)) ≤ (y) + 11)) ∨ (((y + 1)) = (y) + 1 ∧ (k) = 1)) := by intros; omega
theorem dW_581 (x y : Nat) (hxy : x + 76 ≤ y) : ∀ j : Nat, j < 6 → ¬ (((x + 1 + 15 + 1 * j)) = (x) + 24 ∨ ((x + 1 + 15 + 1 * j)) = (x) + 27 ∨ ((x) + 58 ≤ ((x + 1 + 15 + 1 * j)) ∧ ((x + 1 + 15 + 1 * j)) ≤ (x) + 67) ∨ (((x + 1 + 15 + 1 * j)) = (x) + 1 ∧ (1) = 2)) := by intros; omega
theorem dW_582 (x y : Nat) (hxy : x + 76 ≤ y) : ∀ j : Nat, j < 6 → ¬ ((((y + 1)) = (y) + 3 ∨ ((y) + 7 ≤ ((y + 1)) ∧ ((y + 1)) ≤ (y) + 11)) ∨ (((y + 1)) = (y) + 1 ∧ ((61 + 2 * j + 1)) = 1)) := by intros; omega
theorem dW_583 (x y : Nat) (hxy : x + 76 ≤ y) : ∀ k : Nat, k < 24 → ¬ (((x + 1 + 5)) = (x) + 24 ∨ ((x + 1 + 5)) = (x) + 27 ∨ ((x) + 58 ≤ ((x + 1 + 5)) ∧ ((x + 1 + 5)) ≤ (x) + 67) ∨ (((x + 1 + 5)) = (x) + 1 ∧ ((0 + k)) = 2)) := by intros; omega
theorem dW_584 (x y : Nat) (hxy : x + 76 ≤ y) : ∀ k : Nat, k < 24 → ¬ ((((y + 1)) = (y) + 3 ∨ ((y) + 7 ≤ ((y + 1)) ∧ ((y + 1)) ≤ (y) + 11)) ∨ (((y + 1)) = (y) + 1 ∧ ((133 + k)) = 1)) := by intros; omega
theorem dW_585 (x y : Nat) (hxy : x + 76 ≤ y) : ∀ j : Nat, j < 9 → ∀ k : Nat, k < 6 → ¬ (((x + 28 + 6 + 1 * j)) = (x) + 24 ∨ ((x + 28 + 6 + 1 * j)) = (x) + 27 ∨ ((x) + 58 ≤ ((x + 28 + 6 + 1 * j)) ∧ ((x + 28 + 6 + 1 * j)) ≤ (x) + 67) ∨ (((x + 28 + 6 + 1 * j)) = (x) + 1 ∧ (k) = 2)) := by intros; omega
theorem dW_586 (x y : Nat) (hxy : x + 76 ≤ y) : ∀ k : Nat, 7 ≤ k → k < 61 → ¬ ((((y + 2)) = (y) + 3 ∨ ((y) + 7 ≤ ((y + 2)) ∧ ((y + 2)) ≤ (y) + 11)) ∨ (((y + 2)) = (y) + 1 ∧ (k) = 1)) := by intros; omega
theorem dW_587 (x y : Nat) (hxy : x + 76 ≤ y) : ∀ j : Nat, j < 6 → ¬ (((x + 28 + 15 + 1 * j)) = (x) + 24 ∨ ((x + 28 + 15 + 1 * j)) = (x) + 27 ∨ ((x) + 58 ≤ ((x + 28 + 15 + 1 * j)) ∧ ((x + 28 + 15 + 1 * j)) ≤ (x) + 67) ∨ (((x + 28 + 15 + 1 * j)) = (x) + 1 ∧ (0) = 2)) := by intros; omega
theorem dW_588 (x y : Nat) (hxy : x + 76 ≤ y) : ∀ j : Nat, j < 6 → ¬ ((((y + 2)) = (y) + 3 ∨ ((y) + 7 ≤ ((y + 2)) ∧ ((y + 2)) ≤ (y) + 11)) ∨ (((y + 2)) = (y) + 1 ∧ ((61 + 2 * j + 0)) = 1)) := by intros; omega
theorem dW_589 (x y : Nat) (hxy : x + 76 ≤ y) : ¬ (((x + 28)) = (x) + 24 ∨ ((x + 28)) = (x) + 27 ∨ ((x) + 58 ≤ ((x + 28)) ∧ ((x + 28)) ≤ (x) + 67) ∨ (((x + 28)) = (x) + 1 ∧ (9) = 2)) := by omega
theorem dW_590 (x y : Nat) (hxy : x + 76 ≤ y) : ∀ k : Nat, ¬ (((x + 28 + 4)) = (x) + 24 ∨ ((x + 28 + 4)) = (x) + 27 ∨ ((x) + 58 ≤ ((x + 28 + 4)) ∧ ((x + 28 + 4)) ≤ (x) + 67) ∨ (((x + 28 + 4)) = (x) + 1 ∧ (k) = 2)) := by intros; omega
theorem dW_591 (x y : Nat) (hxy : x + 76 ≤ y) : ¬ ((((y + 2)) = (y) + 3 ∨ ((y) + 7 ≤ ((y + 2)) ∧ ((y + 2)) ≤ (y) + 11)) ∨ (((y + 2)) = (y) + 1 ∧ (5) = 1)) := by omega
theorem dW_592 (x y : Nat) (hxy : x + 76 ≤ y) : ∀ k : Nat, k < 60 → ¬ ((((y + 2)) = (y) + 3 ∨ ((y) + 7 ≤ ((y + 2)) ∧ ((y + 2)) ≤ (y) + 11)) ∨ (((y + 2)) = (y) + 1 ∧ ((73 + k)) = 1)) := by intros; omega
theorem dW_593 (x y : Nat) (hxy : x + 76 ≤ y) : ∀ a : Nat, (a = x + 28 + 21 ∨ a = x + 28 + 22 ∨ a = x + 28 + 24 ∨ a = x + 28 + 25) → ∀ k : Nat, ¬ ((a) = (x) + 24 ∨ (a) = (x) + 27 ∨ ((x) + 58 ≤ (a) ∧ (a) ≤ (x) + 67) ∨ ((a) = (x) + 1 ∧ (k) = 2)) := by intros; omega
theorem dW_594 (x y : Nat) (hxy : x + 76 ≤ y) : ∀ k : Nat, 157 ≤ k → ¬ ((((y + 2)) = (y) + 3 ∨ ((y) + 7 ≤ ((y + 2)) ∧ ((y + 2)) ≤ (y) + 11)) ∨ (((y + 2)) = (y) + 1 ∧ (k) = 1)) := by intros; omega
theorem dW_595 (x y : Nat) (hxy : x + 76 ≤ y) : ∀ j : Nat, j < 6 → ¬ (((x + 28 + 15 + 1 * j)) = (x) + 24 ∨ ((x + 28 + 15 + 1 * j)) = (x) + 27 ∨ ((x) + 58 ≤ ((x + 28 + 15 + 1 * j)) ∧ ((x + 28 + 15 + 1 * j)) ≤ (x) + 67) ∨ (((x + 28 + 15 + 1 * j)) = (x) + 1 ∧ (1) = 2)) := by intros; omega
theorem dW_596 (x y : Nat) (hxy : x + 76 ≤ y) : ∀ j : Nat, j < 6 → ¬ ((((y + 2)) = (y) + 3 ∨ ((y) + 7 ≤ ((y + 2)) ∧ ((y + 2)) ≤ (y) + 11)) ∨ (((y + 2)) = (y) + 1 ∧ ((61 + 2 * j + 1)) = 1)) := by intros; omega
theorem dW_597 (x y : Nat) (hxy : x + 76 ≤ y) : ¬ (((x + 28)) = (x) + 24 ∨ ((x + 28)) = (x) + 27 ∨ ((x) + 58 ≤ ((x + 28)) ∧ ((x + 28)) ≤ (x) + 67) ∨ (((x + 28)) = (x) + 1 ∧ (11) = 2)) := by omega
theorem dW_598 (x y : Nat) (hxy : x + 76 ≤ y) : ∀ k : Nat, k < 24 → ¬ (((x + 28 + 5)) = (x) + 24 ∨ ((x + 28 + 5)) = (x) + 27 ∨ ((x) + 58 ≤ ((x + 28 + 5)) ∧ ((x + 28 + 5)) ≤ (x) + 67) ∨ (((x + 28 + 5)) = (x) + 1 ∧ ((0 + k)) = 2)) := by intros; omega
theorem dW_599 (x y : Nat) (hxy : x + 76 ≤ y) : ¬ ((((y + 2)) = (y) + 3 ∨ ((y) + 7 ≤ ((y + 2)) ∧ ((y + 2)) ≤ (y) + 11)) ∨ (((y + 2)) = (y) + 1 ∧ (6) = 1)) := by omega
theorem dW_600 (x y : Nat) (hxy : x + 76 ≤ y) : ∀ k : Nat, k < 24 → ¬ ((((y + 2)) = (y) + 3 ∨ ((y) + 7 ≤ ((y + 2)) ∧ ((y + 2)) ≤ (y) + 11)) ∨ (((y + 2)) = (y) + 1 ∧ ((133 + k)) = 1)) := by intros; omega
set_option maxHeartbeats 4000000 in
set_option maxRecDepth 100000 in
theorem lc_seed {p : Program} {l : Launch} {e : Env} {s : State} {m : MethodId} {below : List Frame} {meth : Method} {c : Code} {b L x y : Nat} {xs : Nat → Int32} {E : zz_E} {Q : State → Prop} (hA : zz_LA p s m c b L xs E x y) (i : Int32) (hi : 0 ≤ i.toInt ∧ i.toInt + 6 ≤ L) (σ : zz_S) (H : Heap) (locs : List Loc) (ls : Array Slot) (hR : zz_RL σ x y) (hQ : zz_RD σ x y) (hP : zz_P E σ H) (hS : va_S (zz_A E) s.heap H locs) (hl : lv_has ls 4 [(0, .ref b), (1, .ref x), (2, .ref y), (3, .int i)])
    (kk : ∀ (σ1 : zz_S) (H1 : Heap) (locs1 : List Loc), zz_RL σ1 x y → zz_RD σ1 x y → zz_P E σ1 H1 → va_S (zz_A E) s.heap H1 locs1 → W p l e room_1 s m #[Value.ref b] below meth c H1 locs1 600000 7302250 Q (F0 m 1384 ls [])) : W p l e room_1 s m #[Value.ref b] below meth c H locs 600000 7302250 Q (F0 m 705 ls []) := by
  obtain ⟨hx, hb, hml, hown, hts, hX, hbl, hbE, hL, gL, gM, hxy, hK⟩ := hA
  have hbA : ¬ zz_A E b := fun h => absurd (hbE b h) (Nat.not_le.mpr hbl)
  have k_1 : (1 : Int32).toInt = 1 := by decide +kernel
  refine lv_aload_n hx hb dL_law_705 rfl (lv_at hl 1 rfl) ?_
  refine lv_aload_n hx hb dL_law_706 rfl (lv_at hl 0 rfl) ?_
  refine lv_iload_n hx hb dL_law_707 rfl (lv_at hl 3 rfl) ?_
  refine lv_iconst (v := 1) hx hb dL_law_708 (by decide) ?_
  refine lv_iadd hx hb dL_law_709 ?_
  refine lv_topi (fun n1 e1 => ?_)
  have f1 : n1.toInt = (i).toInt + (1 : Int32).toInt := zz_addT e1 (by omega) (by omega)
  refine va_sld hx hb hX hbl hbA hS (vp_in_iff.mpr ⟨by omega, by omega⟩) dL_law_710 ?_
  refine lv_topi (fun v2 u2 => ?_)
  refine zz_callVi (As := [.int v2]) (rest := []) ⟨hx, hb, hml, hown, hts⟩ hK hP hS (c_X8_seed l E σ x v2 gL hR.1) (cwV 1 hts gL_law_X8_seed rfl rfl rfl (by decide +kernel) ⟨Nat.le_of_ble_eq_true rfl, Nat.le_of_ble_eq_true rfl⟩) (gL.1) rfl rfl hl.1 rfl (Nat.le_of_ble_eq_true rfl) dL_law_711 ⟨Nat.le_refl _, Nat.le_refl _⟩ (fun r1 σ1 H locs q1 hP hS => ?_)
  try dsimp only at q1
  obtain ⟨w1, p1⟩ := q1
  have B : ∀ a k : Nat, y ≤ a → a ≤ y + 12 → σ1 a k = σ a k := fun a k h1 h2 => w1 a k ((dW_545 x y hxy) a k h1 h2)
  have hJ1 : zz_IM σ1 y := hR.2.1.far B
  refine lv_pop hx hb dL_law_714 rfl ?_
  refine lv_aload_n hx hb dL_law_715 rfl (lv_at hl 2 rfl) ?_
  refine lv_aload_n hx hb dL_law_716 rfl (lv_at hl 0 rfl) ?_
  refine lv_iload_n hx hb dL_law_717 rfl (lv_at hl 3 rfl) ?_
  refine lv_iconst (v := 1) hx hb dL_law_718 (by decide) ?_
  refine lv_iadd hx hb dL_law_719 ?_
  refine lv_topi (fun n4 e4 => ?_)
  have f4 : n4.toInt = (i).toInt + (1 : Int32).toInt := zz_addT e4 (by omega) (by omega)
  refine va_sld hx hb hX hbl hbA hS (vp_in_iff.mpr ⟨by omega, by omega⟩) dL_law_720 ?_
  refine lv_topi (fun v5 u5 => ?_)
  have z5 : v5 = v2 := by rw [u5, u2, e4, e1]
  have zt5 := congrArg Int32.toInt z5
  refine zz_callVi (As := [.int v5]) (rest := []) ⟨hx, hb, hml, hown, hts⟩ hK hP hS (c_X9_seed l E σ1 y v5 gM hJ1) (cwV 1 hts gL_law_X9_seed rfl rfl rfl (by decide +kernel) ⟨Nat.le_of_ble_eq_true rfl, Nat.le_of_ble_eq_true rfl⟩) (gM.1) rfl rfl hl.1 rfl (Nat.le_of_ble_eq_true rfl) dL_law_721 ⟨Nat.le_refl _, Nat.le_refl _⟩ (fun r2 σ2 H locs q2 hP hS => ?_)
  try dsimp only at q2
  obtain ⟨w2, p2⟩ := q2
  have A : ∀ a k : Nat, x ≤ a → a < x + 76 → σ2 a k = σ1 a k := fun a k h1 h2 => w2 a k ((dW_546 x y hxy) a k h1 h2)
  obtain ⟨i1, p1⟩ := p1
  obtain ⟨i2, p2⟩ := p2
  try simp only [z5] at p2
  obtain ⟨h0, h1, h2, h3, h4, h5, h6⟩ := hR.2.2.1
  have ga2 := congrArg Int32.toInt (A (x + 1) 2 (by omega) (by omega))
  have gb2 := congrArg Int32.toInt (B (y + 1) 1 (by omega) (by omega))
  have hz1 := congrArg Int32.toInt p1.2
  have hz2 := congrArg Int32.toInt p2.2
  have rr2 : zz_RR σ2 (x + 1) (y + 1) := ⟨(congrArg Int32.toInt (A (x + 1) 0 (by omega) (by omega))).trans ((congrArg Int32.toInt (w1 (x + 1) 0 (dW_551 x y hxy))).trans (h0.trans ((congrArg Int32.toInt (B (y + 1) 0 (by omega) (by omega))).symm.trans (congrArg Int32.toInt (w2 (y + 1) 0 (dW_552 x y hxy))).symm))), (congrArg Int32.toInt (A (x + 1) 1 (by omega) (by omega))).trans ((congrArg Int32.toInt (w1 (x + 1) 1 (dW_553 x y hxy))).trans (h1.trans ((congrArg Int32.toInt (B (y + 1) 4 (by omega) (by omega))).symm.trans (congrArg Int32.toInt (w2 (y + 1) 4 (dW_554 x y hxy))).symm))), by omega, (congrArg Int32.toInt (A (x + 1) 4 (by omega) (by omega))).trans ((congrArg Int32.toInt (w1 (x + 1) 4 (dW_555 x y hxy))).trans (h3.trans ((congrArg Int32.toInt (B (y + 1) 2 (by omega) (by omega))).symm.trans (congrArg Int32.toInt (w2 (y + 1) 2 (dW_556 x y hxy))).symm))), (congrArg Int32.toInt (A (x + 1) 6 (by omega) (by omega))).trans ((congrArg Int32.toInt (w1 (x + 1) 6 (dW_557 x y hxy))).trans (h4.trans ((congrArg Int32.toInt (B (y + 1) 3 (by omega) (by omega))).symm.trans (congrArg Int32.toInt (w2 (y + 1) 3 (dW_558 x y hxy))).symm))), (congrArg Int32.toInt (A (x + 1) 9 (by omega) (by omega))).trans ((congrArg Int32.toInt (w1 (x + 1) 9 (dW_559 x y hxy))).trans (h5.trans ((congrArg Int32.toInt (B (y + 1) 5 (by omega) (by omega))).symm.trans (congrArg Int32.toInt (w2 (y + 1) 5 (dW_560 x y hxy))).symm))), (congrArg Int32.toInt (A (x + 1) 11 (by omega) (by omega))).trans ((congrArg Int32.toInt (w1 (x + 1) 11 (dW_561 x y hxy))).trans (h6.trans ((congrArg Int32.toInt (B (y + 1) 6 (by omega) (by omega))).symm.trans (congrArg Int32.toInt (w2 (y + 1) 6 (dW_562 x y hxy))).symm)))⟩
  have hRL : zz_RL σ2 x y := hR.real i1 i2 A B rr2 (fun k => w1 (x + 28) k ((dW_547 x y hxy) k)) (w1 x 2 (dW_548 x y hxy)) (fun k => w2 (y + 2) k ((dW_549 x y hxy) k)) (w2 y 2 (dW_550 x y hxy))
  obtain ⟨hqD, hqW, hqK, hqB, hqN, hqC, hqL, hqT, hqP, hqX, hqF, hqG, hqV⟩ := hQ
  obtain ⟨aD, aW, aKD, aKW, aB, aN, aC, aL, aT, aP, aX, aKP, aKX⟩ := zz_aX A
  obtain ⟨bD, bW, bKD, bKW, bB, bN, bC, bL, bT, bP, bX, bKP, bKX⟩ := zz_bM hR.2.1 B
  obtain ⟨aF, aKF, aV, aKV⟩ := zy_aX2 A
  obtain ⟨bF, bKF, bV, bKV⟩ := zy_bM2 B
  have rD : zz_DX σ2 (x + 1) = zz_DM σ2 (y + 1) := by rw [aD, zz_DXk (r := x + 1) w1 (dW_563 x y hxy), zz_DMk (a := y + 1) w2 (dW_564 x y hxy), bD, hqD]
  have rW : zz_PX 0 σ2 (x + 1) = zz_PM 0 σ2 (y + 1) := by rw [aW, zz_PXk (f := 0) (r := x + 1) w1 (dW_565 x y hxy), zz_PMk (f := 0) (a := y + 1) w2 (dW_566 x y hxy), bW, hqW]
  have rB : zz_HX 0 σ2 x = zz_HM σ2 (y + 4) := by rw [aB, zz_HX.eq (f := 0) (x := x) (fun j hj => w1 _ _ ((dW_567 x y hxy) j hj)), zz_HM.eq (a := y + 4) (fun j hj => w2 _ _ ((dW_568 x y hxy) j hj)), bB, hqB]
  have rN : zz_HX 1 σ2 x = zz_HM σ2 (y + 5) := by rw [aN, zz_HX.eq (f := 1) (x := x) (fun j hj => w1 _ _ ((dW_569 x y hxy) j hj)), zz_HM.eq (a := y + 5) (fun j hj => w2 _ _ ((dW_570 x y hxy) j hj)), bN, hqN]
  have rC : zz_CX σ2 x = zz_CM σ2 (y + 6) := by rw [aC, zz_CX.eq (x := x) (fun j hj k hk => w1 _ _ ((dW_571 x y hxy) j hj k hk)), zz_CM.eq (a := y + 6) (fun k hk => w2 _ _ ((dW_572 x y hxy) k hk)), bC, hqC]
  have rL : (σ2 (x + 56) 1).toInt = (σ2 y 18).toInt := by rw [aL, congrArg Int32.toInt (w1 (x + 56) 1 (dW_573 x y hxy)), congrArg Int32.toInt (w2 y 18 (dW_574 x y hxy)), bL, hqL]
  have rT : zz_TV σ2 (x + 56 + 1) = zz_TV σ2 (y + 12) := by rw [aT, zz_TV.eq (a := x + 56 + 1) (b := x + 56 + 1) (fun k _ => w1 _ k ((dW_575 x y hxy) k)), zz_TV.eq (a := y + 12) (b := y + 12) (fun k _ => w2 _ k ((dW_576 x y hxy) k)), bT, hqT]
  have rP : zz_Tp σ2 (x + 1 + 4) (σ2 (x + 1) 9).toInt = zz_Tm σ2 (y + 1) := by rw [aP, zz_Tp.all (a := x + 1 + 4) (b := x + 1 + 4) (congrArg Int32.toInt (w1 (x + 1) 9 (dW_559 x y hxy))) (fun k => w1 _ k ((dW_577 x y hxy) k)), zz_Tm.eq (a := y + 1) (b := y + 1) (w2 (y + 1) 5 (dW_560 x y hxy)) hJ1.1.2.2.2.2.1.2 (fun k hk => w2 (y + 1) (73 + k) ((dW_578 x y hxy) k hk)), bP, hqP]
  have rX : zz_tts (zz_XT σ2 (x + 1)) (zz_MT σ2 (y + 1)) := by rw [aX, zz_XT.all (r := x + 1) (fun a ha k => w1 a k ((dW_579 x y hxy) a ha k)), zz_MT.hi (a := y + 1) (b := y + 1) (fun k hk => w2 (y + 1) k ((dW_580 x y hxy) k hk)), bX]; exact hqX
  have rF : zz_PX 1 σ2 (x + 1) = zz_PM 1 σ2 (y + 1) := by rw [aF, zz_PXk (f := 1) (r := x + 1) w1 (dW_581 x y hxy), zz_PMk (f := 1) (a := y + 1) w2 (dW_582 x y hxy), bF, hqF]
  have rV : zy_wv σ2 (x + 1 + 5) 0 (σ2 (x + 1) 11).toInt = zy_wv σ2 (y + 1) 133 (σ2 (y + 1) 6).toInt := by rw [aV, zy_wv.eq (a := x + 1 + 5) (a1 := x + 1 + 5) (b := 0) (b1 := 0) (congrArg Int32.toInt (w1 (x + 1) 11 (dW_561 x y hxy))) (fun k hk => w1 (x + 1 + 5) (0 + k) ((dW_583 x y hxy) k hk)), zy_wv.eq (a := y + 1) (a1 := y + 1) (b := 133) (b1 := 133) (congrArg Int32.toInt (w2 (y + 1) 6 (dW_562 x y hxy))) (fun k hk => w2 (y + 1) (133 + k) ((dW_584 x y hxy) k hk)), bV, hqV]
  have rG : zy_FB (zz_PM 1 σ2 (y + 1)) := by rw [zz_PMk (f := 1) (a := y + 1) w2 (dW_582 x y hxy), bF]; exact hqG
  have rK : (σ2 x 2).toInt = 0 ∨ (zz_DX σ2 (x + 28) = zz_DM σ2 (y + 2) ∧ zz_PX 0 σ2 (x + 28) = zz_PM 0 σ2 (y + 2) ∧ zz_Tp σ2 (x + 28 + 4) (σ2 (x + 28) 9).toInt = zz_Tm σ2 (y + 2) ∧ zz_tts (zz_XT σ2 (x + 28)) (zz_MT σ2 (y + 2)) ∧ zz_PX 1 σ2 (x + 28) = zz_PM 1 σ2 (y + 2) ∧ zy_FB (zz_PM 1 σ2 (y + 2)) ∧ zy_wv σ2 (x + 28 + 5) 0 (σ2 (x + 28) 11).toInt = zy_wv σ2 (y + 2) 133 (σ2 (y + 2) 6).toInt) := hqK.elim (fun q => Or.inl ((congrArg Int32.toInt ((A x 2 (by omega) (by omega)).trans (w1 x 2 (dW_548 x y hxy)))).trans q)) (fun q => Or.inr ⟨by rw [aKD, zz_DXk (r := x + 28) w1 (dW_585 x y hxy), zz_DMk (a := y + 2) w2 (dW_586 x y hxy), bKD, q.1], by rw [aKW, zz_PXk (f := 0) (r := x + 28) w1 (dW_587 x y hxy), zz_PMk (f := 0) (a := y + 2) w2 (dW_588 x y hxy), bKW, q.2.1], by rw [aKP, zz_Tp.all (a := x + 28 + 4) (b := x + 28 + 4) (congrArg Int32.toInt (w1 (x + 28) 9 (dW_589 x y hxy))) (fun k => w1 _ k ((dW_590 x y hxy) k)), zz_Tm.eq (a := y + 2) (b := y + 2) (w2 (y + 2) 5 (dW_591 x y hxy)) hJ1.2.1.2.2.2.2.1.2 (fun k hk => w2 (y + 2) (73 + k) ((dW_592 x y hxy) k hk)), bKP, q.2.2.1], by rw [aKX, zz_XT.all (r := x + 28) (fun a ha k => w1 a k ((dW_593 x y hxy) a ha k)), zz_MT.hi (a := y + 2) (b := y + 2) (fun k hk => w2 (y + 2) k ((dW_594 x y hxy) k hk)), bKX]; exact q.2.2.2.1, by rw [aKF, zz_PXk (f := 1) (r := x + 28) w1 (dW_595 x y hxy), zz_PMk (f := 1) (a := y + 2) w2 (dW_596 x y hxy), bKF, q.2.2.2.2.1], by rw [zz_PMk (f := 1) (a := y + 2) w2 (dW_596 x y hxy), bKF]; exact q.2.2.2.2.2.1, by rw [aKV, zy_wv.eq (a := x + 28 + 5) (a1 := x + 28 + 5) (b := 0) (b1 := 0) (congrArg Int32.toInt (w1 (x + 28) 11 (dW_597 x y hxy))) (fun k hk => w1 (x + 28 + 5) (0 + k) ((dW_598 x y hxy) k hk)), zy_wv.eq (a := y + 2) (a1 := y + 2) (b := 133) (b1 := 133) (congrArg Int32.toInt (w2 (y + 2) 6 (dW_599 x y hxy))) (fun k hk => w2 (y + 2) (133 + k) ((dW_600 x y hxy) k hk)), bKV, q.2.2.2.2.2.2]⟩)
  have hQ2 : zz_RD σ2 x y := ⟨rD, rW, rK, rB, rN, rC, rL, rT, rP, rX, rF, rG, rV⟩
  refine lv_pop hx hb dL_law_724 rfl ?_
  refine lv_goto (tgt := 1384) hx hb dL_law_725 (by decide) ?_
  exact kk _ _ _ hRL hQ2 hP hS
theorem gL_law_X8_rule : GoodIn wsL_law (wsV RL 84 RX8 yX8_rule wzX8_rule) := wz_coL bm_633 (wz_coL bm_634 (wz_coL bm_635 (wz_coL bm_2 (wz_inL bm_636))))
theorem gL_law_X9_rule : GoodIn wsL_law (wsV RL 87 RX9 yX9_rule wzX9_rule) := wz_coL bm_642 (wz_coL bm_643 (wz_coL bm_644 (wz_coL bm_5 (wz_inL bm_645))))
set_option maxHeartbeats 4000000 in
set_option maxRecDepth 100000 in
theorem lc_rule {p : Program} {l : Launch} {e : Env} {s : State} {m : MethodId} {below : List Frame} {meth : Method} {c : Code} {b L x y : Nat} {xs : Nat → Int32} {E : zz_E} {Q : State → Prop} (hA : zz_LA p s m c b L xs E x y) (i : Int32) (hi : 0 ≤ i.toInt ∧ i.toInt + 6 ≤ L) (σ : zz_S) (H : Heap) (locs : List Loc) (ls : Array Slot) (hR : zz_RL σ x y) (hQ : zz_RD σ x y) (hP : zz_P E σ H) (hS : va_S (zz_A E) s.heap H locs) (hl : lv_has ls 4 [(0, .ref b), (1, .ref x), (2, .ref y), (3, .int i)])
    (kk : ∀ (σ1 : zz_S) (H1 : Heap) (locs1 : List Loc), zz_RL σ1 x y → zz_RD σ1 x y → zz_P E σ1 H1 → va_S (zz_A E) s.heap H1 locs1 → W p l e room_1 s m #[Value.ref b] below meth c H1 locs1 600000 7302250 Q (F0 m 1384 ls [])) : W p l e room_1 s m #[Value.ref b] below meth c H locs 600000 7302250 Q (F0 m 728 ls []) := by
  obtain ⟨hx, hb, hml, hown, hts, hX, hbl, hbE, hL, gL, gM, hxy, hK⟩ := hA
  have hbA : ¬ zz_A E b := fun h => absurd (hbE b h) (Nat.not_le.mpr hbl)
  have k_1 : (1 : Int32).toInt = 1 := by decide +kernel
  have k_2 : (2 : Int32).toInt = 2 := by decide +kernel
  refine lv_aload_n hx hb dL_law_728 rfl (lv_at hl 1 rfl) ?_
  refine lv_aload_n hx hb dL_law_729 rfl (lv_at hl 0 rfl) ?_
  refine lv_iload_n hx hb dL_law_730 rfl (lv_at hl 3 rfl) ?_
  refine lv_iconst (v := 1) hx hb dL_law_731 (by decide) ?_
  refine lv_iadd hx hb dL_law_732 ?_
  refine lv_topi (fun n1 e1 => ?_)
  have f1 : n1.toInt = (i).toInt + (1 : Int32).toInt := zz_addT e1 (by omega) (by omega)
  refine va_sld hx hb hX hbl hbA hS (vp_in_iff.mpr ⟨by omega, by omega⟩) dL_law_733 ?_
  refine lv_topi (fun v2 u2 => ?_)
  refine lv_aload_n hx hb dL_law_734 rfl (lv_at hl 0 rfl) ?_
  refine lv_iload_n hx hb dL_law_735 rfl (lv_at hl 3 rfl) ?_
  refine lv_iconst (v := 2) hx hb dL_law_736 (by decide) ?_
  refine lv_iadd hx hb dL_law_737 ?_
  refine lv_topi (fun n3 e3 => ?_)
  have f3 : n3.toInt = (i).toInt + (2 : Int32).toInt := zz_addT e3 (by omega) (by omega)
  refine va_sld hx hb hX hbl hbA hS (vp_in_iff.mpr ⟨by omega, by omega⟩) dL_law_738 ?_
  refine lv_topi (fun v4 u4 => ?_)
  refine zz_callVi (As := [.int v2, .int v4]) (rest := []) ⟨hx, hb, hml, hown, hts⟩ hK hP hS (c_X8_rule l E σ x v2 v4 gL hR.1 (zy_KK σ x y) (zy_KX hR hQ)) (cwV 2 hts gL_law_X8_rule rfl rfl rfl (by decide +kernel) ⟨Nat.le_of_ble_eq_true rfl, Nat.le_of_ble_eq_true rfl⟩) (gL.1) rfl rfl hl.1 rfl (Nat.le_of_ble_eq_true rfl) dL_law_739 ⟨Nat.le_refl _, Nat.le_refl _⟩ (fun r1 σ1 H locs q1 hP hS => ?_)
  try dsimp only at q1
  obtain ⟨w1, p1⟩ := q1
  have B : ∀ a k : Nat, y ≤ a → a ≤ y + 12 → σ1 a k = σ a k := fun a k h1 h2 => w1 a k ((dW_55 x y hxy) a k h1 h2)
  have hJ1 : zz_IM σ1 y := hR.2.1.far B
  refine lv_pop hx hb dL_law_742 rfl ?_
  refine lv_aload_n hx hb dL_law_743 rfl (lv_at hl 2 rfl) ?_
  refine lv_aload_n hx hb dL_law_744 rfl (lv_at hl 0 rfl) ?_
  refine lv_iload_n hx hb dL_law_745 rfl (lv_at hl 3 rfl) ?_
  refine lv_iconst (v := 1) hx hb dL_law_746 (by decide) ?_
  refine lv_iadd hx hb dL_law_747 ?_
  refine lv_topi (fun n6 e6 => ?_)
  have f6 : n6.toInt = (i).toInt + (1 : Int32).toInt := zz_addT e6 (by omega) (by omega)
  refine va_sld hx hb hX hbl hbA hS (vp_in_iff.mpr ⟨by omega, by omega⟩) dL_law_748 ?_
  refine lv_topi (fun v7 u7 => ?_)
  have z7 : v7 = v2 := by rw [u7, u2, e6, e1]
  have zt7 := congrArg Int32.toInt z7
  refine lv_aload_n hx hb dL_law_749 rfl (lv_at hl 0 rfl) ?_
  refine lv_iload_n hx hb dL_law_750 rfl (lv_at hl 3 rfl) ?_
  refine lv_iconst (v := 2) hx hb dL_law_751 (by decide) ?_
  refine lv_iadd hx hb dL_law_752 ?_
  refine lv_topi (fun n8 e8 => ?_)
  have f8 : n8.toInt = (i).toInt + (2 : Int32).toInt := zz_addT e8 (by omega) (by omega)
  refine va_sld hx hb hX hbl hbA hS (vp_in_iff.mpr ⟨by omega, by omega⟩) dL_law_753 ?_
  refine lv_topi (fun v9 u9 => ?_)
  have z9 : v9 = v4 := by rw [u9, u4, e8, e3]
  have zt9 := congrArg Int32.toInt z9
  refine zz_callVi (As := [.int v7, .int v9]) (rest := []) ⟨hx, hb, hml, hown, hts⟩ hK hP hS (c_X9_rule l E σ1 y v7 v9 gM hJ1 (zy_KK σ x y) (zy_KY hR hQ B)) (cwV 2 hts gL_law_X9_rule rfl rfl rfl (by decide +kernel) ⟨Nat.le_of_ble_eq_true rfl, Nat.le_of_ble_eq_true rfl⟩) (gM.1) rfl rfl hl.1 rfl (Nat.le_of_ble_eq_true rfl) dL_law_754 ⟨Nat.le_refl _, Nat.le_refl _⟩ (fun r2 σ2 H locs q2 hP hS => ?_)
  try dsimp only at q2
  obtain ⟨w2, p2⟩ := q2
  have A : ∀ a k : Nat, x ≤ a → a < x + 76 → σ2 a k = σ1 a k := fun a k h1 h2 => w2 a k ((dW_56 x y hxy) a k h1 h2)
  have i1 : zz_IX σ1 x := hR.1.soft (w1.mono (dW_57 x y hxy))
  have i2 : zz_IM σ2 y := hJ1.soft (w2.mono (dW_58 x y hxy))
  try simp only [z7, z9] at p2
  have hRL : zz_RL σ2 x y := hR.soft i1 i2 A B (fun k => w1 (x + 1) k ((dW_64 x y hxy) k)) (fun k hk => w2 (y + 1) k ((dW_59 x y hxy) k hk)) (fun k => w1 (x + 28) k ((dW_60 x y hxy) k)) (w1 x 2 (dW_61 x y hxy)) (fun k => w2 (y + 2) k ((dW_62 x y hxy) k)) (w2 y 2 (dW_63 x y hxy))
  obtain ⟨hqD, hqW, hqK, hqB, hqN, hqC, hqL, hqT, hqP, hqX, hqF, hqG, hqV⟩ := hQ
  obtain ⟨aD, aW, aKD, aKW, aB, aN, aC, aL, aT, aP, aX, aKP, aKX⟩ := zz_aX A
  obtain ⟨bD, bW, bKD, bKW, bB, bN, bC, bL, bT, bP, bX, bKP, bKX⟩ := zz_bM hR.2.1 B
  obtain ⟨aF, aKF, aV, aKV⟩ := zy_aX2 A
  obtain ⟨bF, bKF, bV, bKV⟩ := zy_bM2 B
  have rD : zz_DX σ2 (x + 1) = zz_DM σ2 (y + 1) := by rw [aD, zz_DXk (r := x + 1) w1 (dW_65 x y hxy), zz_DMk (a := y + 1) w2 (dW_66 x y hxy), bD, hqD]
  have rW : zz_PX 0 σ2 (x + 1) = zz_PM 0 σ2 (y + 1) := by rw [aW, zz_PXk (f := 0) (r := x + 1) w1 (dW_67 x y hxy), zz_PMk (f := 0) (a := y + 1) w2 (dW_68 x y hxy), bW, hqW]
  have rB : zz_HX 0 σ2 x = zz_HM σ2 (y + 4) := by rw [aB, zz_HX.eq (f := 0) (x := x) (fun j hj => w1 _ _ ((dW_69 x y hxy) j hj)), zz_HM.eq (a := y + 4) (fun j hj => w2 _ _ ((dW_70 x y hxy) j hj)), bB, hqB]
  have rN : zz_HX 1 σ2 x = zz_HM σ2 (y + 5) := by rw [aN, zz_HX.eq (f := 1) (x := x) (fun j hj => w1 _ _ ((dW_69 x y hxy) j hj)), zz_HM.eq (a := y + 5) (fun j hj => w2 _ _ ((dW_71 x y hxy) j hj)), bN, hqN]
  have rC : zz_CX σ2 x = zz_CM σ2 (y + 6) := by rw [aC, zz_CX.eq (x := x) (fun j hj k hk => w1 _ _ ((dW_72 x y hxy) j hj k hk)), zz_CM.eq (a := y + 6) (fun k hk => w2 _ _ ((dW_73 x y hxy) k hk)), bC, hqC]
  have rL : (σ2 (x + 56) 1).toInt = (σ2 y 18).toInt := by rw [aL, congrArg Int32.toInt (w1 (x + 56) 1 (dW_74 x y hxy)), congrArg Int32.toInt (w2 y 18 (dW_63 x y hxy)), bL, hqL]
  have rT : zz_TV σ2 (x + 56 + 1) = zz_TV σ2 (y + 12) := by rw [aT, zz_TV.eq (a := x + 56 + 1) (b := x + 56 + 1) (fun k _ => w1 _ k ((dW_75 x y hxy) k)), zz_TV.eq (a := y + 12) (b := y + 12) (fun k _ => w2 _ k ((dW_76 x y hxy) k)), bT, hqT]
  have rP : zz_Tp σ2 (x + 1 + 4) (σ2 (x + 1) 9).toInt = zz_Tm σ2 (y + 1) := by rw [aP, zz_Tp.all (a := x + 1 + 4) (b := x + 1 + 4) (congrArg Int32.toInt (w1 (x + 1) 9 (dW_77 x y hxy))) (fun k => w1 _ k ((dW_78 x y hxy) k)), zz_Tm.eq (a := y + 1) (b := y + 1) (w2 (y + 1) 5 (dW_79 x y hxy)) hJ1.1.2.2.2.2.1.2 (fun k hk => w2 (y + 1) (73 + k) ((dW_80 x y hxy) k hk)), bP, hqP]
  have rX : zz_tts (zz_XT σ2 (x + 1)) (zz_MT σ2 (y + 1)) := by rw [aX, zz_XT.all (r := x + 1) (fun a ha k => w1 a k ((dW_81 x y hxy) a ha k)), zz_MT.hi (a := y + 1) (b := y + 1) (fun k hk => w2 (y + 1) k ((dW_82 x y hxy) k hk)), bX]; exact hqX
  have rF : zz_PX 1 σ2 (x + 1) = zz_PM 1 σ2 (y + 1) := by rw [aF, zz_PXk (f := 1) (r := x + 1) w1 (dW_67 x y hxy), zz_PMk (f := 1) (a := y + 1) w2 (dW_68 x y hxy), bF, hqF]
  have rV : zy_wv σ2 (x + 1 + 5) 0 (σ2 (x + 1) 11).toInt = zy_wv σ2 (y + 1) 133 (σ2 (y + 1) 6).toInt := by rw [aV, zy_wv.eq (a := x + 1 + 5) (a1 := x + 1 + 5) (b := 0) (b1 := 0) (congrArg Int32.toInt (w1 (x + 1) 11 (dW_77 x y hxy))) (fun k hk => w1 (x + 1 + 5) (0 + k) ((dW_83 x y hxy) k hk)), zy_wv.eq (a := y + 1) (a1 := y + 1) (b := 133) (b1 := 133) (congrArg Int32.toInt (w2 (y + 1) 6 (dW_79 x y hxy))) (fun k hk => w2 (y + 1) (133 + k) ((dW_84 x y hxy) k hk)), bV, hqV]
  have rG : zy_FB (zz_PM 1 σ2 (y + 1)) := by rw [zz_PMk (f := 1) (a := y + 1) w2 (dW_68 x y hxy), bF]; exact hqG
  have rK : (σ2 x 2).toInt = 0 ∨ (zz_DX σ2 (x + 28) = zz_DM σ2 (y + 2) ∧ zz_PX 0 σ2 (x + 28) = zz_PM 0 σ2 (y + 2) ∧ zz_Tp σ2 (x + 28 + 4) (σ2 (x + 28) 9).toInt = zz_Tm σ2 (y + 2) ∧ zz_tts (zz_XT σ2 (x + 28)) (zz_MT σ2 (y + 2)) ∧ zz_PX 1 σ2 (x + 28) = zz_PM 1 σ2 (y + 2) ∧ zy_FB (zz_PM 1 σ2 (y + 2)) ∧ zy_wv σ2 (x + 28 + 5) 0 (σ2 (x + 28) 11).toInt = zy_wv σ2 (y + 2) 133 (σ2 (y + 2) 6).toInt) := hqK.elim (fun q => Or.inl ((congrArg Int32.toInt ((A x 2 (by omega) (by omega)).trans (w1 x 2 (dW_61 x y hxy)))).trans q)) (fun q => Or.inr ⟨by rw [aKD, zz_DXk (r := x + 28) w1 (dW_85 x y hxy), zz_DMk (a := y + 2) w2 (dW_86 x y hxy), bKD, q.1], by rw [aKW, zz_PXk (f := 0) (r := x + 28) w1 (dW_87 x y hxy), zz_PMk (f := 0) (a := y + 2) w2 (dW_88 x y hxy), bKW, q.2.1], by rw [aKP, zz_Tp.all (a := x + 28 + 4) (b := x + 28 + 4) (congrArg Int32.toInt (w1 (x + 28) 9 (dW_89 x y hxy))) (fun k => w1 _ k ((dW_90 x y hxy) k)), zz_Tm.eq (a := y + 2) (b := y + 2) (w2 (y + 2) 5 (dW_91 x y hxy)) hJ1.2.1.2.2.2.2.1.2 (fun k hk => w2 (y + 2) (73 + k) ((dW_92 x y hxy) k hk)), bKP, q.2.2.1], by rw [aKX, zz_XT.all (r := x + 28) (fun a ha k => w1 a k ((dW_93 x y hxy) a ha k)), zz_MT.hi (a := y + 2) (b := y + 2) (fun k hk => w2 (y + 2) k ((dW_94 x y hxy) k hk)), bKX]; exact q.2.2.2.1, by rw [aKF, zz_PXk (f := 1) (r := x + 28) w1 (dW_87 x y hxy), zz_PMk (f := 1) (a := y + 2) w2 (dW_88 x y hxy), bKF, q.2.2.2.2.1], by rw [zz_PMk (f := 1) (a := y + 2) w2 (dW_88 x y hxy), bKF]; exact q.2.2.2.2.2.1, by rw [aKV, zy_wv.eq (a := x + 28 + 5) (a1 := x + 28 + 5) (b := 0) (b1 := 0) (congrArg Int32.toInt (w1 (x + 28) 11 (dW_89 x y hxy))) (fun k hk => w1 (x + 28 + 5) (0 + k) ((dW_95 x y hxy) k hk)), zy_wv.eq (a := y + 2) (a1 := y + 2) (b := 133) (b1 := 133) (congrArg Int32.toInt (w2 (y + 2) 6 (dW_91 x y hxy))) (fun k hk => w2 (y + 2) (133 + k) ((dW_96 x y hxy) k hk)), bKV, q.2.2.2.2.2.2]⟩)
  have hQ2 : zz_RD σ2 x y := ⟨rD, rW, rK, rB, rN, rC, rL, rT, rP, rX, rF, rG, rV⟩
  refine lv_pop hx hb dL_law_757 rfl ?_
  refine lv_goto (tgt := 1384) hx hb dL_law_758 (by decide) ?_
  exact kk _ _ _ hRL hQ2 hP hS
theorem gL_law_X8_now : GoodIn wsL_law (wsV RL 88 RX8 yX8_now wzX8_now) := wz_coL bm_649 (wz_coL bm_650 (wz_coL bm_651 (wz_coL bm_2 (wz_inL bm_652))))
theorem gL_law_X9_now : GoodIn wsL_law (wsV RL 91 RX9 yX9_now wzX9_now) := wz_coL bm_658 (wz_coL bm_659 (wz_coL bm_660 (wz_coL bm_5 (wz_inL bm_661))))
set_option maxHeartbeats 4000000 in
set_option maxRecDepth 100000 in
theorem lc_now {p : Program} {l : Launch} {e : Env} {s : State} {m : MethodId} {below : List Frame} {meth : Method} {c : Code} {b L x y : Nat} {xs : Nat → Int32} {E : zz_E} {Q : State → Prop} (hA : zz_LA p s m c b L xs E x y) (i : Int32) (hi : 0 ≤ i.toInt ∧ i.toInt + 6 ≤ L) (σ : zz_S) (H : Heap) (locs : List Loc) (ls : Array Slot) (hR : zz_RL σ x y) (hQ : zz_RD σ x y) (hP : zz_P E σ H) (hS : va_S (zz_A E) s.heap H locs) (hl : lv_has ls 4 [(0, .ref b), (1, .ref x), (2, .ref y), (3, .int i)])
    (kk : ∀ (σ1 : zz_S) (H1 : Heap) (locs1 : List Loc), zz_RL σ1 x y → zz_RD σ1 x y → zz_P E σ1 H1 → va_S (zz_A E) s.heap H1 locs1 → W p l e room_1 s m #[Value.ref b] below meth c H1 locs1 600000 7302250 Q (F0 m 1384 ls [])) : W p l e room_1 s m #[Value.ref b] below meth c H locs 600000 7302250 Q (F0 m 761 ls []) := by
  obtain ⟨hx, hb, hml, hown, hts, hX, hbl, hbE, hL, gL, gM, hxy, hK⟩ := hA
  have hbA : ¬ zz_A E b := fun h => absurd (hbE b h) (Nat.not_le.mpr hbl)
  have k_1 : (1 : Int32).toInt = 1 := by decide +kernel
  refine lv_aload_n hx hb dL_law_761 rfl (lv_at hl 1 rfl) ?_
  refine lv_aload_n hx hb dL_law_762 rfl (lv_at hl 0 rfl) ?_
  refine lv_iload_n hx hb dL_law_763 rfl (lv_at hl 3 rfl) ?_
  refine lv_iconst (v := 1) hx hb dL_law_764 (by decide) ?_
  refine lv_iadd hx hb dL_law_765 ?_
  refine lv_topi (fun n1 e1 => ?_)
  have f1 : n1.toInt = (i).toInt + (1 : Int32).toInt := zz_addT e1 (by omega) (by omega)
  refine va_sld hx hb hX hbl hbA hS (vp_in_iff.mpr ⟨by omega, by omega⟩) dL_law_766 ?_
  refine lv_topi (fun v2 u2 => ?_)
  refine zz_callVi (As := [.int v2]) (rest := []) ⟨hx, hb, hml, hown, hts⟩ hK hP hS (c_X8_now l E σ x v2 gL hR.1 (zy_KK σ x y) (zy_KX hR hQ)) (cwV 1 hts gL_law_X8_now rfl rfl rfl (by decide +kernel) ⟨Nat.le_of_ble_eq_true rfl, Nat.le_of_ble_eq_true rfl⟩) (gL.1) rfl rfl hl.1 rfl (Nat.le_of_ble_eq_true rfl) dL_law_767 ⟨Nat.le_refl _, Nat.le_refl _⟩ (fun r1 σ1 H locs q1 hP hS => ?_)
  try dsimp only at q1
  obtain ⟨w1, p1⟩ := q1
  have B : ∀ a k : Nat, y ≤ a → a ≤ y + 12 → σ1 a k = σ a k := fun a k h1 h2 => w1 a k ((dW_55 x y hxy) a k h1 h2)
  have hJ1 : zz_IM σ1 y := hR.2.1.far B
  refine lv_pop hx hb dL_law_770 rfl ?_
  refine lv_aload_n hx hb dL_law_771 rfl (lv_at hl 2 rfl) ?_
  refine lv_aload_n hx hb dL_law_772 rfl (lv_at hl 0 rfl) ?_
  refine lv_iload_n hx hb dL_law_773 rfl (lv_at hl 3 rfl) ?_
  refine lv_iconst (v := 1) hx hb dL_law_774 (by decide) ?_
  refine lv_iadd hx hb dL_law_775 ?_
  refine lv_topi (fun n4 e4 => ?_)
  have f4 : n4.toInt = (i).toInt + (1 : Int32).toInt := zz_addT e4 (by omega) (by omega)
  refine va_sld hx hb hX hbl hbA hS (vp_in_iff.mpr ⟨by omega, by omega⟩) dL_law_776 ?_
  refine lv_topi (fun v5 u5 => ?_)
  have z5 : v5 = v2 := by rw [u5, u2, e4, e1]
  have zt5 := congrArg Int32.toInt z5
  refine zz_callVi (As := [.int v5]) (rest := []) ⟨hx, hb, hml, hown, hts⟩ hK hP hS (c_X9_now l E σ1 y v5 gM hJ1 (zy_KK σ x y) (zy_KY hR hQ B)) (cwV 1 hts gL_law_X9_now rfl rfl rfl (by decide +kernel) ⟨Nat.le_of_ble_eq_true rfl, Nat.le_of_ble_eq_true rfl⟩) (gM.1) rfl rfl hl.1 rfl (Nat.le_of_ble_eq_true rfl) dL_law_777 ⟨Nat.le_refl _, Nat.le_refl _⟩ (fun r2 σ2 H locs q2 hP hS => ?_)
  try dsimp only at q2
  obtain ⟨w2, p2⟩ := q2
  have A : ∀ a k : Nat, x ≤ a → a < x + 76 → σ2 a k = σ1 a k := fun a k h1 h2 => w2 a k ((dW_56 x y hxy) a k h1 h2)
  have i1 : zz_IX σ1 x := hR.1.soft (w1.mono (dW_57 x y hxy))
  have i2 : zz_IM σ2 y := hJ1.soft (w2.mono (dW_58 x y hxy))
  try simp only [z5] at p2
  have hRL : zz_RL σ2 x y := hR.soft i1 i2 A B (fun k => w1 (x + 1) k ((dW_64 x y hxy) k)) (fun k hk => w2 (y + 1) k ((dW_59 x y hxy) k hk)) (fun k => w1 (x + 28) k ((dW_60 x y hxy) k)) (w1 x 2 (dW_61 x y hxy)) (fun k => w2 (y + 2) k ((dW_62 x y hxy) k)) (w2 y 2 (dW_63 x y hxy))
  obtain ⟨hqD, hqW, hqK, hqB, hqN, hqC, hqL, hqT, hqP, hqX, hqF, hqG, hqV⟩ := hQ
  obtain ⟨aD, aW, aKD, aKW, aB, aN, aC, aL, aT, aP, aX, aKP, aKX⟩ := zz_aX A
  obtain ⟨bD, bW, bKD, bKW, bB, bN, bC, bL, bT, bP, bX, bKP, bKX⟩ := zz_bM hR.2.1 B
  obtain ⟨aF, aKF, aV, aKV⟩ := zy_aX2 A
  obtain ⟨bF, bKF, bV, bKV⟩ := zy_bM2 B
  have rD : zz_DX σ2 (x + 1) = zz_DM σ2 (y + 1) := by rw [aD, zz_DXk (r := x + 1) w1 (dW_65 x y hxy), zz_DMk (a := y + 1) w2 (dW_66 x y hxy), bD, hqD]
  have rW : zz_PX 0 σ2 (x + 1) = zz_PM 0 σ2 (y + 1) := by rw [aW, zz_PXk (f := 0) (r := x + 1) w1 (dW_67 x y hxy), zz_PMk (f := 0) (a := y + 1) w2 (dW_68 x y hxy), bW, hqW]
  have rB : zz_HX 0 σ2 x = zz_HM σ2 (y + 4) := by rw [aB, zz_HX.eq (f := 0) (x := x) (fun j hj => w1 _ _ ((dW_69 x y hxy) j hj)), zz_HM.eq (a := y + 4) (fun j hj => w2 _ _ ((dW_70 x y hxy) j hj)), bB, hqB]
  have rN : zz_HX 1 σ2 x = zz_HM σ2 (y + 5) := by rw [aN, zz_HX.eq (f := 1) (x := x) (fun j hj => w1 _ _ ((dW_69 x y hxy) j hj)), zz_HM.eq (a := y + 5) (fun j hj => w2 _ _ ((dW_71 x y hxy) j hj)), bN, hqN]
  have rC : zz_CX σ2 x = zz_CM σ2 (y + 6) := by rw [aC, zz_CX.eq (x := x) (fun j hj k hk => w1 _ _ ((dW_72 x y hxy) j hj k hk)), zz_CM.eq (a := y + 6) (fun k hk => w2 _ _ ((dW_73 x y hxy) k hk)), bC, hqC]
  have rL : (σ2 (x + 56) 1).toInt = (σ2 y 18).toInt := by rw [aL, congrArg Int32.toInt (w1 (x + 56) 1 (dW_74 x y hxy)), congrArg Int32.toInt (w2 y 18 (dW_63 x y hxy)), bL, hqL]
  have rT : zz_TV σ2 (x + 56 + 1) = zz_TV σ2 (y + 12) := by rw [aT, zz_TV.eq (a := x + 56 + 1) (b := x + 56 + 1) (fun k _ => w1 _ k ((dW_75 x y hxy) k)), zz_TV.eq (a := y + 12) (b := y + 12) (fun k _ => w2 _ k ((dW_76 x y hxy) k)), bT, hqT]
  have rP : zz_Tp σ2 (x + 1 + 4) (σ2 (x + 1) 9).toInt = zz_Tm σ2 (y + 1) := by rw [aP, zz_Tp.all (a := x + 1 + 4) (b := x + 1 + 4) (congrArg Int32.toInt (w1 (x + 1) 9 (dW_77 x y hxy))) (fun k => w1 _ k ((dW_78 x y hxy) k)), zz_Tm.eq (a := y + 1) (b := y + 1) (w2 (y + 1) 5 (dW_79 x y hxy)) hJ1.1.2.2.2.2.1.2 (fun k hk => w2 (y + 1) (73 + k) ((dW_80 x y hxy) k hk)), bP, hqP]
  have rX : zz_tts (zz_XT σ2 (x + 1)) (zz_MT σ2 (y + 1)) := by rw [aX, zz_XT.all (r := x + 1) (fun a ha k => w1 a k ((dW_81 x y hxy) a ha k)), zz_MT.hi (a := y + 1) (b := y + 1) (fun k hk => w2 (y + 1) k ((dW_82 x y hxy) k hk)), bX]; exact hqX
  have rF : zz_PX 1 σ2 (x + 1) = zz_PM 1 σ2 (y + 1) := by rw [aF, zz_PXk (f := 1) (r := x + 1) w1 (dW_67 x y hxy), zz_PMk (f := 1) (a := y + 1) w2 (dW_68 x y hxy), bF, hqF]
  have rV : zy_wv σ2 (x + 1 + 5) 0 (σ2 (x + 1) 11).toInt = zy_wv σ2 (y + 1) 133 (σ2 (y + 1) 6).toInt := by rw [aV, zy_wv.eq (a := x + 1 + 5) (a1 := x + 1 + 5) (b := 0) (b1 := 0) (congrArg Int32.toInt (w1 (x + 1) 11 (dW_77 x y hxy))) (fun k hk => w1 (x + 1 + 5) (0 + k) ((dW_83 x y hxy) k hk)), zy_wv.eq (a := y + 1) (a1 := y + 1) (b := 133) (b1 := 133) (congrArg Int32.toInt (w2 (y + 1) 6 (dW_79 x y hxy))) (fun k hk => w2 (y + 1) (133 + k) ((dW_84 x y hxy) k hk)), bV, hqV]
  have rG : zy_FB (zz_PM 1 σ2 (y + 1)) := by rw [zz_PMk (f := 1) (a := y + 1) w2 (dW_68 x y hxy), bF]; exact hqG
  have rK : (σ2 x 2).toInt = 0 ∨ (zz_DX σ2 (x + 28) = zz_DM σ2 (y + 2) ∧ zz_PX 0 σ2 (x + 28) = zz_PM 0 σ2 (y + 2) ∧ zz_Tp σ2 (x + 28 + 4) (σ2 (x + 28) 9).toInt = zz_Tm σ2 (y + 2) ∧ zz_tts (zz_XT σ2 (x + 28)) (zz_MT σ2 (y + 2)) ∧ zz_PX 1 σ2 (x + 28) = zz_PM 1 σ2 (y + 2) ∧ zy_FB (zz_PM 1 σ2 (y + 2)) ∧ zy_wv σ2 (x + 28 + 5) 0 (σ2 (x + 28) 11).toInt = zy_wv σ2 (y + 2) 133 (σ2 (y + 2) 6).toInt) := hqK.elim (fun q => Or.inl ((congrArg Int32.toInt ((A x 2 (by omega) (by omega)).trans (w1 x 2 (dW_61 x y hxy)))).trans q)) (fun q => Or.inr ⟨by rw [aKD, zz_DXk (r := x + 28) w1 (dW_85 x y hxy), zz_DMk (a := y + 2) w2 (dW_86 x y hxy), bKD, q.1], by rw [aKW, zz_PXk (f := 0) (r := x + 28) w1 (dW_87 x y hxy), zz_PMk (f := 0) (a := y + 2) w2 (dW_88 x y hxy), bKW, q.2.1], by rw [aKP, zz_Tp.all (a := x + 28 + 4) (b := x + 28 + 4) (congrArg Int32.toInt (w1 (x + 28) 9 (dW_89 x y hxy))) (fun k => w1 _ k ((dW_90 x y hxy) k)), zz_Tm.eq (a := y + 2) (b := y + 2) (w2 (y + 2) 5 (dW_91 x y hxy)) hJ1.2.1.2.2.2.2.1.2 (fun k hk => w2 (y + 2) (73 + k) ((dW_92 x y hxy) k hk)), bKP, q.2.2.1], by rw [aKX, zz_XT.all (r := x + 28) (fun a ha k => w1 a k ((dW_93 x y hxy) a ha k)), zz_MT.hi (a := y + 2) (b := y + 2) (fun k hk => w2 (y + 2) k ((dW_94 x y hxy) k hk)), bKX]; exact q.2.2.2.1, by rw [aKF, zz_PXk (f := 1) (r := x + 28) w1 (dW_87 x y hxy), zz_PMk (f := 1) (a := y + 2) w2 (dW_88 x y hxy), bKF, q.2.2.2.2.1], by rw [zz_PMk (f := 1) (a := y + 2) w2 (dW_88 x y hxy), bKF]; exact q.2.2.2.2.2.1, by rw [aKV, zy_wv.eq (a := x + 28 + 5) (a1 := x + 28 + 5) (b := 0) (b1 := 0) (congrArg Int32.toInt (w1 (x + 28) 11 (dW_89 x y hxy))) (fun k hk => w1 (x + 28 + 5) (0 + k) ((dW_95 x y hxy) k hk)), zy_wv.eq (a := y + 2) (a1 := y + 2) (b := 133) (b1 := 133) (congrArg Int32.toInt (w2 (y + 2) 6 (dW_91 x y hxy))) (fun k hk => w2 (y + 2) (133 + k) ((dW_96 x y hxy) k hk)), bKV, q.2.2.2.2.2.2]⟩)
  have hQ2 : zz_RD σ2 x y := ⟨rD, rW, rK, rB, rN, rC, rL, rT, rP, rX, rF, rG, rV⟩
  refine lv_pop hx hb dL_law_780 rfl ?_
  refine lv_goto (tgt := 1384) hx hb dL_law_781 (by decide) ?_
  exact kk _ _ _ hRL hQ2 hP hS
theorem gL_law_X8_then : GoodIn wsL_law (wsV RL 92 RX8 yX8_then wzX8_then) := wz_coL bm_670 (wz_coL bm_671 (wz_coL bm_672 (wz_coL bm_2 (wz_inL bm_673))))
theorem gL_law_X9_then : GoodIn wsL_law (wsV RL 95 RX9 yX9_then wzX9_then) := wz_coL bm_675 (wz_coL bm_676 (wz_coL bm_677 (wz_coL bm_5 (wz_inL bm_678))))
set_option maxHeartbeats 4000000 in
set_option maxRecDepth 100000 in
theorem lc_then {p : Program} {l : Launch} {e : Env} {s : State} {m : MethodId} {below : List Frame} {meth : Method} {c : Code} {b L x y : Nat} {xs : Nat → Int32} {E : zz_E} {Q : State → Prop} (hA : zz_LA p s m c b L xs E x y) (i : Int32) (hi : 0 ≤ i.toInt ∧ i.toInt + 6 ≤ L) (σ : zz_S) (H : Heap) (locs : List Loc) (ls : Array Slot) (hR : zz_RL σ x y) (hQ : zz_RD σ x y) (hP : zz_P E σ H) (hS : va_S (zz_A E) s.heap H locs) (hl : lv_has ls 4 [(0, .ref b), (1, .ref x), (2, .ref y), (3, .int i)])
    (kk : ∀ (σ1 : zz_S) (H1 : Heap) (locs1 : List Loc), zz_RL σ1 x y → zz_RD σ1 x y → zz_P E σ1 H1 → va_S (zz_A E) s.heap H1 locs1 → W p l e room_1 s m #[Value.ref b] below meth c H1 locs1 600000 7302250 Q (F0 m 1384 ls [])) : W p l e room_1 s m #[Value.ref b] below meth c H locs 600000 7302250 Q (F0 m 784 ls []) := by
  obtain ⟨hx, hb, hml, hown, hts, hX, hbl, hbE, hL, gL, gM, hxy, hK⟩ := hA
  have hbA : ¬ zz_A E b := fun h => absurd (hbE b h) (Nat.not_le.mpr hbl)
  have k_1 : (1 : Int32).toInt = 1 := by decide +kernel
  have k_2 : (2 : Int32).toInt = 2 := by decide +kernel
  refine lv_aload_n hx hb dL_law_784 rfl (lv_at hl 1 rfl) ?_
  refine lv_aload_n hx hb dL_law_785 rfl (lv_at hl 0 rfl) ?_
  refine lv_iload_n hx hb dL_law_786 rfl (lv_at hl 3 rfl) ?_
  refine lv_iconst (v := 1) hx hb dL_law_787 (by decide) ?_
  refine lv_iadd hx hb dL_law_788 ?_
  refine lv_topi (fun n1 e1 => ?_)
  have f1 : n1.toInt = (i).toInt + (1 : Int32).toInt := zz_addT e1 (by omega) (by omega)
  refine va_sld hx hb hX hbl hbA hS (vp_in_iff.mpr ⟨by omega, by omega⟩) dL_law_789 ?_
  refine lv_topi (fun v2 u2 => ?_)
  refine lv_aload_n hx hb dL_law_790 rfl (lv_at hl 0 rfl) ?_
  refine lv_iload_n hx hb dL_law_791 rfl (lv_at hl 3 rfl) ?_
  refine lv_iconst (v := 2) hx hb dL_law_792 (by decide) ?_
  refine lv_iadd hx hb dL_law_793 ?_
  refine lv_topi (fun n3 e3 => ?_)
  have f3 : n3.toInt = (i).toInt + (2 : Int32).toInt := zz_addT e3 (by omega) (by omega)
  refine va_sld hx hb hX hbl hbA hS (vp_in_iff.mpr ⟨by omega, by omega⟩) dL_law_794 ?_
  refine lv_topi (fun v4 u4 => ?_)
  refine zz_callVi (As := [.int v2, .int v4]) (rest := []) ⟨hx, hb, hml, hown, hts⟩ hK hP hS (c_X8_then l E σ x v2 v4 gL hR.1 (zy_KK σ x y) (zy_KX hR hQ) (zy_FBX hQ)) (cwV 2 hts gL_law_X8_then rfl rfl rfl (by decide +kernel) ⟨Nat.le_of_ble_eq_true rfl, Nat.le_of_ble_eq_true rfl⟩) (gL.1) rfl rfl hl.1 rfl (Nat.le_of_ble_eq_true rfl) dL_law_795 ⟨Nat.le_refl _, Nat.le_refl _⟩ (fun r1 σ1 H locs q1 hP hS => ?_)
  try dsimp only at q1
  obtain ⟨w1, p1⟩ := q1
  have B : ∀ a k : Nat, y ≤ a → a ≤ y + 12 → σ1 a k = σ a k := fun a k h1 h2 => w1 a k ((dW_55 x y hxy) a k h1 h2)
  have hJ1 : zz_IM σ1 y := hR.2.1.far B
  refine lv_pop hx hb dL_law_798 rfl ?_
  refine lv_aload_n hx hb dL_law_799 rfl (lv_at hl 2 rfl) ?_
  refine lv_aload_n hx hb dL_law_800 rfl (lv_at hl 0 rfl) ?_
  refine lv_iload_n hx hb dL_law_801 rfl (lv_at hl 3 rfl) ?_
  refine lv_iconst (v := 1) hx hb dL_law_802 (by decide) ?_
  refine lv_iadd hx hb dL_law_803 ?_
  refine lv_topi (fun n6 e6 => ?_)
  have f6 : n6.toInt = (i).toInt + (1 : Int32).toInt := zz_addT e6 (by omega) (by omega)
  refine va_sld hx hb hX hbl hbA hS (vp_in_iff.mpr ⟨by omega, by omega⟩) dL_law_804 ?_
  refine lv_topi (fun v7 u7 => ?_)
  have z7 : v7 = v2 := by rw [u7, u2, e6, e1]
  have zt7 := congrArg Int32.toInt z7
  refine lv_aload_n hx hb dL_law_805 rfl (lv_at hl 0 rfl) ?_
  refine lv_iload_n hx hb dL_law_806 rfl (lv_at hl 3 rfl) ?_
  refine lv_iconst (v := 2) hx hb dL_law_807 (by decide) ?_
  refine lv_iadd hx hb dL_law_808 ?_
  refine lv_topi (fun n8 e8 => ?_)
  have f8 : n8.toInt = (i).toInt + (2 : Int32).toInt := zz_addT e8 (by omega) (by omega)
  refine va_sld hx hb hX hbl hbA hS (vp_in_iff.mpr ⟨by omega, by omega⟩) dL_law_809 ?_
  refine lv_topi (fun v9 u9 => ?_)
  have z9 : v9 = v4 := by rw [u9, u4, e8, e3]
  have zt9 := congrArg Int32.toInt z9
  refine zz_callVi (As := [.int v7, .int v9]) (rest := []) ⟨hx, hb, hml, hown, hts⟩ hK hP hS (c_X9_then l E σ1 y v7 v9 gM hJ1 (zy_KK σ x y) (zy_KY hR hQ B) (zy_FBM hQ B)) (cwV 2 hts gL_law_X9_then rfl rfl rfl (by decide +kernel) ⟨Nat.le_of_ble_eq_true rfl, Nat.le_of_ble_eq_true rfl⟩) (gM.1) rfl rfl hl.1 rfl (Nat.le_of_ble_eq_true rfl) dL_law_810 ⟨Nat.le_refl _, Nat.le_refl _⟩ (fun r2 σ2 H locs q2 hP hS => ?_)
  try dsimp only at q2
  obtain ⟨w2, p2⟩ := q2
  have A : ∀ a k : Nat, x ≤ a → a < x + 76 → σ2 a k = σ1 a k := fun a k h1 h2 => w2 a k ((dW_56 x y hxy) a k h1 h2)
  have i1 : zz_IX σ1 x := hR.1.soft (w1.mono (dW_57 x y hxy))
  have i2 : zz_IM σ2 y := hJ1.soft (w2.mono (dW_58 x y hxy))
  try simp only [z7, z9] at p2
  have hRL : zz_RL σ2 x y := hR.soft i1 i2 A B (fun k => w1 (x + 1) k ((dW_64 x y hxy) k)) (fun k hk => w2 (y + 1) k ((dW_59 x y hxy) k hk)) (fun k => w1 (x + 28) k ((dW_60 x y hxy) k)) (w1 x 2 (dW_61 x y hxy)) (fun k => w2 (y + 2) k ((dW_62 x y hxy) k)) (w2 y 2 (dW_63 x y hxy))
  obtain ⟨hqD, hqW, hqK, hqB, hqN, hqC, hqL, hqT, hqP, hqX, hqF, hqG, hqV⟩ := hQ
  obtain ⟨aD, aW, aKD, aKW, aB, aN, aC, aL, aT, aP, aX, aKP, aKX⟩ := zz_aX A
  obtain ⟨bD, bW, bKD, bKW, bB, bN, bC, bL, bT, bP, bX, bKP, bKX⟩ := zz_bM hR.2.1 B
  obtain ⟨aF, aKF, aV, aKV⟩ := zy_aX2 A
  obtain ⟨bF, bKF, bV, bKV⟩ := zy_bM2 B
  have rD : zz_DX σ2 (x + 1) = zz_DM σ2 (y + 1) := by rw [aD, zz_DXk (r := x + 1) w1 (dW_65 x y hxy), zz_DMk (a := y + 1) w2 (dW_66 x y hxy), bD, hqD]
  have rW : zz_PX 0 σ2 (x + 1) = zz_PM 0 σ2 (y + 1) := by rw [aW, zz_PXk (f := 0) (r := x + 1) w1 (dW_67 x y hxy), zz_PMk (f := 0) (a := y + 1) w2 (dW_68 x y hxy), bW, hqW]
  have rB : zz_HX 0 σ2 x = zz_HM σ2 (y + 4) := by rw [aB, zz_HX.eq (f := 0) (x := x) (fun j hj => w1 _ _ ((dW_69 x y hxy) j hj)), zz_HM.eq (a := y + 4) (fun j hj => w2 _ _ ((dW_70 x y hxy) j hj)), bB, hqB]
  have rN : zz_HX 1 σ2 x = zz_HM σ2 (y + 5) := by rw [aN, zz_HX.eq (f := 1) (x := x) (fun j hj => w1 _ _ ((dW_69 x y hxy) j hj)), zz_HM.eq (a := y + 5) (fun j hj => w2 _ _ ((dW_71 x y hxy) j hj)), bN, hqN]
  have rC : zz_CX σ2 x = zz_CM σ2 (y + 6) := by rw [aC, zz_CX.eq (x := x) (fun j hj k hk => w1 _ _ ((dW_72 x y hxy) j hj k hk)), zz_CM.eq (a := y + 6) (fun k hk => w2 _ _ ((dW_73 x y hxy) k hk)), bC, hqC]
  have rL : (σ2 (x + 56) 1).toInt = (σ2 y 18).toInt := by rw [aL, congrArg Int32.toInt (w1 (x + 56) 1 (dW_74 x y hxy)), congrArg Int32.toInt (w2 y 18 (dW_63 x y hxy)), bL, hqL]
  have rT : zz_TV σ2 (x + 56 + 1) = zz_TV σ2 (y + 12) := by rw [aT, zz_TV.eq (a := x + 56 + 1) (b := x + 56 + 1) (fun k _ => w1 _ k ((dW_75 x y hxy) k)), zz_TV.eq (a := y + 12) (b := y + 12) (fun k _ => w2 _ k ((dW_76 x y hxy) k)), bT, hqT]
  have rP : zz_Tp σ2 (x + 1 + 4) (σ2 (x + 1) 9).toInt = zz_Tm σ2 (y + 1) := by rw [aP, zz_Tp.all (a := x + 1 + 4) (b := x + 1 + 4) (congrArg Int32.toInt (w1 (x + 1) 9 (dW_77 x y hxy))) (fun k => w1 _ k ((dW_78 x y hxy) k)), zz_Tm.eq (a := y + 1) (b := y + 1) (w2 (y + 1) 5 (dW_79 x y hxy)) hJ1.1.2.2.2.2.1.2 (fun k hk => w2 (y + 1) (73 + k) ((dW_80 x y hxy) k hk)), bP, hqP]
  have rX : zz_tts (zz_XT σ2 (x + 1)) (zz_MT σ2 (y + 1)) := by rw [aX, zz_XT.all (r := x + 1) (fun a ha k => w1 a k ((dW_81 x y hxy) a ha k)), zz_MT.hi (a := y + 1) (b := y + 1) (fun k hk => w2 (y + 1) k ((dW_82 x y hxy) k hk)), bX]; exact hqX
  have rF : zz_PX 1 σ2 (x + 1) = zz_PM 1 σ2 (y + 1) := by rw [aF, zz_PXk (f := 1) (r := x + 1) w1 (dW_67 x y hxy), zz_PMk (f := 1) (a := y + 1) w2 (dW_68 x y hxy), bF, hqF]
  have rV : zy_wv σ2 (x + 1 + 5) 0 (σ2 (x + 1) 11).toInt = zy_wv σ2 (y + 1) 133 (σ2 (y + 1) 6).toInt := by rw [aV, zy_wv.eq (a := x + 1 + 5) (a1 := x + 1 + 5) (b := 0) (b1 := 0) (congrArg Int32.toInt (w1 (x + 1) 11 (dW_77 x y hxy))) (fun k hk => w1 (x + 1 + 5) (0 + k) ((dW_83 x y hxy) k hk)), zy_wv.eq (a := y + 1) (a1 := y + 1) (b := 133) (b1 := 133) (congrArg Int32.toInt (w2 (y + 1) 6 (dW_79 x y hxy))) (fun k hk => w2 (y + 1) (133 + k) ((dW_84 x y hxy) k hk)), bV, hqV]
  have rG : zy_FB (zz_PM 1 σ2 (y + 1)) := by rw [zz_PMk (f := 1) (a := y + 1) w2 (dW_68 x y hxy), bF]; exact hqG
  have rK : (σ2 x 2).toInt = 0 ∨ (zz_DX σ2 (x + 28) = zz_DM σ2 (y + 2) ∧ zz_PX 0 σ2 (x + 28) = zz_PM 0 σ2 (y + 2) ∧ zz_Tp σ2 (x + 28 + 4) (σ2 (x + 28) 9).toInt = zz_Tm σ2 (y + 2) ∧ zz_tts (zz_XT σ2 (x + 28)) (zz_MT σ2 (y + 2)) ∧ zz_PX 1 σ2 (x + 28) = zz_PM 1 σ2 (y + 2) ∧ zy_FB (zz_PM 1 σ2 (y + 2)) ∧ zy_wv σ2 (x + 28 + 5) 0 (σ2 (x + 28) 11).toInt = zy_wv σ2 (y + 2) 133 (σ2 (y + 2) 6).toInt) := hqK.elim (fun q => Or.inl ((congrArg Int32.toInt ((A x 2 (by omega) (by omega)).trans (w1 x 2 (dW_61 x y hxy)))).trans q)) (fun q => Or.inr ⟨by rw [aKD, zz_DXk (r := x + 28) w1 (dW_85 x y hxy), zz_DMk (a := y + 2) w2 (dW_86 x y hxy), bKD, q.1], by rw [aKW, zz_PXk (f := 0) (r := x + 28) w1 (dW_87 x y hxy), zz_PMk (f := 0) (a := y + 2) w2 (dW_88 x y hxy), bKW, q.2.1], by rw [aKP, zz_Tp.all (a := x + 28 + 4) (b := x + 28 + 4) (congrArg Int32.toInt (w1 (x + 28) 9 (dW_89 x y hxy))) (fun k => w1 _ k ((dW_90 x y hxy) k)), zz_Tm.eq (a := y + 2) (b := y + 2) (w2 (y + 2) 5 (dW_91 x y hxy)) hJ1.2.1.2.2.2.2.1.2 (fun k hk => w2 (y + 2) (73 + k) ((dW_92 x y hxy) k hk)), bKP, q.2.2.1], by rw [aKX, zz_XT.all (r := x + 28) (fun a ha k => w1 a k ((dW_93 x y hxy) a ha k)), zz_MT.hi (a := y + 2) (b := y + 2) (fun k hk => w2 (y + 2) k ((dW_94 x y hxy) k hk)), bKX]; exact q.2.2.2.1, by rw [aKF, zz_PXk (f := 1) (r := x + 28) w1 (dW_87 x y hxy), zz_PMk (f := 1) (a := y + 2) w2 (dW_88 x y hxy), bKF, q.2.2.2.2.1], by rw [zz_PMk (f := 1) (a := y + 2) w2 (dW_88 x y hxy), bKF]; exact q.2.2.2.2.2.1, by rw [aKV, zy_wv.eq (a := x + 28 + 5) (a1 := x + 28 + 5) (b := 0) (b1 := 0) (congrArg Int32.toInt (w1 (x + 28) 11 (dW_89 x y hxy))) (fun k hk => w1 (x + 28 + 5) (0 + k) ((dW_95 x y hxy) k hk)), zy_wv.eq (a := y + 2) (a1 := y + 2) (b := 133) (b1 := 133) (congrArg Int32.toInt (w2 (y + 2) 6 (dW_91 x y hxy))) (fun k hk => w2 (y + 2) (133 + k) ((dW_96 x y hxy) k hk)), bKV, q.2.2.2.2.2.2]⟩)
  have hQ2 : zz_RD σ2 x y := ⟨rD, rW, rK, rB, rN, rC, rL, rT, rP, rX, rF, rG, rV⟩
  refine lv_pop hx hb dL_law_813 rfl ?_
  refine lv_goto (tgt := 1384) hx hb dL_law_814 (by decide) ?_
  exact kk _ _ _ hRL hQ2 hP hS
theorem gL_law_X8_first : GoodIn wsL_law (wsV RL 96 RX8 yX8_first wzX8_first) := wz_coL bm_679 (wz_coL bm_680 (wz_coL bm_681 (wz_coL bm_2 (wz_inL bm_682))))
theorem gL_law_X9_first : GoodIn wsL_law (wsV RL 99 RX9 yX9_first wzX9_first) := wz_coL bm_683 (wz_coL bm_684 (wz_coL bm_685 (wz_coL bm_5 (wz_inL bm_686))))
set_option maxHeartbeats 4000000 in
set_option maxRecDepth 100000 in
theorem lc_first {p : Program} {l : Launch} {e : Env} {s : State} {m : MethodId} {below : List Frame} {meth : Method} {c : Code} {b L x y : Nat} {xs : Nat → Int32} {E : zz_E} {Q : State → Prop} (hA : zz_LA p s m c b L xs E x y) (i : Int32) (hi : 0 ≤ i.toInt ∧ i.toInt + 6 ≤ L) (σ : zz_S) (H : Heap) (locs : List Loc) (ls : Array Slot) (hR : zz_RL σ x y) (hQ : zz_RD σ x y) (hP : zz_P E σ H) (hS : va_S (zz_A E) s.heap H locs) (hl : lv_has ls 4 [(0, .ref b), (1, .ref x), (2, .ref y), (3, .int i)])
    (kk : ∀ (σ1 : zz_S) (H1 : Heap) (locs1 : List Loc), zz_RL σ1 x y → zz_RD σ1 x y → zz_P E σ1 H1 → va_S (zz_A E) s.heap H1 locs1 → W p l e room_1 s m #[Value.ref b] below meth c H1 locs1 600000 7302250 Q (F0 m 1384 ls [])) : W p l e room_1 s m #[Value.ref b] below meth c H locs 600000 7302250 Q (F0 m 817 ls []) := by
  obtain ⟨hx, hb, hml, hown, hts, hX, hbl, hbE, hL, gL, gM, hxy, hK⟩ := hA
  have hbA : ¬ zz_A E b := fun h => absurd (hbE b h) (Nat.not_le.mpr hbl)
  have k_1 : (1 : Int32).toInt = 1 := by decide +kernel
  have k_2 : (2 : Int32).toInt = 2 := by decide +kernel
  refine lv_aload_n hx hb dL_law_817 rfl (lv_at hl 1 rfl) ?_
  refine lv_aload_n hx hb dL_law_818 rfl (lv_at hl 0 rfl) ?_
  refine lv_iload_n hx hb dL_law_819 rfl (lv_at hl 3 rfl) ?_
  refine lv_iconst (v := 1) hx hb dL_law_820 (by decide) ?_
  refine lv_iadd hx hb dL_law_821 ?_
  refine lv_topi (fun n1 e1 => ?_)
  have f1 : n1.toInt = (i).toInt + (1 : Int32).toInt := zz_addT e1 (by omega) (by omega)
  refine va_sld hx hb hX hbl hbA hS (vp_in_iff.mpr ⟨by omega, by omega⟩) dL_law_822 ?_
  refine lv_topi (fun v2 u2 => ?_)
  refine lv_aload_n hx hb dL_law_823 rfl (lv_at hl 0 rfl) ?_
  refine lv_iload_n hx hb dL_law_824 rfl (lv_at hl 3 rfl) ?_
  refine lv_iconst (v := 2) hx hb dL_law_825 (by decide) ?_
  refine lv_iadd hx hb dL_law_826 ?_
  refine lv_topi (fun n3 e3 => ?_)
  have f3 : n3.toInt = (i).toInt + (2 : Int32).toInt := zz_addT e3 (by omega) (by omega)
  refine va_sld hx hb hX hbl hbA hS (vp_in_iff.mpr ⟨by omega, by omega⟩) dL_law_827 ?_
  refine lv_topi (fun v4 u4 => ?_)
  refine zz_callVi (As := [.int v2, .int v4]) (rest := []) ⟨hx, hb, hml, hown, hts⟩ hK hP hS (c_X8_first l E σ x v2 v4 gL hR.1 (zy_KK σ x y) (zy_KX hR hQ)) (cwV 2 hts gL_law_X8_first rfl rfl rfl (by decide +kernel) ⟨Nat.le_of_ble_eq_true rfl, Nat.le_of_ble_eq_true rfl⟩) (gL.1) rfl rfl hl.1 rfl (Nat.le_of_ble_eq_true rfl) dL_law_828 ⟨Nat.le_refl _, Nat.le_refl _⟩ (fun r1 σ1 H locs q1 hP hS => ?_)
  try dsimp only at q1
  obtain ⟨w1, p1⟩ := q1
  have B : ∀ a k : Nat, y ≤ a → a ≤ y + 12 → σ1 a k = σ a k := fun a k h1 h2 => w1 a k ((dW_55 x y hxy) a k h1 h2)
  have hJ1 : zz_IM σ1 y := hR.2.1.far B
  refine lv_pop hx hb dL_law_831 rfl ?_
  refine lv_aload_n hx hb dL_law_832 rfl (lv_at hl 2 rfl) ?_
  refine lv_aload_n hx hb dL_law_833 rfl (lv_at hl 0 rfl) ?_
  refine lv_iload_n hx hb dL_law_834 rfl (lv_at hl 3 rfl) ?_
  refine lv_iconst (v := 1) hx hb dL_law_835 (by decide) ?_
  refine lv_iadd hx hb dL_law_836 ?_
  refine lv_topi (fun n6 e6 => ?_)
  have f6 : n6.toInt = (i).toInt + (1 : Int32).toInt := zz_addT e6 (by omega) (by omega)
  refine va_sld hx hb hX hbl hbA hS (vp_in_iff.mpr ⟨by omega, by omega⟩) dL_law_837 ?_
  refine lv_topi (fun v7 u7 => ?_)
  have z7 : v7 = v2 := by rw [u7, u2, e6, e1]
  have zt7 := congrArg Int32.toInt z7
  refine lv_aload_n hx hb dL_law_838 rfl (lv_at hl 0 rfl) ?_
  refine lv_iload_n hx hb dL_law_839 rfl (lv_at hl 3 rfl) ?_
  refine lv_iconst (v := 2) hx hb dL_law_840 (by decide) ?_
  refine lv_iadd hx hb dL_law_841 ?_
  refine lv_topi (fun n8 e8 => ?_)
  have f8 : n8.toInt = (i).toInt + (2 : Int32).toInt := zz_addT e8 (by omega) (by omega)
  refine va_sld hx hb hX hbl hbA hS (vp_in_iff.mpr ⟨by omega, by omega⟩) dL_law_842 ?_
  refine lv_topi (fun v9 u9 => ?_)
  have z9 : v9 = v4 := by rw [u9, u4, e8, e3]
  have zt9 := congrArg Int32.toInt z9
  refine zz_callVi (As := [.int v7, .int v9]) (rest := []) ⟨hx, hb, hml, hown, hts⟩ hK hP hS (c_X9_first l E σ1 y v7 v9 gM hJ1 (zy_KK σ x y) (zy_KY hR hQ B)) (cwV 2 hts gL_law_X9_first rfl rfl rfl (by decide +kernel) ⟨Nat.le_of_ble_eq_true rfl, Nat.le_of_ble_eq_true rfl⟩) (gM.1) rfl rfl hl.1 rfl (Nat.le_of_ble_eq_true rfl) dL_law_843 ⟨Nat.le_refl _, Nat.le_refl _⟩ (fun r2 σ2 H locs q2 hP hS => ?_)
  try dsimp only at q2
  obtain ⟨w2, p2⟩ := q2
  have A : ∀ a k : Nat, x ≤ a → a < x + 76 → σ2 a k = σ1 a k := fun a k h1 h2 => w2 a k ((dW_56 x y hxy) a k h1 h2)
  have i1 : zz_IX σ1 x := hR.1.soft (w1.mono (dW_57 x y hxy))
  have i2 : zz_IM σ2 y := hJ1.soft (w2.mono (dW_58 x y hxy))
  try simp only [z7, z9] at p2
  have hRL : zz_RL σ2 x y := hR.soft i1 i2 A B (fun k => w1 (x + 1) k ((dW_64 x y hxy) k)) (fun k hk => w2 (y + 1) k ((dW_59 x y hxy) k hk)) (fun k => w1 (x + 28) k ((dW_60 x y hxy) k)) (w1 x 2 (dW_61 x y hxy)) (fun k => w2 (y + 2) k ((dW_62 x y hxy) k)) (w2 y 2 (dW_63 x y hxy))
  obtain ⟨hqD, hqW, hqK, hqB, hqN, hqC, hqL, hqT, hqP, hqX, hqF, hqG, hqV⟩ := hQ
  obtain ⟨aD, aW, aKD, aKW, aB, aN, aC, aL, aT, aP, aX, aKP, aKX⟩ := zz_aX A
  obtain ⟨bD, bW, bKD, bKW, bB, bN, bC, bL, bT, bP, bX, bKP, bKX⟩ := zz_bM hR.2.1 B
  obtain ⟨aF, aKF, aV, aKV⟩ := zy_aX2 A
  obtain ⟨bF, bKF, bV, bKV⟩ := zy_bM2 B
  have rD : zz_DX σ2 (x + 1) = zz_DM σ2 (y + 1) := by rw [aD, zz_DXk (r := x + 1) w1 (dW_65 x y hxy), zz_DMk (a := y + 1) w2 (dW_66 x y hxy), bD, hqD]
  have rW : zz_PX 0 σ2 (x + 1) = zz_PM 0 σ2 (y + 1) := by rw [aW, zz_PXk (f := 0) (r := x + 1) w1 (dW_67 x y hxy), zz_PMk (f := 0) (a := y + 1) w2 (dW_68 x y hxy), bW, hqW]
  have rB : zz_HX 0 σ2 x = zz_HM σ2 (y + 4) := by rw [aB, zz_HX.eq (f := 0) (x := x) (fun j hj => w1 _ _ ((dW_69 x y hxy) j hj)), zz_HM.eq (a := y + 4) (fun j hj => w2 _ _ ((dW_70 x y hxy) j hj)), bB, hqB]
  have rN : zz_HX 1 σ2 x = zz_HM σ2 (y + 5) := by rw [aN, zz_HX.eq (f := 1) (x := x) (fun j hj => w1 _ _ ((dW_69 x y hxy) j hj)), zz_HM.eq (a := y + 5) (fun j hj => w2 _ _ ((dW_71 x y hxy) j hj)), bN, hqN]
  have rC : zz_CX σ2 x = zz_CM σ2 (y + 6) := by rw [aC, zz_CX.eq (x := x) (fun j hj k hk => w1 _ _ ((dW_72 x y hxy) j hj k hk)), zz_CM.eq (a := y + 6) (fun k hk => w2 _ _ ((dW_73 x y hxy) k hk)), bC, hqC]
  have rL : (σ2 (x + 56) 1).toInt = (σ2 y 18).toInt := by rw [aL, congrArg Int32.toInt (w1 (x + 56) 1 (dW_74 x y hxy)), congrArg Int32.toInt (w2 y 18 (dW_63 x y hxy)), bL, hqL]
  have rT : zz_TV σ2 (x + 56 + 1) = zz_TV σ2 (y + 12) := by rw [aT, zz_TV.eq (a := x + 56 + 1) (b := x + 56 + 1) (fun k _ => w1 _ k ((dW_75 x y hxy) k)), zz_TV.eq (a := y + 12) (b := y + 12) (fun k _ => w2 _ k ((dW_76 x y hxy) k)), bT, hqT]
  have rP : zz_Tp σ2 (x + 1 + 4) (σ2 (x + 1) 9).toInt = zz_Tm σ2 (y + 1) := by rw [aP, zz_Tp.all (a := x + 1 + 4) (b := x + 1 + 4) (congrArg Int32.toInt (w1 (x + 1) 9 (dW_77 x y hxy))) (fun k => w1 _ k ((dW_78 x y hxy) k)), zz_Tm.eq (a := y + 1) (b := y + 1) (w2 (y + 1) 5 (dW_79 x y hxy)) hJ1.1.2.2.2.2.1.2 (fun k hk => w2 (y + 1) (73 + k) ((dW_80 x y hxy) k hk)), bP, hqP]
  have rX : zz_tts (zz_XT σ2 (x + 1)) (zz_MT σ2 (y + 1)) := by rw [aX, zz_XT.all (r := x + 1) (fun a ha k => w1 a k ((dW_81 x y hxy) a ha k)), zz_MT.hi (a := y + 1) (b := y + 1) (fun k hk => w2 (y + 1) k ((dW_82 x y hxy) k hk)), bX]; exact hqX
  have rF : zz_PX 1 σ2 (x + 1) = zz_PM 1 σ2 (y + 1) := by rw [aF, zz_PXk (f := 1) (r := x + 1) w1 (dW_67 x y hxy), zz_PMk (f := 1) (a := y + 1) w2 (dW_68 x y hxy), bF, hqF]
  have rV : zy_wv σ2 (x + 1 + 5) 0 (σ2 (x + 1) 11).toInt = zy_wv σ2 (y + 1) 133 (σ2 (y + 1) 6).toInt := by rw [aV, zy_wv.eq (a := x + 1 + 5) (a1 := x + 1 + 5) (b := 0) (b1 := 0) (congrArg Int32.toInt (w1 (x + 1) 11 (dW_77 x y hxy))) (fun k hk => w1 (x + 1 + 5) (0 + k) ((dW_83 x y hxy) k hk)), zy_wv.eq (a := y + 1) (a1 := y + 1) (b := 133) (b1 := 133) (congrArg Int32.toInt (w2 (y + 1) 6 (dW_79 x y hxy))) (fun k hk => w2 (y + 1) (133 + k) ((dW_84 x y hxy) k hk)), bV, hqV]
  have rG : zy_FB (zz_PM 1 σ2 (y + 1)) := by rw [zz_PMk (f := 1) (a := y + 1) w2 (dW_68 x y hxy), bF]; exact hqG
  have rK : (σ2 x 2).toInt = 0 ∨ (zz_DX σ2 (x + 28) = zz_DM σ2 (y + 2) ∧ zz_PX 0 σ2 (x + 28) = zz_PM 0 σ2 (y + 2) ∧ zz_Tp σ2 (x + 28 + 4) (σ2 (x + 28) 9).toInt = zz_Tm σ2 (y + 2) ∧ zz_tts (zz_XT σ2 (x + 28)) (zz_MT σ2 (y + 2)) ∧ zz_PX 1 σ2 (x + 28) = zz_PM 1 σ2 (y + 2) ∧ zy_FB (zz_PM 1 σ2 (y + 2)) ∧ zy_wv σ2 (x + 28 + 5) 0 (σ2 (x + 28) 11).toInt = zy_wv σ2 (y + 2) 133 (σ2 (y + 2) 6).toInt) := hqK.elim (fun q => Or.inl ((congrArg Int32.toInt ((A x 2 (by omega) (by omega)).trans (w1 x 2 (dW_61 x y hxy)))).trans q)) (fun q => Or.inr ⟨by rw [aKD, zz_DXk (r := x + 28) w1 (dW_85 x y hxy), zz_DMk (a := y + 2) w2 (dW_86 x y hxy), bKD, q.1], by rw [aKW, zz_PXk (f := 0) (r := x + 28) w1 (dW_87 x y hxy), zz_PMk (f := 0) (a := y + 2) w2 (dW_88 x y hxy), bKW, q.2.1], by rw [aKP, zz_Tp.all (a := x + 28 + 4) (b := x + 28 + 4) (congrArg Int32.toInt (w1 (x + 28) 9 (dW_89 x y hxy))) (fun k => w1 _ k ((dW_90 x y hxy) k)), zz_Tm.eq (a := y + 2) (b := y + 2) (w2 (y + 2) 5 (dW_91 x y hxy)) hJ1.2.1.2.2.2.2.1.2 (fun k hk => w2 (y + 2) (73 + k) ((dW_92 x y hxy) k hk)), bKP, q.2.2.1], by rw [aKX, zz_XT.all (r := x + 28) (fun a ha k => w1 a k ((dW_93 x y hxy) a ha k)), zz_MT.hi (a := y + 2) (b := y + 2) (fun k hk => w2 (y + 2) k ((dW_94 x y hxy) k hk)), bKX]; exact q.2.2.2.1, by rw [aKF, zz_PXk (f := 1) (r := x + 28) w1 (dW_87 x y hxy), zz_PMk (f := 1) (a := y + 2) w2 (dW_88 x y hxy), bKF, q.2.2.2.2.1], by rw [zz_PMk (f := 1) (a := y + 2) w2 (dW_88 x y hxy), bKF]; exact q.2.2.2.2.2.1, by rw [aKV, zy_wv.eq (a := x + 28 + 5) (a1 := x + 28 + 5) (b := 0) (b1 := 0) (congrArg Int32.toInt (w1 (x + 28) 11 (dW_89 x y hxy))) (fun k hk => w1 (x + 28 + 5) (0 + k) ((dW_95 x y hxy) k hk)), zy_wv.eq (a := y + 2) (a1 := y + 2) (b := 133) (b1 := 133) (congrArg Int32.toInt (w2 (y + 2) 6 (dW_91 x y hxy))) (fun k hk => w2 (y + 2) (133 + k) ((dW_96 x y hxy) k hk)), bKV, q.2.2.2.2.2.2]⟩)
  have hQ2 : zz_RD σ2 x y := ⟨rD, rW, rK, rB, rN, rC, rL, rT, rP, rX, rF, rG, rV⟩
  refine lv_pop hx hb dL_law_846 rfl ?_
  refine lv_goto (tgt := 1384) hx hb dL_law_847 (by decide) ?_
  exact kk _ _ _ hRL hQ2 hP hS
