/-! ===== what stays true of the class's cells between calls ===== -/
def zz_IR (σ : zz_S) (r : Nat) : Prop := (0 ≤ (σ r 0).toInt ∧ (σ r 0).toInt ≤ 9999) ∧ (13 ≤ (σ r 1).toInt ∧ (σ r 1).toInt ≤ 24) ∧ (0 ≤ (σ r 4).toInt ∧ (σ r 4).toInt ≤ 9) ∧ (0 ≤ (σ r 6).toInt ∧ (σ r 6).toInt ≤ 6) ∧ (0 ≤ (σ r 9).toInt ∧ (σ r 9).toInt ≤ 60) ∧ (0 ≤ (σ r 11).toInt ∧ (σ r 11).toInt ≤ 24) ∧ (∀ j : Nat, j < 2 → 0 ≤ (σ (r + 21 + 3 * j) 1).toInt ∧ (σ (r + 21 + 3 * j) 1).toInt ≤ 60) ∧ (∀ j : Nat, j < 60 → fits .byte (.int (σ (r + 4) j)) = true) ∧ (∀ j : Nat, j < 2 → (σ (r + 21 + 3 * j) 0).toInt = 0 ∨ (σ (r + 21 + 3 * j) 0).toInt = 1) ∧ zz_ID (zz_DX σ r)
def zz_IX (σ : zz_S) (x : Nat) : Prop := zz_IR σ (x + 1) ∧ zz_IR σ (x + 28) ∧ (∀ j : Nat, j < 4 → 0 ≤ (σ (x + 68 + 2 * j) 1).toInt ∧ (σ (x + 68 + 2 * j) 1).toInt ≤ 24) ∧ (0 ≤ (σ (x + 56) 1).toInt ∧ (σ (x + 56) 1).toInt ≤ 30)
theorem zz_IR.keep {σ σ1 : zz_S} {r : Nat} (h : zz_IR σ r) (h1 : ∀ k, σ1 r k = σ r k) (h2 : ∀ k, σ1 (r + 4) k = σ (r + 4) k) (h3 : ∀ j : Nat, j < 2 → ∀ k, σ1 (r + 21 + 3 * j) k = σ (r + 21 + 3 * j) k) (h4 : ∀ j : Nat, j < 9 → ∀ f : Nat, f < 6 → σ1 (r + 6 + 1 * j) f = σ (r + 6 + 1 * j) f) : zz_IR σ1 r := by
  obtain ⟨a1, a2, a3, a4, a5, a6, a7, a8, a9, a10⟩ := h
  refine ⟨by rw [h1]; exact a1, by rw [h1]; exact a2, by rw [h1]; exact a3, by rw [h1]; exact a4, by rw [h1]; exact a5, by rw [h1]; exact a6, fun j hj => by rw [h3 j hj]; exact a7 j hj, fun j hj => by rw [h2]; exact a8 j hj, fun j hj => by rw [h3 j hj]; exact a9 j hj, by rw [zz_DX.eq h4]; exact a10⟩
/-- the realm's numbers may change, within bounds; kept, sheets, texts, tape stay -/
theorem zz_IX.scal {σ σ1 : zz_S} {h0 : Nat} (h : zz_IX σ h0) (hC : zz_ch (fun a k => (a = h0 + 24 ∨ a = h0 + 27 ∨ (h0 + 58 ≤ a ∧ a ≤ h0 + 67)) ∨ (a = h0 + 1 ∨ (h0 + 6 ≤ a ∧ a < h0 + 22))) σ σ1) (b0 : 0 ≤ (σ1 (h0 + 1) 0).toInt ∧ (σ1 (h0 + 1) 0).toInt ≤ 9999) (b1 : 13 ≤ (σ1 (h0 + 1) 1).toInt ∧ (σ1 (h0 + 1) 1).toInt ≤ 24) (b4 : 0 ≤ (σ1 (h0 + 1) 4).toInt ∧ (σ1 (h0 + 1) 4).toInt ≤ 9) (b6 : 0 ≤ (σ1 (h0 + 1) 6).toInt ∧ (σ1 (h0 + 1) 6).toInt ≤ 6) (b9 : 0 ≤ (σ1 (h0 + 1) 9).toInt ∧ (σ1 (h0 + 1) 9).toInt ≤ 60) (b11 : 0 ≤ (σ1 (h0 + 1) 11).toInt ∧ (σ1 (h0 + 1) 11).toInt ≤ 24) (bD : zz_ID (zz_DX σ1 (h0 + 1))) : zz_IX σ1 h0 := by
  obtain ⟨⟨a1, a2, a3, a4, a5, a6, a7, a8, a9, a10⟩, hk, hs, hp⟩ := h
  refine ⟨⟨b0, b1, b4, b6, b9, b11, fun j hj => ?_, fun j hj => ?_, fun j hj => ?_, bD⟩, hk.keep (fun k => hC _ _ (by dsimp only; omega)) (fun k => hC _ _ (by dsimp only; omega)) (fun j hj k => hC _ _ (by dsimp only; omega)) (fun j hj f hf => hC _ _ (by dsimp only; omega)), fun j hj => ?_, ?_⟩
  · rw [hC _ _ (by dsimp only; omega)]; exact a7 j hj
  · rw [hC _ _ (by dsimp only; omega)]; exact a8 j hj
  · rw [hC _ _ (by dsimp only; omega)]; exact a9 j hj
  · rw [hC _ _ (by dsimp only; omega)]; exact hs j hj
  · rw [hC _ _ (by dsimp only; omega)]; exact hp
theorem zz_IX.soft {σ σ1 : zz_S} {h0 : Nat} (h : zz_IX σ h0) (hC : zz_ch (fun a k => (a = h0 + 24 ∨ a = h0 + 27 ∨ (h0 + 58 ≤ a ∧ a ≤ h0 + 67))) σ σ1) : zz_IX σ1 h0 := by
  have e : ∀ k, σ1 (h0 + 1) k = σ (h0 + 1) k := fun k => hC _ _ (by dsimp only; omega)
  have h1 := h.1
  exact h.scal (hC.mono (fun a k q => Or.inl q)) (by rw [e]; exact h1.1) (by rw [e]; exact h1.2.1) (by rw [e]; exact h1.2.2.1) (by rw [e]; exact h1.2.2.2.1) (by rw [e]; exact h1.2.2.2.2.1) (by rw [e]; exact h1.2.2.2.2.2.1) (by rw [zz_DX.eq (fun j hj f hf => hC _ _ (by dsimp only; omega))]; exact h1.2.2.2.2.2.2.2.2.2)
