theorem zz_IW.scal {σ σ1 : zz_S} {a : Nat} (h : zz_IW σ a) (he : ∀ k, 157 ≤ k → σ1 a k = σ a k) (hM : ∀ j : Nat, j < 9 → 0 ≤ (σ1 a (8 + 6 * j)).toInt ∧ (σ1 a (8 + 6 * j)).toInt ≤ 9) (b0 : 0 ≤ (σ1 a 0).toInt ∧ (σ1 a 0).toInt ≤ 9999) (b4 : 0 ≤ (σ1 a 4).toInt ∧ (σ1 a 4).toInt ≤ 24) (b2 : 0 ≤ (σ1 a 2).toInt ∧ (σ1 a 2).toInt ≤ 9) (b3 : 0 ≤ (σ1 a 3).toInt ∧ (σ1 a 3).toInt ≤ 6) (b5 : 0 ≤ (σ1 a 5).toInt ∧ (σ1 a 5).toInt ≤ 60) (b6 : 0 ≤ (σ1 a 6).toInt ∧ (σ1 a 6).toInt ≤ 24) : zz_IW σ1 a := by
  obtain ⟨-, -, -, -, -, -, -, hT⟩ := h
  refine ⟨b0, b4, b2, b3, b5, b6, hM, fun u hu => ?_⟩
  obtain ⟨h1, h2⟩ := hT u hu
  unfold zz_IT
  rw [he (157 + 121 * u) (by omega)]
  exact ⟨h1, zz_wf_eq h2 (fun j _ => he _ (by omega)) (fun j _ => he _ (by omega))⟩
theorem zz_IM.row {σ σ1 : zz_S} {h0 : Nat} (h : zz_IM σ h0) (hW : zz_IW σ1 (h0 + 1)) (hC : zz_ch (fun a k => (a = h0 + 3 ∨ (h0 + 6 ≤ a ∧ a ≤ h0 + 12)) ∨ a = h0 + 1) σ σ1) : zz_IM σ1 h0 :=
  ⟨hW, h.2.1.keep (fun k => hC _ _ (by dsimp only; omega)), fun j hj => by rw [hC _ _ (by dsimp only; omega)]; exact h.2.2.1 j hj, by rw [hC _ _ (by dsimp only; omega)]; exact h.2.2.2⟩
theorem zz_IM.soft {σ σ1 : zz_S} {h0 : Nat} (h : zz_IM σ h0) (hC : zz_ch (fun a k => (a = h0 + 3 ∨ (h0 + 6 ≤ a ∧ a ≤ h0 + 12))) σ σ1) : zz_IM σ1 h0 :=
  h.row (h.1.keep (fun k => hC _ _ (by dsimp only; omega))) (hC.mono (fun a k q => Or.inl q))
theorem zz_ushr8 {x y s8 : Int32} (h8 : s8 = 8) (e : y = (x.toUInt32 >>> (s8.toUInt32 &&& Int32.toUInt32 31)).toInt32) : 0 ≤ y.toInt := by
  subst h8
  have h := pk_ushr x 8 8 (by decide +kernel)
  rw [← e] at h
  have hl : x.toBitVec.toNat < 2 ^ 32 := x.toBitVec.isLt
  have h2 : y.toBitVec.toNat < 2 ^ 31 := by rw [h]; omega
  show 0 ≤ y.toBitVec.toInt
  rw [BitVec.toInt_eq_toNat_of_lt (by omega)]
  omega
