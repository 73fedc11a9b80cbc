theorem zz_IW.copy {σ σ1 : zz_S} {a b : Nat} (h : zz_IW σ a) (e : ∀ k : Nat, k < 399 → σ1 b k = σ a k) : zz_IW σ1 b := by
  obtain ⟨h0, h1, h2, h3, h4, h5, hM, hT⟩ := h
  refine ⟨by rw [e 0 (by omega)]; exact h0, by rw [e 4 (by omega)]; exact h1, by rw [e 2 (by omega)]; exact h2, by rw [e 3 (by omega)]; exact h3, by rw [e 5 (by omega)]; exact h4, by rw [e 6 (by omega)]; exact h5, fun j hj => by rw [e _ (by omega)]; exact hM j hj, fun u hu => ?_⟩
  obtain ⟨q1, q2⟩ := hT u hu
  unfold zz_IT
  rw [e (157 + 121 * u) (by omega)]
  exact ⟨q1, zz_wf_eq q2 (fun j hj => e _ (by omega)) (fun j hj => e _ (by omega))⟩
/-- a TEXT is gone: its steps are none -/
theorem zz_IW.none {σ σ1 : zz_S} {a u : Nat} (h : zz_IW σ a) (hu : u < 2) (hv : (σ1 a (157 + 121 * u)).toInt = 0) (e : ∀ k : Nat, k ≠ 157 + 121 * u → σ1 a k = σ a k) : zz_IW σ1 a := by
  obtain ⟨h0, h1, h2, h3, h4, h5, hM, hT⟩ := h
  refine ⟨by rw [e 0 (by omega)]; exact h0, by rw [e 4 (by omega)]; exact h1, by rw [e 2 (by omega)]; exact h2, by rw [e 3 (by omega)]; exact h3, by rw [e 5 (by omega)]; exact h4, by rw [e 6 (by omega)]; exact h5, fun j hj => by rw [e _ (by omega)]; exact hM j hj, fun w hw => ?_⟩
  by_cases hwu : w = u
  · subst hwu
    unfold zz_IT
    refine ⟨by omega, fun k hk => ?_⟩
    rw [hv] at hk
    exact absurd hk (by simp)
  · obtain ⟨q1, q2⟩ := hT w hw
    unfold zz_IT
    rw [e (157 + 121 * w) (by omega)]
    exact ⟨q1, zz_wf_eq q2 (fun j hj => e _ (by omega)) (fun j hj => e _ (by omega))⟩
