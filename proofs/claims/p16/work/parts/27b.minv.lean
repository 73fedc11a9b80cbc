theorem zz_IW.copy {σ σ1 : zz_S} {a b : Nat} (h : zz_IW σ a) (e : ∀ k : Nat, k < 399 → σ1 b k = σ a k) : zz_IW σ1 b := by
  obtain ⟨h0, h1, h2, h3, h4, h5, hM, hT⟩ := h
  refine ⟨by rw [e 0 (by omega)]; exact h0, by rw [e 4 (by omega)]; exact h1, by rw [e 2 (by omega)]; exact h2, by rw [e 3 (by omega)]; exact h3, by rw [e 5 (by omega)]; exact h4, by rw [e 6 (by omega)]; exact h5, fun j hj => by rw [e _ (by omega)]; exact hM j hj, fun u hu => ?_⟩
  obtain ⟨q1, q2⟩ := hT u hu
  unfold zz_IT
  rw [e (157 + 121 * u) (by omega)]
  exact ⟨q1, zz_wf_eq q2 (fun j hj => e _ (by omega)) (fun j hj => e _ (by omega))⟩
/-- a TEXT is gone: its steps are none -/
theorem zz_IW.none {σ σ1 : zz_S} {a u : Nat} (h : zz_IW σ a) (hu : u < 2) (hv : (σ1 a (157 + 121 * u)).toInt = 0) (e : ∀ k : Nat, k ≠ 157 + 121 * u → σ1 a k = σ a k) : zz_IW σ1 a := by
  obtain ⟨h0, h1, h2, h3, h4, h5, hM, hT⟩ := h
  refine ⟨by rw [e 0 (by omega)]; exact h0, by rw [e 4 (by omega)]; exact h1, by rw [e 2 (by omega)]; exact h2, by rw [e 3 (by omega)]; exact h3, by rw [e 5 (by omega)]; exact h4, by rw [e 6 (by omega)]; exact h5, fun j hj => by rw [e _ (by omega)]; exact hM j hj, fun w hw => ?_⟩
  by_cases hwu : w = u
  · subst hwu
    unfold zz_IT
    refine ⟨by omega, fun k hk => ?_⟩
    rw [hv] at hk
    exact absurd hk (by simp)
  · obtain ⟨q1, q2⟩ := hT w hw
    unfold zz_IT
    rw [e (157 + 121 * w) (by omega)]
    exact ⟨q1, zz_wf_eq q2 (fun j hj => e _ (by omega)) (fun j hj => e _ (by omega))⟩
theorem zz_Tm.more {σa σb σc : zz_S} {a j : Nat} {v n : Int32} {T : Int → Int} {c0 i i2 : Int} {wd : Int64} (w1 : σb = zz_u σa a j v) (w2 : σc = zz_u σb a 5 n) (h : zz_Tm σa a = zz_fd T c0 wd i) (hc : (σa a 5).toInt = c0 + i) (h0 : 0 ≤ c0 + i) (hj : (j : Int) = 73 + (σa a 5).toInt) (hn : n.toInt = (σa a 5).toInt + 1) (hi : 0 ≤ i) (hii : i2 = i + 1) (hv : v.toInt = zz_by wd i) : zz_Tm σc a = zz_fd T c0 wd i2 := by
  refine zz_fd_s hii hi hv (fun p => ?_)
  rw [← h]
  simp only [zz_Tm]
  have e5 : σc a 5 = n := by rw [w2]; exact zz_us _ _ _ _
  rw [e5, hn]
  by_cases e : p = c0 + i
  · rw [if_pos e, if_pos (by omega), w2, zz_un (fun q => absurd q.2 (by omega)), w1, show 73 + p.toNat = j from by omega, zz_us]
  · rw [if_neg e]
    by_cases q : 0 ≤ p ∧ p < (σa a 5).toInt
    · rw [if_pos q, if_pos (by omega), w2, zz_un (fun q => absurd q.2 (by omega)), w1, zz_un (fun z => by omega)]
    · rw [if_neg q, if_neg (by omega)]
theorem zz_MT.zero {σ σ1 : zz_S} {a k u : Nat} {d : Int} {v : Int32} (w : σ1 = zz_u σ a k v) (hk : k = 157 + 121 * u) (hd : (u : Int) = d) (hu : u < 2) (hv : v.toInt = 0) (hl : ∀ j : Nat, j < 2 → (σ a (157 + 121 * j)).toInt ≤ 60) : zz_MT σ1 a = zz_mw (zz_MT σ a) d (0, (fun _ => 0), (fun _ => 0)) := by
  subst hk
  have z : ∀ c : Nat, zz_MC σ1 a c 0 = fun _ => 0 := fun c => by
    funext k
    exact if_neg (by omega)
  funext j
  simp only [zz_MT, zz_mw]
  by_cases e : j = u
  · subst e
    rw [if_pos hu, if_pos hd, show (σ1 a (157 + 121 * j)).toInt = 0 from by rw [w, zz_us]; exact hv, z, z]
  · rw [if_neg (show ¬ (j : Int) = d by omega)]
    by_cases q : j < 2
    · have e1 : σ1 a (157 + 121 * j) = σ a (157 + 121 * j) := by rw [w]; exact zz_un (by omega)
      rw [if_pos q, if_pos q, e1]
      have e2 : ∀ c : Nat, (c = 158 + 121 * j ∨ c = 218 + 121 * j) → zz_MC σ1 a c (σ a (157 + 121 * j)).toInt = zz_MC σ a c (σ a (157 + 121 * j)).toInt := by
        intro c hc
        have l9 := hl j q
        funext k
        simp only [zz_MC]
        by_cases p : (k : Int) < (σ a (157 + 121 * j)).toInt
        · rw [if_pos p, if_pos p, w, zz_un (by omega)]
        · rw [if_neg p, if_neg p]
      rw [e2 _ (Or.inl rfl), e2 _ (Or.inr rfl)]
    · rw [if_neg q, if_neg q]
