/-! ===== what a write leaves, without a search ===== -/
theorem zz_w {σ σ1 : zz_S} {a k b j : Nat} {v : Int32} (e : σ1 = zz_u σ a k v) (h : ¬ (b = a ∧ j = k)) : σ1 b j = σ b j := by
  rw [e]
  exact zz_un h
theorem zz_w1 {σ σ1 : zz_S} {a k : Nat} {v : Int32} (e : σ1 = zz_u σ a k v) : σ1 a k = v := by
  rw [e]
  exact zz_us _ _ _ _
theorem zz_na {a i j : Nat} (h : i ≠ j) : a + i ≠ a + j := fun q => h (Nat.add_left_cancel q)
