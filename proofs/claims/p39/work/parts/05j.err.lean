/-! ===== which ERROR an act has told ===== -/
/-- the counts at a: one more of e; none more, if e is below 0 -/
def zy_ee (σ σ1 : zz_S) (a : Nat) (e : Int) : Prop := ∀ k : Nat, k < 7 → σ1 a k = if (k : Int) = e then σ a k + 1 else σ a k
theorem zy_ee.rf (σ : zz_S) (a : Nat) : zy_ee σ σ a (-1) := fun k _ => (if_neg (by omega)).symm
theorem zy_ee.u {σ σ1 σ2 : zz_S} {a b k : Nat} {v : Int32} {e : Int} (h : zy_ee σ σ1 a e) (w : σ2 = zz_u σ1 b k v) (hne : a ≠ b) : zy_ee σ σ2 a e := fun j hj => by
  rw [w, zz_un (fun q => hne q.1)]
  exact h j hj
theorem zy_ee.cp {σ σ1 σ2 : zz_S} {a a0 b sp dp n : Nat} {e : Int} (h : zy_ee σ σ1 a e) (w : σ2 = zz_cp σ1 a0 b sp dp n) (hne : a ≠ b) : zy_ee σ σ2 a e := fun j hj => by
  rw [w, zz_cpb hne]
  exact h j hj
theorem zy_ee.ch {S : Nat → Nat → Prop} {σ σ1 σ2 : zz_S} {a : Nat} {e : Int} (h : zy_ee σ σ1 a e) (w : zz_ch S σ1 σ2) (hS : ∀ k : Nat, ¬ S a k) : zy_ee σ σ2 a e := fun j hj => by
  rw [w a j (hS j)]
  exact h j hj
theorem zy_ee.er {σ σ1 σ2 : zz_S} {a : Nat} {e : Int} (h : zy_ee σ σ1 a (-1)) (g : zy_ee σ1 σ2 a e) : zy_ee σ σ2 a e := fun j hj => by
  have h1 := h j hj
  rw [if_neg (by omega)] at h1
  rw [g j hj, h1]
theorem zy_ee.mk {σ σ1 : zz_S} {a j i : Nat} {v : Int32} {e : Int} (w : σ1 = zz_u σ a j v) (hi : i = j) (hv : v = σ a i + 1) (hj : (j : Int) = e) : zy_ee σ σ1 a e := fun k _ => by
  subst hi
  by_cases q : (k : Int) = e
  · rw [if_pos q, w, show k = i from by omega, zz_us, hv]
  · rw [if_neg q, w, zz_un (fun z => q (by omega))]
theorem zy_ee.of {σ σ1 : zz_S} {a : Nat} {e e2 : Int} (h : zy_ee σ σ1 a e) (q : e2 = e) : zy_ee σ σ1 a e2 := by rw [q]; exact h
/-- the ERROR that an answer is -/
def zy_en (r : Int) : Int := if r < -1000000000 then -1000000000 - r else -1
theorem zy_ee.ok {σ σ1 : zz_S} {a : Nat} {r : Int} (h : zy_ee σ σ1 a (-1)) (q : -1000000000 ≤ r) : zy_ee σ σ1 a (zy_en r) := h.of (if_neg (by omega))
theorem zy_ee.fin {σ σ1 : zz_S} {a : Nat} {r e : Int} (h : zy_ee σ σ1 a e) (q : r = -1000000000 - e) (p : 1 ≤ e) : zy_ee σ σ1 a (zy_en r) := h.of ((if_pos (by omega)).trans (by omega))
theorem zy_ee.p {σ σ1 : zz_S} {a : Nat} {c : Prop} {d : Decidable c} {e e1 e2 : Int} (h : zy_ee σ σ1 a e) (q : c) (p : e1 = e) : zy_ee σ σ1 a (@ite _ c d e1 e2) := h.of ((if_pos q).trans p)
theorem zy_ee.n {σ σ1 : zz_S} {a : Nat} {c : Prop} {d : Decidable c} {e e1 e2 : Int} (h : zy_ee σ σ1 a e) (q : ¬ c) (p : e2 = e) : zy_ee σ σ1 a (@ite _ c d e1 e2) := h.of ((if_neg q).trans p)
/-- class and reference have told the same counts, and tell one more alike -/
theorem zy_ee.tie {σ σ1 σ2 : zz_S} {x y : Nat} {e1 e2 : Int} (h : ∀ k : Nat, k < 7 → σ (x + 65) k = σ (y + 3) k) (g1 : zy_ee σ σ1 (x + 65) e1) (g2 : zy_ee σ1 σ2 (y + 3) e2) (he : e1 = e2) (A : ∀ a k : Nat, x ≤ a → a < x + 76 → σ2 a k = σ1 a k) (B : ∀ a k : Nat, y ≤ a → a ≤ y + 12 → σ1 a k = σ a k) : ∀ k : Nat, k < 7 → σ2 (x + 65) k = σ2 (y + 3) k := fun k hk => by
  subst he
  rw [A _ k (by omega) (by omega), g1 k hk, g2 k hk, B _ k (by omega) (by omega), h k hk]
