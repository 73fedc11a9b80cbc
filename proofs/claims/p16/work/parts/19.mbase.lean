/-! ===== the reference: rows that are read from one array that stays; what stays true of its cells ===== -/
/-- how high the pile stands before step k -/
def zz_dep (c : Nat → Int32) : Nat → Int
  | 0 => 0
  | k + 1 => if (c k).toInt = 1 ∨ (c k).toInt = 2 then zz_dep c k + 1 else if (c k).toInt = 3 then zz_dep c k else zz_dep c k - 1
/-- steps that never take from an empty pile -/
def zz_wf (c w : Nat → Int32) (len : Nat) : Prop := ∀ k : Nat, k < len → ((c k).toInt = 2 → 0 ≤ (w k).toInt ∧ (w k).toInt ≤ 2) ∧ ((c k).toInt = 3 → 1 ≤ zz_dep c k) ∧ ((c k).toInt ≠ 1 → (c k).toInt ≠ 2 → (c k).toInt ≠ 3 → 2 ≤ zz_dep c k)
theorem zz_dep_le (c : Nat → Int32) : ∀ k : Nat, zz_dep c k ≤ (k : Int) := by
  intro k
  induction k with
  | zero => simp [zz_dep]
  | succ k ih =>
    simp only [zz_dep]
    split
    · omega
    · split <;> omega
theorem zz_dep_eq {c c' : Nat → Int32} : ∀ {k : Nat}, (∀ j, j < k → c' j = c j) → zz_dep c' k = zz_dep c k := by
  intro k
  induction k with
  | zero => intro _; rfl
  | succ k ih =>
    intro h
    simp only [zz_dep]
    rw [h k (Nat.lt_succ_self k), ih (fun j hj => h j (Nat.lt_succ_of_lt hj))]
theorem zz_wf_eq {c c' w w' : Nat → Int32} {len : Nat} (h : zz_wf c w len) (hc : ∀ j, j < len → c' j = c j) (hw : ∀ j, j < len → w' j = w j) : zz_wf c' w' len := by
  intro k hk
  have e : zz_dep c' k = zz_dep c k := zz_dep_eq (fun j hj => hc j (Nat.lt_trans hj hk))
  rw [hc k hk, hw k hk, e]
  exact h k hk
/-- one of the reference's two rows -/
def zz_IT (σ : zz_S) (a u : Nat) : Prop := (0 ≤ (σ a (157 + 121 * u)).toInt ∧ (σ a (157 + 121 * u)).toInt ≤ 60) ∧ zz_wf (fun k => σ a (158 + 121 * u + k)) (fun k => σ a (218 + 121 * u + k)) (σ a (157 + 121 * u)).toInt.toNat
def zz_IW (σ : zz_S) (a : Nat) : Prop := (0 ≤ (σ a 0).toInt ∧ (σ a 0).toInt ≤ 9999) ∧ (0 ≤ (σ a 4).toInt ∧ (σ a 4).toInt ≤ 24) ∧ (0 ≤ (σ a 2).toInt ∧ (σ a 2).toInt ≤ 9) ∧ (0 ≤ (σ a 3).toInt ∧ (σ a 3).toInt ≤ 6) ∧ (0 ≤ (σ a 5).toInt ∧ (σ a 5).toInt ≤ 60) ∧ (0 ≤ (σ a 6).toInt ∧ (σ a 6).toInt ≤ 24) ∧ (∀ j : Nat, j < 9 → 0 ≤ (σ a (8 + 6 * j)).toInt ∧ (σ a (8 + 6 * j)).toInt ≤ 9) ∧ (∀ u : Nat, u < 2 → zz_IT σ a u)
def zz_IM (σ : zz_S) (y : Nat) : Prop := zz_IW σ (y + 1) ∧ zz_IW σ (y + 2) ∧ (∀ j : Nat, j < 4 → 0 ≤ (σ (y + 5) j).toInt ∧ (σ (y + 5) j).toInt ≤ 24) ∧ (0 ≤ (σ y 18).toInt ∧ (σ y 18).toInt ≤ 30)
theorem zz_IW.keep {σ σ1 : zz_S} {a : Nat} (h : zz_IW σ a) (e : ∀ k, σ1 a k = σ a k) : zz_IW σ1 a := by
  have e2 : σ1 a = σ a := funext e
  unfold zz_IW zz_IT at *
  rw [e2]
  exact h
theorem zz_bits {x y z : Int32} (h : ¬ x.toInt = 0) (e : z = x - 1) (e2 : y = x &&& z) : y.toBitVec.toNat < x.toBitVec.toNat := by
  subst e2; subst e
  have h0 : x.toBitVec.toNat ≠ 0 := by
    intro q
    apply h
    have : x.toBitVec = 0#32 := BitVec.eq_of_toNat_eq (by simpa using q)
    show x.toBitVec.toInt = 0
    rw [this]
    decide
  have h1 : (x &&& (x - 1)).toBitVec.toNat ≤ (x - 1).toBitVec.toNat := by
    rw [Int32.toBitVec_and, BitVec.toNat_and]
    exact Nat.and_le_right
  have h2 : (x - 1).toBitVec.toNat = x.toBitVec.toNat - 1 := by
    have hl : x.toBitVec.toNat < 2 ^ 32 := x.toBitVec.isLt
    rw [Int32.toBitVec_sub, BitVec.toNat_sub]
    have : (1 : Int32).toBitVec.toNat = 1 := by decide
    rw [this]
    omega
  omega
