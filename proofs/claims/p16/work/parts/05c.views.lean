/-! ===== what the calls show, in whole numbers: DREAMS, WONTS, FINED, SHEETS ===== -/
def zz_DX (σ : zz_S) (r : Nat) : Nat → Nat → Int := fun j f => if j < 9 ∧ f < 6 then (σ (r + 6 + 1 * j) f).toInt else 0
def zz_DM (σ : zz_S) (a : Nat) : Nat → Nat → Int := fun j f => if j < 9 ∧ f < 6 then (σ a (7 + 6 * j + f)).toInt else 0
def zz_PX (f : Nat) (σ : zz_S) (r : Nat) : Nat → Int := fun j => if j < 6 then (σ (r + 15 + 1 * j) f).toInt else 0
def zz_PM (f : Nat) (σ : zz_S) (a : Nat) : Nat → Int := fun j => if j < 6 then (σ a (61 + 2 * j + f)).toInt else 0
def zz_HX (f : Nat) (σ : zz_S) (x : Nat) : Nat → Int := fun j => if j < 4 then (σ (x + 68 + 2 * j) f).toInt else 0
def zz_HM (σ : zz_S) (a : Nat) : Nat → Int := fun j => if j < 4 then (σ a j).toInt else 0
def zz_CX (σ : zz_S) (x : Nat) : Nat → Nat → Int := fun j k => if j < 4 ∧ k < 24 then (σ (x + 68 + 2 * j + 1) k).toInt else 0
def zz_CM (σ : zz_S) (a : Nat) : Nat → Nat → Int := fun j k => if j < 4 ∧ k < 24 then (σ a (24 * j + k)).toInt else 0
def zz_ds (D : Nat → Nat → Int) (d : Int) (f : Nat) (v : Int) : Nat → Nat → Int := fun j g => if (j : Int) = d ∧ g = f then v else D j g
def zz_dn (D : Nat → Nat → Int) (d k m t b y : Int) : Nat → Nat → Int := zz_ds (zz_ds (zz_ds (zz_ds (zz_ds (zz_ds D d 0 k) d 1 m) d 2 t) d 3 b) d 4 y) d 5 0
def zz_wn (V : Nat → Int) (d v : Int) : Nat → Int := fun j => if (j : Int) = d then v else V j
theorem zz_DX.at {σ : zz_S} {r j f : Nat} (hj : j < 9) (hf : f < 6) : zz_DX σ r j f = (σ (r + 6 + 1 * j) f).toInt := if_pos ⟨hj, hf⟩
theorem zz_DM.at {σ : zz_S} {a j f : Nat} (hj : j < 9) (hf : f < 6) : zz_DM σ a j f = (σ a (7 + 6 * j + f)).toInt := if_pos ⟨hj, hf⟩
theorem zz_PX.at {σ : zz_S} {r j f : Nat} (hj : j < 6) : zz_PX f σ r j = (σ (r + 15 + 1 * j) f).toInt := if_pos hj
theorem zz_PM.at {σ : zz_S} {a j f : Nat} (hj : j < 6) : zz_PM f σ a j = (σ a (61 + 2 * j + f)).toInt := if_pos hj
theorem zz_HX.at {σ : zz_S} {x j f : Nat} (hj : j < 4) : zz_HX f σ x j = (σ (x + 68 + 2 * j) f).toInt := if_pos hj
theorem zz_HM.at {σ : zz_S} {a j : Nat} (hj : j < 4) : zz_HM σ a j = (σ a j).toInt := if_pos hj
theorem zz_CX.at {σ : zz_S} {x j k : Nat} (hj : j < 4) (hk : k < 24) : zz_CX σ x j k = (σ (x + 68 + 2 * j + 1) k).toInt := if_pos ⟨hj, hk⟩
theorem zz_CM.at {σ : zz_S} {a j k : Nat} (hj : j < 4) (hk : k < 24) : zz_CM σ a j k = (σ a (24 * j + k)).toInt := if_pos ⟨hj, hk⟩
/-- views that stay -/
theorem zz_DX.eq {σ σ1 : zz_S} {r r1 : Nat} (h : ∀ j : Nat, j < 9 → ∀ f : Nat, f < 6 → σ1 (r1 + 6 + 1 * j) f = σ (r + 6 + 1 * j) f) : zz_DX σ1 r1 = zz_DX σ r := by
  funext j f
  simp only [zz_DX]
  by_cases q : j < 9 ∧ f < 6
  · rw [if_pos q, if_pos q, h j q.1 f q.2]
  · rw [if_neg q, if_neg q]
theorem zz_DM.eq {σ σ1 : zz_S} {a a1 : Nat} (h : ∀ k : Nat, 7 ≤ k → k < 61 → σ1 a1 k = σ a k) : zz_DM σ1 a1 = zz_DM σ a := by
  funext j f
  simp only [zz_DM]
  by_cases q : j < 9 ∧ f < 6
  · rw [if_pos q, if_pos q, h _ (by omega) (by omega)]
  · rw [if_neg q, if_neg q]
theorem zz_PX.eq {σ σ1 : zz_S} {r r1 f : Nat} (h : ∀ j : Nat, j < 6 → σ1 (r1 + 15 + 1 * j) f = σ (r + 15 + 1 * j) f) : zz_PX f σ1 r1 = zz_PX f σ r := by
  funext j
  simp only [zz_PX]
  by_cases q : j < 6
  · rw [if_pos q, if_pos q, h j q]
  · rw [if_neg q, if_neg q]
theorem zz_PM.eq {σ σ1 : zz_S} {a a1 f : Nat} (h : ∀ j : Nat, j < 6 → σ1 a1 (61 + 2 * j + f) = σ a (61 + 2 * j + f)) : zz_PM f σ1 a1 = zz_PM f σ a := by
  funext j
  simp only [zz_PM]
  by_cases q : j < 6
  · rw [if_pos q, if_pos q, h j q]
  · rw [if_neg q, if_neg q]
theorem zz_HX.eq {σ σ1 : zz_S} {x f : Nat} (h : ∀ j : Nat, j < 4 → σ1 (x + 68 + 2 * j) f = σ (x + 68 + 2 * j) f) : zz_HX f σ1 x = zz_HX f σ x := by
  funext j
  simp only [zz_HX]
  by_cases q : j < 4
  · rw [if_pos q, if_pos q, h j q]
  · rw [if_neg q, if_neg q]
theorem zz_HM.eq {σ σ1 : zz_S} {a : Nat} (h : ∀ j : Nat, j < 4 → σ1 a j = σ a j) : zz_HM σ1 a = zz_HM σ a := by
  funext j
  simp only [zz_HM]
  by_cases q : j < 4
  · rw [if_pos q, if_pos q, h j q]
  · rw [if_neg q, if_neg q]
theorem zz_CX.eq {σ σ1 : zz_S} {x : Nat} (h : ∀ j : Nat, j < 4 → ∀ k : Nat, k < 24 → σ1 (x + 68 + 2 * j + 1) k = σ (x + 68 + 2 * j + 1) k) : zz_CX σ1 x = zz_CX σ x := by
  funext j k
  simp only [zz_CX]
  by_cases q : j < 4 ∧ k < 24
  · rw [if_pos q, if_pos q, h j q.1 k q.2]
  · rw [if_neg q, if_neg q]
theorem zz_CM.eq {σ σ1 : zz_S} {a : Nat} (h : ∀ k : Nat, k < 96 → σ1 a k = σ a k) : zz_CM σ1 a = zz_CM σ a := by
  funext j k
  simp only [zz_CM]
  by_cases q : j < 4 ∧ k < 24
  · rw [if_pos q, if_pos q, h _ (by omega)]
  · rw [if_neg q, if_neg q]
/-- one write, seen by a view -/
theorem zz_DXw {σ σ1 : zz_S} {r j f : Nat} {v : Int32} {d : Int} (w : σ1 = zz_u σ (r + 6 + 1 * j) f v) (hd : (j : Int) = d) (hj : j < 9) (hf : f < 6) : zz_DX σ1 r = zz_ds (zz_DX σ r) d f v.toInt := by
  funext i g
  simp only [zz_DX, zz_ds]
  by_cases q : (i : Int) = d ∧ g = f
  · obtain ⟨q1, q2⟩ := q
    have e : i = j := by omega
    subst e; subst q2
    rw [if_pos ⟨hj, hf⟩, if_pos ⟨hd, rfl⟩, w, zz_us]
  · rw [if_neg q]
    by_cases p : i < 9 ∧ g < 6
    · rw [if_pos p, if_pos p, w, zz_un (fun h => q ⟨by omega, h.2⟩)]
    · rw [if_neg p, if_neg p]
theorem zz_DXo {σ σ1 : zz_S} {r a k : Nat} {v : Int32} (w : σ1 = zz_u σ a k v) (h : ∀ j : Nat, j < 9 → r + 6 + 1 * j ≠ a) : zz_DX σ1 r = zz_DX σ r := zz_DX.eq (fun j hj f _ => by rw [w, zz_un (fun q => h j hj q.1)])
theorem zz_DXk {S : Nat → Nat → Prop} {σ σ1 : zz_S} {r : Nat} (w : zz_ch S σ σ1) (h : ∀ j : Nat, j < 9 → ∀ k : Nat, k < 6 → ¬ S (r + 6 + 1 * j) k) : zz_DX σ1 r = zz_DX σ r := zz_DX.eq (fun j hj f hf => w _ _ (h j hj f hf))
theorem zz_DMw {σ σ1 : zz_S} {a i : Nat} {v : Int32} (j f : Nat) {d : Int} (w : σ1 = zz_u σ a i v) (hi : i = 7 + 6 * j + f) (hd : (j : Int) = d) (hj : j < 9) (hf : f < 6) : zz_DM σ1 a = zz_ds (zz_DM σ a) d f v.toInt := by
  funext p g
  simp only [zz_DM, zz_ds]
  by_cases q : (p : Int) = d ∧ g = f
  · obtain ⟨q1, q2⟩ := q
    have e : p = j := by omega
    subst e; subst q2
    rw [if_pos ⟨hj, hf⟩, if_pos ⟨hd, rfl⟩, w, hi, zz_us]
  · rw [if_neg q]
    by_cases u : p < 9 ∧ g < 6
    · rw [if_pos u, if_pos u, w, zz_un (fun h => q (by omega))]
    · rw [if_neg u, if_neg u]
theorem zz_DMo {σ σ1 : zz_S} {a b i : Nat} {v : Int32} (w : σ1 = zz_u σ b i v) (h : b = a → i < 7 ∨ 61 ≤ i) : zz_DM σ1 a = zz_DM σ a := zz_DM.eq (fun k h1 h2 => by rw [w, zz_un (fun q => by have := h q.1.symm; omega)])
theorem zz_DMk {S : Nat → Nat → Prop} {σ σ1 : zz_S} {a : Nat} (w : zz_ch S σ σ1) (h : ∀ k : Nat, 7 ≤ k → k < 61 → ¬ S a k) : zz_DM σ1 a = zz_DM σ a := zz_DM.eq (fun k h1 h2 => w _ _ (h k h1 h2))
theorem zz_PXw {σ σ1 : zz_S} {r j f : Nat} {v : Int32} {d : Int} (w : σ1 = zz_u σ (r + 15 + 1 * j) f v) (hd : (j : Int) = d) (hj : j < 6) : zz_PX f σ1 r = zz_wn (zz_PX f σ r) d v.toInt := by
  funext i
  simp only [zz_PX, zz_wn]
  by_cases q : (i : Int) = d
  · have e : i = j := by omega
    subst e
    rw [if_pos hj, if_pos q, w, zz_us]
  · rw [if_neg q]
    by_cases p : i < 6
    · rw [if_pos p, if_pos p, w, zz_un (fun h => q (by omega))]
    · rw [if_neg p, if_neg p]
theorem zz_PXo {f : Nat} {σ σ1 : zz_S} {r a k : Nat} {v : Int32} (w : σ1 = zz_u σ a k v) (h : ∀ j : Nat, j < 6 → r + 15 + 1 * j = a → f ≠ k) : zz_PX f σ1 r = zz_PX f σ r := zz_PX.eq (fun j hj => by rw [w, zz_un (fun q => h j hj q.1 q.2)])
theorem zz_PXk {f : Nat} {S : Nat → Nat → Prop} {σ σ1 : zz_S} {r : Nat} (w : zz_ch S σ σ1) (h : ∀ j : Nat, j < 6 → ¬ S (r + 15 + 1 * j) f) : zz_PX f σ1 r = zz_PX f σ r := zz_PX.eq (fun j hj => w _ _ (h j hj))
theorem zz_PMw {σ σ1 : zz_S} {a i : Nat} {v : Int32} (j f : Nat) {d : Int} (w : σ1 = zz_u σ a i v) (hi : i = 61 + 2 * j + f) (hd : (j : Int) = d) (hj : j < 6) (hf : f < 2) : zz_PM f σ1 a = zz_wn (zz_PM f σ a) d v.toInt := by
  funext p
  simp only [zz_PM, zz_wn]
  by_cases q : (p : Int) = d
  · have e : p = j := by omega
    subst e
    rw [if_pos hj, if_pos q, w, hi, zz_us]
  · rw [if_neg q]
    by_cases u : p < 6
    · rw [if_pos u, if_pos u, w, zz_un (fun h => q (by omega))]
    · rw [if_neg u, if_neg u]
theorem zz_PMo {f : Nat} {σ σ1 : zz_S} {a b i : Nat} {v : Int32} (w : σ1 = zz_u σ b i v) (h : ∀ j : Nat, j < 6 → b = a → i ≠ 61 + 2 * j + f) : zz_PM f σ1 a = zz_PM f σ a := zz_PM.eq (fun j hj => by rw [w, zz_un (fun q => h j hj q.1.symm q.2.symm)])
theorem zz_PMk {f : Nat} {S : Nat → Nat → Prop} {σ σ1 : zz_S} {a : Nat} (w : zz_ch S σ σ1) (h : ∀ j : Nat, j < 6 → ¬ S a (61 + 2 * j + f)) : zz_PM f σ1 a = zz_PM f σ a := zz_PM.eq (fun j hj => w _ _ (h j hj))
/-- bounds of the DREAMS' numbers -/
def zz_ID (D : Nat → Nat → Int) : Prop := ∀ j : Nat, j < 9 → (0 ≤ D j 0 ∧ D j 0 ≤ 6) ∧ (0 ≤ D j 1 ∧ D j 1 ≤ 9) ∧ (0 ≤ D j 2 ∧ D j 2 ≤ 9) ∧ (0 ≤ D j 3 ∧ D j 3 ≤ 1) ∧ (0 ≤ D j 4 ∧ D j 4 ≤ 99) ∧ (0 ≤ D j 5 ∧ D j 5 ≤ 1)
theorem zz_ID.ds {D : Nat → Nat → Int} (h : zz_ID D) {d : Int} {f : Nat} {v : Int} (h0 : f = 0 → 0 ≤ v ∧ v ≤ 6) (h1 : f = 1 → 0 ≤ v ∧ v ≤ 9) (h2 : f = 2 → 0 ≤ v ∧ v ≤ 9) (h3 : f = 3 → 0 ≤ v ∧ v ≤ 1) (h4 : f = 4 → 0 ≤ v ∧ v ≤ 99) (h5 : f = 5 → 0 ≤ v ∧ v ≤ 1) : zz_ID (zz_ds D d f v) := by
  intro j hj
  have g := h j hj
  simp only [zz_ds]
  refine ⟨?_, ?_, ?_, ?_, ?_, ?_⟩ <;> split <;> omega
theorem zz_ID.dn {D : Nat → Nat → Int} (h : zz_ID D) {d k m t b y : Int} (hk : 0 ≤ k ∧ k ≤ 6) (hm : 0 ≤ m ∧ m ≤ 9) (ht : 0 ≤ t ∧ t ≤ 9) (hb : 0 ≤ b ∧ b ≤ 1) (hy : 0 ≤ y ∧ y ≤ 99) : zz_ID (zz_dn D d k m t b y) := by
  simp only [zz_dn]
  refine zz_ID.ds (zz_ID.ds (zz_ID.ds (zz_ID.ds (zz_ID.ds (zz_ID.ds h ?_ ?_ ?_ ?_ ?_ ?_) ?_ ?_ ?_ ?_ ?_ ?_) ?_ ?_ ?_ ?_ ?_ ?_) ?_ ?_ ?_ ?_ ?_ ?_) ?_ ?_ ?_ ?_ ?_ ?_) ?_ ?_ ?_ ?_ ?_ ?_ <;> intro q <;> omega
theorem zz_ID.cell {σ : zz_S} {r : Nat} (h : zz_ID (zz_DX σ r)) {j : Nat} (hj : j < 9) : (0 ≤ (σ (r + 6 + 1 * j) 0).toInt ∧ (σ (r + 6 + 1 * j) 0).toInt ≤ 6) ∧ (0 ≤ (σ (r + 6 + 1 * j) 1).toInt ∧ (σ (r + 6 + 1 * j) 1).toInt ≤ 9) ∧ (0 ≤ (σ (r + 6 + 1 * j) 2).toInt ∧ (σ (r + 6 + 1 * j) 2).toInt ≤ 9) ∧ (0 ≤ (σ (r + 6 + 1 * j) 3).toInt ∧ (σ (r + 6 + 1 * j) 3).toInt ≤ 1) ∧ (0 ≤ (σ (r + 6 + 1 * j) 4).toInt ∧ (σ (r + 6 + 1 * j) 4).toInt ≤ 99) ∧ (0 ≤ (σ (r + 6 + 1 * j) 5).toInt ∧ (σ (r + 6 + 1 * j) 5).toInt ≤ 1) := by
  have g := h j hj
  rw [zz_DX.at hj (by decide), zz_DX.at hj (by decide), zz_DX.at hj (by decide), zz_DX.at hj (by decide), zz_DX.at hj (by decide), zz_DX.at hj (by decide)] at g
  exact g
theorem zz_six {g h : Nat → Int32} (h0 : g 0 = h 0) (h1 : g 1 = h 1) (h2 : g 2 = h 2) (h3 : g 3 = h 3) (h4 : g 4 = h 4) (h5 : g 5 = h 5) : ∀ f : Nat, f < 6 → g f = h f := fun f hf => by
  rcases (show f = 0 ∨ f = 1 ∨ f = 2 ∨ f = 3 ∨ f = 4 ∨ f = 5 by omega) with rfl | rfl | rfl | rfl | rfl | rfl
  · exact h0
  · exact h1
  · exact h2
  · exact h3
  · exact h4
  · exact h5
theorem zz_two {g h : Nat → Int32} (h0 : g 0 = h 0) (h1 : g 1 = h 1) : ∀ f : Nat, f < 2 → g f = h f := fun f hf => by
  rcases (show f = 0 ∨ f = 1 by omega) with rfl | rfl
  · exact h0
  · exact h1
/-- KINDS: what is above, what is under -/
def zz_ab (v : Int32) : Int32 := if 0 ≤ v.toInt ∧ v.toInt ≤ 6 then zz_vA v.toNatClampNeg else -1
def zz_is (u w : Int) : Prop := 0 ≤ u ∧ (w = 0 ∨ u = w ∨ (u = 4 ∧ w = 1) ∨ (u = 5 ∧ w = 2))
theorem zz_abT (v : Int32) (h : 0 ≤ v.toInt ∧ v.toInt ≤ 6) : (v.toInt = 0 ∧ (zz_ab v).toInt = -1) ∨ ((v.toInt = 1 ∨ v.toInt = 2 ∨ v.toInt = 3 ∨ v.toInt = 6) ∧ (zz_ab v).toInt = 0) ∨ (v.toInt = 4 ∧ (zz_ab v).toInt = 1) ∨ (v.toInt = 5 ∧ (zz_ab v).toInt = 2) := by
  have e : v = 0 ∨ v = 1 ∨ v = 2 ∨ v = 3 ∨ v = 4 ∨ v = 5 ∨ v = 6 := by
    rcases (show v.toInt = 0 ∨ v.toInt = 1 ∨ v.toInt = 2 ∨ v.toInt = 3 ∨ v.toInt = 4 ∨ v.toInt = 5 ∨ v.toInt = 6 by omega) with q | q | q | q | q | q | q
    · exact Or.inl (zz_ext (by rw [q]; decide))
    · exact Or.inr (Or.inl (zz_ext (by rw [q]; decide)))
    · exact Or.inr (Or.inr (Or.inl (zz_ext (by rw [q]; decide))))
    · exact Or.inr (Or.inr (Or.inr (Or.inl (zz_ext (by rw [q]; decide)))))
    · exact Or.inr (Or.inr (Or.inr (Or.inr (Or.inl (zz_ext (by rw [q]; decide))))))
    · exact Or.inr (Or.inr (Or.inr (Or.inr (Or.inr (Or.inl (zz_ext (by rw [q]; decide)))))))
    · exact Or.inr (Or.inr (Or.inr (Or.inr (Or.inr (Or.inr (zz_ext (by rw [q]; decide)))))))
  rcases e with rfl | rfl | rfl | rfl | rfl | rfl | rfl <;> decide +kernel
/-- DRAWS -/
def zz_sh (z : Int32) : Int32 := (z.toUInt32 >>> ((8 : Int32).toUInt32 &&& Int32.toUInt32 31)).toInt32
/-- not to be unfolded: omega compares its atoms by unfolding -/
theorem zz_exdv : ∃ f : Int32 → Int, ∀ z, f z = (zz_sh z).toInt := ⟨_, fun _ => rfl⟩
noncomputable def zz_dv : Int32 → Int := Classical.choose zz_exdv
theorem zz_dv_eq (z : Int32) : zz_dv z = (zz_sh z).toInt := Classical.choose_spec zz_exdv z
/-- numbers of a SHEET, cut -/
def zz_nb (b : Int) (v : Int32) : Int32 := if b = 8 then v.toInt8.toInt32 else if b = 16 then v.toInt16.toInt32 else v
/-- how many WONTS a SHEET gives -/
def zz_wr (C : Nat → Int) : Nat → Nat → Nat
  | 0, n => n
  | m + 1, n => if 0 ≤ C n ∧ C n ≤ 1023 then zz_wr C m (n + 1) else n
def zz_wp (C V : Nat → Int) (n : Int) : Nat → Int := fun j => if (j : Int) < n then C j else V j
def zz_cz (C : Nat → Nat → Int) (s : Int) : Nat → Nat → Int := fun j k => if (j : Int) = s then 0 else C j k
/-- n numbers from i on of SHEET s come to SHEET o, from j on -/
def zz_mv (C : Nat → Nat → Int) (s i o j n : Int) : Nat → Nat → Int := fun t k => if (t : Int) = o ∧ j ≤ (k : Int) ∧ (k : Int) < j + n then C s.toNat ((k : Int) - j + i).toNat else C t k
/-- the DREAMS after n HOURS of loose -/
noncomputable def zz_ld : Nat → Int → Int → Int → Int32 → (Nat → Nat → Int) → Nat → Nat → Int
  | 0, _, _, _, _, D => D
  | n + 1, h, s, d, z, D => if h % 24 = s % 24 ∧ d < 9 ∧ h / 24 < 99 then zz_ld n (h + 1) s (d + 1) (zz_z (zz_z (zz_z z))) (zz_dn D d (zz_dv (zz_z z) % 7) (zz_dv (zz_z (zz_z (zz_z z))) % 20 / 2) (zz_dv (zz_z (zz_z z)) % 10) (zz_dv (zz_z (zz_z (zz_z z))) % 20 % 2) (h / 24 + 1)) else zz_ld n (h + 1) s d z D
theorem zz_HX.up {σ σ1 : zz_S} {x j0 f : Nat} {d v : Int} (hd : (j0 : Int) = d) (h4 : j0 < 4) (e : (σ1 (x + 68 + 2 * j0) f).toInt = v) (ho : ∀ j : Nat, j < 4 → j ≠ j0 → σ1 (x + 68 + 2 * j) f = σ (x + 68 + 2 * j) f) : zz_HX f σ1 x = zz_wn (zz_HX f σ x) d v := by
  funext j
  simp only [zz_HX, zz_wn]
  by_cases q : (j : Int) = d
  · have e2 : j = j0 := by omega
    subst e2
    rw [if_pos h4, if_pos q, e]
  · rw [if_neg q]
    by_cases p : j < 4
    · rw [if_pos p, if_pos p, ho j p (fun h => q (by omega))]
    · rw [if_neg p, if_neg p]
theorem zz_HM.up {σ σ1 : zz_S} {a j0 : Nat} {d v : Int} (hd : (j0 : Int) = d) (h4 : j0 < 4) (e : (σ1 a j0).toInt = v) (ho : ∀ j : Nat, j < 4 → j ≠ j0 → σ1 a j = σ a j) : zz_HM σ1 a = zz_wn (zz_HM σ a) d v := by
  funext j
  simp only [zz_HM, zz_wn]
  by_cases q : (j : Int) = d
  · have e2 : j = j0 := by omega
    subst e2
    rw [if_pos h4, if_pos q, e]
  · rw [if_neg q]
    by_cases p : j < 4
    · rw [if_pos p, if_pos p, ho j p (fun h => q (by omega))]
    · rw [if_neg p, if_neg p]
theorem zz_CX.cz {σ σ1 : zz_S} {x j0 : Nat} {d : Int} (hd : (j0 : Int) = d) (h4 : j0 < 4) (e : ∀ k : Nat, k < 24 → (σ1 (x + 68 + 2 * j0 + 1) k).toInt = 0) (ho : ∀ j : Nat, j < 4 → j ≠ j0 → ∀ k, σ1 (x + 68 + 2 * j + 1) k = σ (x + 68 + 2 * j + 1) k) : zz_CX σ1 x = zz_cz (zz_CX σ x) d := by
  funext j k
  simp only [zz_CX, zz_cz]
  by_cases q : (j : Int) = d
  · have e2 : j = j0 := by omega
    subst e2
    rw [if_pos q]
    by_cases p : j < 4 ∧ k < 24
    · rw [if_pos p, e k p.2]
    · rw [if_neg p]
  · rw [if_neg q]
    by_cases p : j < 4 ∧ k < 24
    · rw [if_pos p, if_pos p, ho j p.1 (fun h => q (by omega))]
    · rw [if_neg p, if_neg p]
theorem zz_CM.cz {σ σ1 : zz_S} {a j0 : Nat} {d : Int} (hd : (j0 : Int) = d) (h4 : j0 < 4) (e : ∀ k : Nat, k < 24 → (σ1 a (24 * j0 + k)).toInt = 0) (ho : ∀ i : Nat, i < 96 → (i < 24 * j0 ∨ 24 * j0 + 24 ≤ i) → σ1 a i = σ a i) : zz_CM σ1 a = zz_cz (zz_CM σ a) d := by
  funext j k
  simp only [zz_CM, zz_cz]
  by_cases q : (j : Int) = d
  · have e2 : j = j0 := by omega
    subst e2
    rw [if_pos q]
    by_cases p : j < 4 ∧ k < 24
    · rw [if_pos p, e k p.2]
    · rw [if_neg p]
  · rw [if_neg q]
    by_cases p : j < 4 ∧ k < 24
    · rw [if_pos p, if_pos p, ho _ (by omega) (by omega)]
    · rw [if_neg p, if_neg p]
theorem zz_CXw {σ σ1 : zz_S} {x j i : Nat} {v : Int32} {d : Int} {n : Nat} (e : σ1 = zz_u σ (x + 68 + 2 * j + 1) i v) (hd : (j : Int) = d) (hj : j < 4) (hi : i < 24) (hn : i = n) : zz_CX σ1 x = zz_ds (zz_CX σ x) d n v.toInt := by
  subst hn
  funext t k
  simp only [zz_CX, zz_ds]
  by_cases q : (t : Int) = d ∧ k = i
  · obtain ⟨q1, q2⟩ := q
    have e2 : t = j := by omega
    subst e2; subst q2
    rw [if_pos ⟨hj, hi⟩, if_pos ⟨hd, rfl⟩, e, zz_us]
  · rw [if_neg q]
    by_cases p : t < 4 ∧ k < 24
    · rw [if_pos p, if_pos p, e, zz_un (fun h => q ⟨by omega, h.2⟩)]
    · rw [if_neg p, if_neg p]
theorem zz_CMw {σ σ1 : zz_S} {a i : Nat} {v : Int32} {d : Int} (j n : Nat) (e : σ1 = zz_u σ a i v) (hi : i = 24 * j + n) (hd : (j : Int) = d) (hj : j < 4) (hn : n < 24) : zz_CM σ1 a = zz_ds (zz_CM σ a) d n v.toInt := by
  funext t k
  simp only [zz_CM, zz_ds]
  by_cases q : (t : Int) = d ∧ k = n
  · obtain ⟨q1, q2⟩ := q
    have e2 : t = j := by omega
    subst e2; subst q2
    rw [if_pos ⟨hj, hn⟩, if_pos ⟨hd, rfl⟩, e, hi, zz_us]
  · rw [if_neg q]
    by_cases p : t < 4 ∧ k < 24
    · rw [if_pos p, if_pos p, e, zz_un (fun h => q (by omega))]
    · rw [if_neg p, if_neg p]
theorem zz_CX.mv {σ σ1 : zz_S} {x a b : Nat} {ix jx nn : Int32} {s o : Int} (w : σ1 = zz_cp σ (x + 68 + 2 * a + 1) (x + 68 + 2 * b + 1) ix.toNatClampNeg jx.toNatClampNeg nn.toNatClampNeg) (ha : (a : Int) = s) (hb : (b : Int) = o) (h4 : a < 4) (h5 : b < 4) (hi : 0 ≤ ix.toInt) (hj : 0 ≤ jx.toInt) (hn : 0 ≤ nn.toInt) (hi2 : ix.toInt + nn.toInt ≤ 24) (hj2 : jx.toInt + nn.toInt ≤ 24) : zz_CX σ1 x = zz_mv (zz_CX σ x) s ix.toInt o jx.toInt nn.toInt := by
  have cl : ∀ z : Int32, 0 ≤ z.toInt → z.toInt = (z.toNatClampNeg : Int) := fun z hz => by
    show z.toInt = ((z.toInt.toNat : Nat) : Int)
    omega
  have e1 := cl ix hi
  have e2 := cl jx hj
  have e3 := cl nn hn
  funext t k
  simp only [zz_mv]
  by_cases q : (t : Int) = o ∧ jx.toInt ≤ (k : Int) ∧ (k : Int) < jx.toInt + nn.toInt
  · rw [if_pos q]
    have et : t = b := by omega
    subst et
    rw [zz_CX.at h5 (by omega), w, zz_cpa, pk_cpy_in (by omega) (by omega), show s.toNat = a from by omega, zz_CX.at h4 (by omega), show ((k : Int) - jx.toInt + ix.toInt).toNat = ix.toNatClampNeg + (k - jx.toNatClampNeg) from by omega]
  · rw [if_neg q]
    simp only [zz_CX]
    by_cases p : t < 4 ∧ k < 24
    · rw [if_pos p, if_pos p, w]
      by_cases r : t = b
      · subst r
        rw [zz_cpa, pk_cpy_out (by omega)]
      · rw [zz_cpb (by omega)]
    · rw [if_neg p, if_neg p]
theorem zz_wr_0 {C : Nat → Int} {m n : Nat} (h : m = 0) : zz_wr C m n = n := by subst h; rfl
theorem zz_wr_stop {C : Nat → Int} {m n : Nat} (h : ¬ (0 ≤ C n ∧ C n ≤ 1023)) : zz_wr C m n = n := by
  cases m with
  | zero => rfl
  | succ m => unfold zz_wr; rw [if_neg h]
theorem zz_wr_go {C : Nat → Int} {m n : Nat} (h : 0 ≤ C n ∧ C n ≤ 1023) (hm : 0 < m) : zz_wr C m n = zz_wr C (m - 1) (n + 1) := by
  cases m with
  | zero => exact absurd hm (by decide)
  | succ m => show (if 0 ≤ C n ∧ C n ≤ 1023 then zz_wr C m (n + 1) else n) = zz_wr C (m + 1 - 1) (n + 1); rw [if_pos h]; rfl
theorem zz_wp_s {n : Int} (C V : Nat → Int) (hn : 0 ≤ n) : zz_wn (zz_wp C V n) n (C n.toNat) = zz_wp C V (n + 1) := by
  funext j
  simp only [zz_wn, zz_wp]
  by_cases q : (j : Int) = n
  · rw [if_pos q, if_pos (by omega), show n.toNat = j from by omega]
  · rw [if_neg q]
    by_cases p : (j : Int) < n
    · rw [if_pos p, if_pos (by omega)]
    · rw [if_neg p, if_neg (by omega)]
theorem zz_HMw {σ σ1 : zz_S} {a i : Nat} {v : Int32} {d : Int} (w : σ1 = zz_u σ a i v) (hd : (i : Int) = d) (h4 : i < 4) : zz_HM σ1 a = zz_wn (zz_HM σ a) d v.toInt :=
  zz_HM.up hd h4 (by rw [w, zz_us]) (fun j _ hn => by rw [w, zz_un (fun q => hn q.2)])
theorem zz_HMo {σ σ1 : zz_S} {a b i : Nat} {v : Int32} (w : σ1 = zz_u σ b i v) (h : b ≠ a) : zz_HM σ1 a = zz_HM σ a := zz_HM.eq (fun j _ => by rw [w, zz_un (fun q => h q.1.symm)])
theorem zz_ds_c {D : Nat → Nat → Int} {d : Int} {f g : Nat} {v w : Int} (h : f ≠ g) : zz_ds (zz_ds D d f v) d g w = zz_ds (zz_ds D d g w) d f v := by
  funext j k
  simp only [zz_ds]
  by_cases p : (j : Int) = d ∧ k = g
  · rw [if_pos p, if_neg (fun q => h (q.2.symm.trans p.2)), if_pos p]
  · rw [if_neg p]
    by_cases q : (j : Int) = d ∧ k = f
    · rw [if_pos q, if_pos q]
    · rw [if_neg q, if_neg q, if_neg p]
/-- the reference's own test of a KIND -/
def zz_ir (u w : Int) : Prop := w = 0 ∨ w = u ∨ (w = 1 ∧ u = 4) ∨ (w = 2 ∧ u = 5)
theorem zz_is_ir {u w : Int} (h : 0 ≤ u) : zz_is u w ↔ zz_ir u w := by unfold zz_is zz_ir; omega
theorem zz_CM.mv {σ σ1 : zz_S} {a : Nat} {s i o j n : Int} (hs : 0 ≤ s ∧ s ≤ 3) (ho : 0 ≤ o ∧ o ≤ 3) (hi : 0 ≤ i) (hj : 0 ≤ j) (hn : 0 ≤ n) (hi2 : i + n ≤ 24) (hj2 : j + n ≤ 24) (h1 : ∀ t : Nat, t < 96 → 24 * o + j ≤ (t : Int) → (t : Int) < 24 * o + j + n → σ1 a t = σ a ((t : Int) - (24 * o + j) + (24 * s + i)).toNat) (h2 : ∀ t : Nat, t < 96 → ((t : Int) < 24 * o + j ∨ 24 * o + j + n ≤ (t : Int)) → σ1 a t = σ a t) : zz_CM σ1 a = zz_mv (zz_CM σ a) s i o j n := by
  funext t k
  simp only [zz_mv]
  by_cases q : (t : Int) = o ∧ j ≤ (k : Int) ∧ (k : Int) < j + n
  · rw [if_pos q, zz_CM.at (by omega) (by omega), h1 _ (by omega) (by omega) (by omega), zz_CM.at (by omega) (by omega)]
    exact congrArg (fun z => (σ a z).toInt) (by omega)
  · rw [if_neg q]
    simp only [zz_CM]
    by_cases p : t < 4 ∧ k < 24
    · rw [if_pos p, if_pos p, h2 _ (by omega) (by omega)]
    · rw [if_neg p, if_neg p]
theorem zz_ush8 {x y s8 : Int32} (h8 : s8 = 8) (e : y = (x.toUInt32 >>> (s8.toUInt32 &&& Int32.toUInt32 31)).toInt32) : 0 ≤ y.toInt := by
  subst h8
  have h := pk_ushr x 8 8 (by decide +kernel)
  rw [← e] at h
  have hl : x.toBitVec.toNat < 2 ^ 32 := x.toBitVec.isLt
  have h2 : y.toBitVec.toNat < 2 ^ 31 := by rw [h]; omega
  show 0 ≤ y.toBitVec.toInt
  rw [BitVec.toInt_eq_toNat_of_lt (by omega)]
  omega
theorem zz_ld_0 {h s d : Int} {z : Int32} {D : Nat → Nat → Int} : zz_ld 0 h s d z D = D := rfl
theorem zz_ld_s {n : Nat} {h s d : Int} {z : Int32} {D : Nat → Nat → Int} : zz_ld (n + 1) h s d z D = if h % 24 = s % 24 ∧ d < 9 ∧ h / 24 < 99 then zz_ld n (h + 1) s (d + 1) (zz_z (zz_z (zz_z z))) (zz_dn D d (zz_dv (zz_z z) % 7) (zz_dv (zz_z (zz_z (zz_z z))) % 20 / 2) (zz_dv (zz_z (zz_z z)) % 10) (zz_dv (zz_z (zz_z (zz_z z))) % 20 % 2) (h / 24 + 1)) else zz_ld n (h + 1) s d z D := rfl
theorem zz_n0 (n : Nat) : n - (0 : Int32).toInt.toNat = n := by rw [zk_0]; exact Nat.sub_zero n
/-- bounds of a DREAM that is drawn -/
theorem zz_dnB {D : Nat → Nat → Int} (h : zz_ID D) {d y a b c : Int} (hy : 0 ≤ y ∧ y < 99) : zz_ID (zz_dn D d (a % 7) (c % 20 / 2) (b % 10) (c % 20 % 2) (y + 1)) := h.dn (by omega) (by omega) (by omega) (by omega) (by omega)
theorem zz_km {x y z a b : Int} (ha : a = 10 * (x % 7) + z % 20 / 2) (hb : b = 10 * (y % 10) + z % 20 % 2) : a / 10 = x % 7 ∧ a % 10 = z % 20 / 2 ∧ b / 10 = y % 10 ∧ b % 10 = z % 20 % 2 := by omega
/-- a fact kept out of omega's sight -/
def zz_hid (P : Prop) : Prop := P
