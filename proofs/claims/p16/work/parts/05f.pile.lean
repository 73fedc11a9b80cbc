/-! ===== a TEXT on both sides ===== -/
/-- a step that may stand in a TEXT -/
def zz_okp (q : Int × Int) : Prop := (q.1 = 1 ∧ 0 ≤ q.2 ∧ q.2 ≤ 9999) ∨ (q.1 = 2 ∧ 0 ≤ q.2 ∧ q.2 ≤ 2) ∨ q.1 = 3 ∨ 0 ≤ zz_lvl q.1
def zz_tt (q : zz_X3) (s : zz_M3) : Prop := (q.1 = 0 ∧ s.1 = 0) ∨ (q.1 = 1 ∧ 1 ≤ s.1 ∧ q.2.1 = s.1 ∧ ∀ k : Nat, (k : Int) < s.1 → q.2.2 k = zz_enc (s.2.1 k, s.2.2 k) ∧ zz_okp (s.2.1 k, s.2.2 k))
def zz_tts (X : Nat → zz_X3) (M : Nat → zz_M3) : Prop := ∀ u : Nat, u < 2 → zz_tt (X u) (M u)
/-! ===== what a TEXT is worth: a pile, for both sides ===== -/
/-- two joined by a sign -/
def zz_J (sg : Int) (l r : Int32) : Int32 :=
  if sg = 124 then (if l.toInt ≠ 0 ∨ r.toInt ≠ 0 then 1 else 0)
  else if sg = 38 then (if l.toInt ≠ 0 ∧ r.toInt ≠ 0 then 1 else 0)
  else if sg = 60 then (if l.toInt < r.toInt then 1 else 0)
  else if sg = 61 then (if l.toInt = r.toInt then 1 else 0)
  else if sg = 62 then (if r.toInt < l.toInt then 1 else 0)
  else if sg = 43 then l + r
  else if sg = 45 then l - r
  else if sg = 42 then l * r
  else if sg = 47 then (if r.toInt = 0 then 0 else l / r)
  else (if r.toInt = 0 then 0 else l - l / r * r)
def zz_jp (sg : Int) (l r v : Int32) : Prop := v = zz_J sg l r
theorem zz_jp_or1 {sg : Int} {l r v : Int32} (h : sg = 124) (c : l.toInt ≠ 0 ∨ r.toInt ≠ 0) (hv : v = 1) : zz_jp sg l r v := by
  unfold zz_jp zz_J; rw [if_pos h, if_pos c]; exact hv
theorem zz_jp_or0 {sg : Int} {l r v : Int32} (h : sg = 124) (c : ¬ (l.toInt ≠ 0 ∨ r.toInt ≠ 0)) (hv : v = 0) : zz_jp sg l r v := by
  unfold zz_jp zz_J; rw [if_pos h, if_neg c]; exact hv
theorem zz_jp_an1 {sg : Int} {l r v : Int32} (h : sg = 38) (c : l.toInt ≠ 0 ∧ r.toInt ≠ 0) (hv : v = 1) : zz_jp sg l r v := by
  unfold zz_jp zz_J; rw [if_neg (by omega), if_pos h, if_pos c]; exact hv
theorem zz_jp_an0 {sg : Int} {l r v : Int32} (h : sg = 38) (c : ¬ (l.toInt ≠ 0 ∧ r.toInt ≠ 0)) (hv : v = 0) : zz_jp sg l r v := by
  unfold zz_jp zz_J; rw [if_neg (by omega), if_pos h, if_neg c]; exact hv
theorem zz_jp_lt1 {sg : Int} {l r v : Int32} (h : sg = 60) (c : l.toInt < r.toInt) (hv : v = 1) : zz_jp sg l r v := by
  unfold zz_jp zz_J; rw [if_neg (by omega), if_neg (by omega), if_pos h, if_pos c]; exact hv
theorem zz_jp_lt0 {sg : Int} {l r v : Int32} (h : sg = 60) (c : ¬ l.toInt < r.toInt) (hv : v = 0) : zz_jp sg l r v := by
  unfold zz_jp zz_J; rw [if_neg (by omega), if_neg (by omega), if_pos h, if_neg c]; exact hv
theorem zz_jp_eq1 {sg : Int} {l r v : Int32} (h : sg = 61) (c : l.toInt = r.toInt) (hv : v = 1) : zz_jp sg l r v := by
  unfold zz_jp zz_J; rw [if_neg (by omega), if_neg (by omega), if_neg (by omega), if_pos h, if_pos c]; exact hv
theorem zz_jp_eq0 {sg : Int} {l r v : Int32} (h : sg = 61) (c : ¬ l.toInt = r.toInt) (hv : v = 0) : zz_jp sg l r v := by
  unfold zz_jp zz_J; rw [if_neg (by omega), if_neg (by omega), if_neg (by omega), if_pos h, if_neg c]; exact hv
theorem zz_jp_gt1 {sg : Int} {l r v : Int32} (h : sg = 62) (c : r.toInt < l.toInt) (hv : v = 1) : zz_jp sg l r v := by
  unfold zz_jp zz_J; rw [if_neg (by omega), if_neg (by omega), if_neg (by omega), if_neg (by omega), if_pos h, if_pos c]; exact hv
theorem zz_jp_gt0 {sg : Int} {l r v : Int32} (h : sg = 62) (c : ¬ r.toInt < l.toInt) (hv : v = 0) : zz_jp sg l r v := by
  unfold zz_jp zz_J; rw [if_neg (by omega), if_neg (by omega), if_neg (by omega), if_neg (by omega), if_pos h, if_neg c]; exact hv
theorem zz_jp_ad {sg : Int} {l r v : Int32} (h : sg = 43) (hv : v = l + r) : zz_jp sg l r v := by
  unfold zz_jp zz_J; rw [if_neg (by omega), if_neg (by omega), if_neg (by omega), if_neg (by omega), if_neg (by omega), if_pos h]; exact hv
theorem zz_jp_su {sg : Int} {l r v : Int32} (h : sg = 45) (hv : v = l - r) : zz_jp sg l r v := by
  unfold zz_jp zz_J; rw [if_neg (by omega), if_neg (by omega), if_neg (by omega), if_neg (by omega), if_neg (by omega), if_neg (by omega), if_pos h]; exact hv
theorem zz_jp_mu {sg : Int} {l r v : Int32} (h : sg = 42) (hv : v = l * r) : zz_jp sg l r v := by
  unfold zz_jp zz_J; rw [if_neg (by omega), if_neg (by omega), if_neg (by omega), if_neg (by omega), if_neg (by omega), if_neg (by omega), if_neg (by omega), if_pos h]; exact hv
theorem zz_jp_dv0 {sg : Int} {l r v : Int32} (h : sg = 47) (c : r.toInt = 0) (hv : v = 0) : zz_jp sg l r v := by
  unfold zz_jp zz_J; rw [if_neg (by omega), if_neg (by omega), if_neg (by omega), if_neg (by omega), if_neg (by omega), if_neg (by omega), if_neg (by omega), if_neg (by omega), if_pos h, if_pos c]; exact hv
theorem zz_jp_dv {sg : Int} {l r v : Int32} (h : sg = 47) (c : ¬ r.toInt = 0) (hv : v = l / r) : zz_jp sg l r v := by
  unfold zz_jp zz_J; rw [if_neg (by omega), if_neg (by omega), if_neg (by omega), if_neg (by omega), if_neg (by omega), if_neg (by omega), if_neg (by omega), if_neg (by omega), if_pos h, if_neg c]; exact hv
theorem zz_jp_rm0 {sg : Int} {l r v : Int32} (h : sg = 37) (c : r.toInt = 0) (hv : v = 0) : zz_jp sg l r v := by
  unfold zz_jp zz_J; rw [if_neg (by omega), if_neg (by omega), if_neg (by omega), if_neg (by omega), if_neg (by omega), if_neg (by omega), if_neg (by omega), if_neg (by omega), if_neg (by omega), if_pos c]; exact hv
theorem zz_jp_rm {sg : Int} {l r v : Int32} (h : sg = 37) (c : ¬ r.toInt = 0) (hv : v = l - l / r * r) : zz_jp sg l r v := by
  unfold zz_jp zz_J; rw [if_neg (by omega), if_neg (by omega), if_neg (by omega), if_neg (by omega), if_neg (by omega), if_neg (by omega), if_neg (by omega), if_neg (by omega), if_neg (by omega), if_neg c]; exact hv
/-- what is pushed -/
def zz_pv (q : Int × Int) (x1 x2 x3 : Int32) : Int32 := if q.1 = 1 then Int32.ofInt q.2 else (if q.2 = 0 then x1 else if q.2 = 1 then x2 else x3)
def zz_up (P : Int → Int32) (n : Int) (v : Int32) : Int → Int32 := fun i => if i = n then v else P i
/-- one step on a pile (its height, its cells) -/
def zz_s1 (q : Int × Int) (x1 x2 x3 : Int32) (s : Int × (Int → Int32)) : Int × (Int → Int32) :=
  if q.1 = 1 ∨ q.1 = 2 then (s.1 + 1, zz_up s.2 s.1 (zz_pv q x1 x2 x3))
  else if q.1 = 3 then (s.1, zz_up s.2 (s.1 - 1) (if (s.2 (s.1 - 1)).toInt = 0 then 1 else 0))
  else (s.1 - 1, zz_up s.2 (s.1 - 2) (zz_J q.1 (s.2 (s.1 - 2)) (s.2 (s.1 - 1))))
def zz_run (A W : Nat → Int) (x1 x2 x3 : Int32) : Nat → Int × (Int → Int32)
  | 0 => (0, fun _ => 0)
  | k + 1 => zz_s1 (A k, W k) x1 x2 x3 (zz_run A W x1 x2 x3 k)
/-- steps that never take from an empty pile, in whole numbers -/
def zz_wI (A W : Nat → Int) (n : Int) : Prop := ∀ k : Nat, (k : Int) < n → zz_okp (A k, W k) ∧ (A k = 3 → 1 ≤ (zz_run A W 0 0 0 k).1) ∧ (A k ≠ 1 → A k ≠ 2 → A k ≠ 3 → 2 ≤ (zz_run A W 0 0 0 k).1)
/-- the height is the steps' alone -/
theorem zz_run_h (A W : Nat → Int) (x1 x2 x3 y1 y2 y3 : Int32) : ∀ k : Nat, (zz_run A W x1 x2 x3 k).1 = (zz_run A W y1 y2 y3 k).1
  | 0 => rfl
  | k + 1 => by
    have h := zz_run_h A W x1 x2 x3 y1 y2 y3 k
    show (zz_s1 (A k, W k) x1 x2 x3 (zz_run A W x1 x2 x3 k)).1 = (zz_s1 (A k, W k) y1 y2 y3 (zz_run A W y1 y2 y3 k)).1
    unfold zz_s1
    by_cases a : A k = 1 ∨ A k = 2
    · rw [if_pos a, if_pos a]; dsimp only; rw [h]
    · rw [if_neg a, if_neg a]
      by_cases b : A k = 3
      · rw [if_pos b, if_pos b]; exact h
      · rw [if_neg b, if_neg b]; dsimp only; rw [h]
/-- what is worth in the end -/
def zz_val (A W : Nat → Int) (n : Int) (x1 x2 x3 : Int32) : Int32 := (zz_run A W x1 x2 x3 n.toNat).2 0
/-- the pile of one side shows the run's -/
def zz_pl (σ : zz_S) (a : Nat) (top : Int) (s : Int × (Int → Int32)) : Prop := top = s.1 ∧ ∀ i : Nat, (i : Int) < top → σ a i = s.2 i
theorem zz_pl.push {σ σ1 : zz_S} {a j : Nat} {top t2 : Int} {A W : Nat → Int} {x1 x2 x3 v : Int32} {k : Nat} (h : zz_pl σ a top (zz_run A W x1 x2 x3 k)) (w : σ1 = zz_u σ a j v) (hj : (j : Int) = top) (ht : t2 = top + 1) (hA : A k = 1 ∨ A k = 2) (hv : v = zz_pv (A k, W k) x1 x2 x3) : zz_pl σ1 a t2 (zz_run A W x1 x2 x3 (k + 1)) := by
  obtain ⟨h1, h2⟩ := h
  have e : zz_run A W x1 x2 x3 (k + 1) = ((zz_run A W x1 x2 x3 k).1 + 1, zz_up (zz_run A W x1 x2 x3 k).2 (zz_run A W x1 x2 x3 k).1 (zz_pv (A k, W k) x1 x2 x3)) := if_pos hA
  rw [e]
  refine ⟨by dsimp only; omega, fun i hi => ?_⟩
  show σ1 a i = if (i : Int) = (zz_run A W x1 x2 x3 k).1 then zz_pv (A k, W k) x1 x2 x3 else (zz_run A W x1 x2 x3 k).2 i
  by_cases q : (i : Int) = (zz_run A W x1 x2 x3 k).1
  · rw [if_pos q, w, show i = j from by omega, zz_us, hv]
  · rw [if_neg q, w, zz_un (fun z => q (by omega))]
    exact h2 i (by omega)
theorem zz_pl.deny {σ σ1 : zz_S} {a j : Nat} {top t2 : Int} {A W : Nat → Int} {x1 x2 x3 v : Int32} {k : Nat} (h : zz_pl σ a top (zz_run A W x1 x2 x3 k)) (w : σ1 = zz_u σ a j v) (hj : (j : Int) = top - 1) (ht : t2 = top) (hA : A k = 3) (hv : ((σ a j).toInt = 0 ∧ v = 1) ∨ ((σ a j).toInt ≠ 0 ∧ v = 0)) : zz_pl σ1 a t2 (zz_run A W x1 x2 x3 (k + 1)) := by
  obtain ⟨h1, h2⟩ := h
  have e : zz_run A W x1 x2 x3 (k + 1) = ((zz_run A W x1 x2 x3 k).1, zz_up (zz_run A W x1 x2 x3 k).2 ((zz_run A W x1 x2 x3 k).1 - 1) (if ((zz_run A W x1 x2 x3 k).2 ((zz_run A W x1 x2 x3 k).1 - 1)).toInt = 0 then 1 else 0)) := (if_neg (show ¬ (A k = 1 ∨ A k = 2) by omega)).trans (if_pos hA)
  have e2 : (zz_run A W x1 x2 x3 k).2 ((zz_run A W x1 x2 x3 k).1 - 1) = σ a j := by rw [← h1, ← hj]; exact (h2 j (by omega)).symm
  rw [e, e2]
  refine ⟨by dsimp only; omega, fun i hi => ?_⟩
  show σ1 a i = if (i : Int) = (zz_run A W x1 x2 x3 k).1 - 1 then (if (σ a j).toInt = 0 then 1 else 0) else (zz_run A W x1 x2 x3 k).2 i
  by_cases q : (i : Int) = (zz_run A W x1 x2 x3 k).1 - 1
  · rw [if_pos q, w, show i = j from by omega, zz_us]
    rcases hv with ⟨z, hv⟩ | ⟨z, hv⟩
    · rw [if_pos z, hv]
    · rw [if_neg z, hv]
  · rw [if_neg q, w, zz_un (fun z => q (by omega))]
    exact h2 i (by omega)
theorem zz_pl.bin {σ σ1 : zz_S} {a j1 j2 : Nat} {top t2 : Int} {A W : Nat → Int} {x1 x2 x3 v : Int32} {k : Nat} (h : zz_pl σ a top (zz_run A W x1 x2 x3 k)) (w : σ1 = zz_u σ a j1 v) (hj1 : (j1 : Int) = top - 2) (hj2 : (j2 : Int) = top - 1) (ht : t2 = top - 1) (h1A : A k ≠ 1) (h2A : A k ≠ 2) (h3A : A k ≠ 3) (hv : zz_jp (A k) (σ a j1) (σ a j2) v) : zz_pl σ1 a t2 (zz_run A W x1 x2 x3 (k + 1)) := by
  obtain ⟨h1, h2⟩ := h
  have e : zz_run A W x1 x2 x3 (k + 1) = ((zz_run A W x1 x2 x3 k).1 - 1, zz_up (zz_run A W x1 x2 x3 k).2 ((zz_run A W x1 x2 x3 k).1 - 2) (zz_J (A k) ((zz_run A W x1 x2 x3 k).2 ((zz_run A W x1 x2 x3 k).1 - 2)) ((zz_run A W x1 x2 x3 k).2 ((zz_run A W x1 x2 x3 k).1 - 1)))) := (if_neg (show ¬ (A k = 1 ∨ A k = 2) by omega)).trans (if_neg h3A)
  have e1 : (zz_run A W x1 x2 x3 k).2 ((zz_run A W x1 x2 x3 k).1 - 2) = σ a j1 := by rw [← h1, ← hj1]; exact (h2 j1 (by omega)).symm
  have e2 : (zz_run A W x1 x2 x3 k).2 ((zz_run A W x1 x2 x3 k).1 - 1) = σ a j2 := by rw [← h1, ← hj2]; exact (h2 j2 (by omega)).symm
  rw [e, e1, e2]
  refine ⟨by dsimp only; omega, fun i hi => ?_⟩
  show σ1 a i = if (i : Int) = (zz_run A W x1 x2 x3 k).1 - 2 then zz_J (A k) (σ a j1) (σ a j2) else (zz_run A W x1 x2 x3 k).2 i
  by_cases q : (i : Int) = (zz_run A W x1 x2 x3 k).1 - 2
  · rw [if_pos q, w, show i = j1 from by omega, zz_us]
    exact hv
  · rw [if_neg q, w, zz_un (fun z => q (by omega))]
    exact h2 i (by omega)
/-- what code the class has for a step -/
theorem zz_enc_c {a w c : Int} (h : zz_okp (a, w)) (hc : c = zz_enc (a, w)) : (a = 1 ∧ c = w ∧ 0 ≤ w ∧ w ≤ 9999) ∨ (a = 2 ∧ c = 10000 + w ∧ 0 ≤ w ∧ w ≤ 2) ∨ (a = 3 ∧ c = 20033) ∨ ((a = 124 ∨ a = 38 ∨ a = 60 ∨ a = 61 ∨ a = 62 ∨ a = 43 ∨ a = 45 ∨ a = 42 ∨ a = 47 ∨ a = 37) ∧ c = 20000 + a) := by
  have hc2 : c = if a = 1 then w else if a = 2 then 10000 + w else if a = 3 then 20033 else 20000 + a := hc
  rcases h with ⟨h1, h2⟩ | ⟨h1, h2⟩ | h1 | h1
  · have e1 : a = 1 := h1
    rw [if_pos e1] at hc2
    exact Or.inl ⟨e1, hc2, h2⟩
  · have e1 : a = 2 := h1
    rw [if_neg (by omega), if_pos e1] at hc2
    exact Or.inr (Or.inl ⟨e1, hc2, h2⟩)
  · have e1 : a = 3 := h1
    rw [if_neg (by omega), if_neg (by omega), if_pos e1] at hc2
    exact Or.inr (Or.inr (Or.inl ⟨e1, hc2⟩))
  · have h2 : 0 ≤ zz_lvl a := h1
    have h3 := zz_lvl_cases a
    rw [if_neg (by omega), if_neg (by omega), if_neg (by omega)] at hc2
    exact Or.inr (Or.inr (Or.inr ⟨by omega, hc2⟩))
theorem zz_wI.h1 {A W : Nat → Int} {n : Int} (h : zz_wI A W n) : ∀ k : Nat, (k : Int) ≤ n → 1 ≤ k → 1 ≤ (zz_run A W 0 0 0 k).1
  | 0, _, h1 => absurd h1 (by decide)
  | k + 1, hk, _ => by
    obtain ⟨a, b, c⟩ := h k (by omega)
    have ih : 1 ≤ k → 1 ≤ (zz_run A W 0 0 0 k).1 := fun q => zz_wI.h1 h k (by omega) q
    have h0 : k = 0 → (zz_run A W 0 0 0 k).1 = 0 := fun q => by rw [q]; rfl
    show 1 ≤ (zz_s1 (A k, W k) 0 0 0 (zz_run A W 0 0 0 k)).1
    unfold zz_s1
    by_cases p : A k = 1 ∨ A k = 2
    · rw [if_pos p]; dsimp only
      by_cases q : k = 0
      · have := h0 q; omega
      · have := ih (by omega); omega
    · rw [if_neg p]
      by_cases d : A k = 3
      · rw [if_pos d]; exact b d
      · rw [if_neg d]; dsimp only
        have := c (fun z => p (Or.inl z)) (fun z => p (Or.inr z)) d
        omega
theorem zz_wI.top {A W : Nat → Int} {n : Int} (h : zz_wI A W n) (x1 x2 x3 : Int32) {k : Nat} (hk : (k : Int) ≤ n) (h1 : 1 ≤ k) : 1 ≤ (zz_run A W x1 x2 x3 k).1 := by
  rw [zz_run_h A W x1 x2 x3 0 0 0 k]
  exact h.h1 k hk h1
theorem zz_wI.at {A W : Nat → Int} {n : Int} (h : zz_wI A W n) (x1 x2 x3 : Int32) {k : Nat} (hk : (k : Int) < n) : zz_okp (A k, W k) ∧ (A k = 3 → 1 ≤ (zz_run A W x1 x2 x3 k).1) ∧ (A k ≠ 1 → A k ≠ 2 → A k ≠ 3 → 2 ≤ (zz_run A W x1 x2 x3 k).1) := by
  rw [zz_run_h A W x1 x2 x3 0 0 0 k]
  exact h k hk
/-- the worth, hidden -/
def zz_rv (r : Int32) (A W : Nat → Int) (n : Int) (x1 x2 x3 : Int32) : Prop := r = zz_val A W n x1 x2 x3
theorem zz_pl.val {σ : zz_S} {a k : Nat} {top n : Int} {A W : Nat → Int} {x1 x2 x3 r : Int32} (h : zz_pl σ a top (zz_run A W x1 x2 x3 k)) (hk : n.toNat = k) (ht : 0 < top) (hr : r = σ a 0) : zz_rv r A W n x1 x2 x3 := by
  unfold zz_rv zz_val
  rw [hk, hr]
  exact h.2 0 (by omega)
theorem zz_ofI {v : Int32} {n : Int} (h : v.toInt = n) : v = Int32.ofInt n := by
  rw [← h]
  exact (Int32.ofInt_toInt v).symm
/-- clamped -/
def zz_cl (v lo hi : Int) : Int := if v < lo then lo else if hi < v then hi else v
theorem zz_cl_of {v lo hi r : Int} (hl : lo ≤ hi) (h : (v < lo ∧ r = lo) ∨ (hi < v ∧ r = hi) ∨ (lo ≤ v ∧ v ≤ hi ∧ r = v)) : r = zz_cl v lo hi := by
  unfold zz_cl
  by_cases a : v < lo
  · rw [if_pos a]; omega
  · rw [if_neg a]
    by_cases b : hi < v
    · rw [if_pos b]; omega
    · rw [if_neg b]; omega
/-- what a USE gives by the TEXTS that stand -/
def zz_gv (M : Nat → zz_M3) (us : Int) (x1 x2 x3 : Int32) : Int :=
  if us = 0 then zz_cl (if 0 < (M 0).1 then (zz_val (M 0).2.1 (M 0).2.2 (M 0).1 x1 x2 x3).toInt else x1.toInt) 0 99
  else zz_cl (if 0 < (M 1).1 then (zz_val (M 1).2.1 (M 1).2.2 (M 1).1 x1 x2 x3).toInt else x2.toInt) (-99) 99
/-- TEXTS that may be worked through -/
def zz_wM (M : Nat → zz_M3) : Prop := ∀ u : Nat, u < 2 → ((M u).1 ≤ 60 ∧ zz_wI (M u).2.1 (M u).2.2 (M u).1)
theorem zz_run_le (A W : Nat → Int) (x1 x2 x3 : Int32) : ∀ k : Nat, (zz_run A W x1 x2 x3 k).1 ≤ (k : Int)
  | 0 => Int.le_refl _
  | k + 1 => by
    have ih := zz_run_le A W x1 x2 x3 k
    show (zz_s1 (A k, W k) x1 x2 x3 (zz_run A W x1 x2 x3 k)).1 ≤ ((k + 1 : Nat) : Int)
    unfold zz_s1
    by_cases p : A k = 1 ∨ A k = 2
    · rw [if_pos p]; dsimp only; omega
    · rw [if_neg p]
      by_cases d : A k = 3
      · rw [if_pos d]; dsimp only; omega
      · rw [if_neg d]; dsimp only; omega
theorem zz_pv_1 {a w : Int} {x1 x2 x3 v : Int32} (ha : a = 1) (hv : v.toInt = w) : v = zz_pv (a, w) x1 x2 x3 := by
  show v = if a = 1 then Int32.ofInt w else _
  rw [if_pos ha]
  exact zz_ofI hv
theorem zz_pv_2 {a w z : Int} {x1 x2 x3 v : Int32} (ha : a = 2) (hz : z = w) (hv : v = if z = 0 then x1 else if z = 1 then x2 else x3) : v = zz_pv (a, w) x1 x2 x3 := by
  subst hz
  show v = if a = 1 then Int32.ofInt z else (if z = 0 then x1 else if z = 1 then x2 else x3)
  rw [if_neg (by omega)]
  exact hv
theorem zz_fct {σ : zz_S} {a j : Nat} {x1 x2 x3 : Int32} {w : Int} (h : σ a 0 = x1 ∧ σ a 1 = x2 ∧ σ a 2 = x3) (hj : (j : Int) = w) (hw : 0 ≤ w ∧ w ≤ 2) : σ a j = if w = 0 then x1 else if w = 1 then x2 else x3 := by
  by_cases p : w = 0
  · rw [if_pos p, show j = 0 from by omega]; exact h.1
  · rw [if_neg p]
    by_cases q : w = 1
    · rw [if_pos q, show j = 1 from by omega]; exact h.2.1
    · rw [if_neg q, show j = 2 from by omega]; exact h.2.2
/-- at the start: nothing lies on the pile -/
theorem zz_pl.start {σ : zz_S} {a k : Nat} {top : Int} {A W : Nat → Int} {x1 x2 x3 : Int32} (hk : k = 0) (ht : top = 0) : zz_pl σ a top (zz_run A W x1 x2 x3 k) := by
  subst hk; subst ht
  exact ⟨rfl, fun i hi => absurd hi (by omega)⟩
theorem zz_tts.go {σ : zz_S} {r u : Nat} {M : Nat → zz_M3} (h : zz_tts (zz_XT σ r) M) (hM : zz_wM M) (hu : u < 2) (hs : ¬ (σ (r + 21 + 3 * u) 0).toInt = 0) : (σ (r + 21 + 3 * u) 1).toInt = (M u).1 ∧ 1 ≤ (σ (r + 21 + 3 * u) 1).toInt ∧ (∀ k : Nat, (k : Int) < (σ (r + 21 + 3 * u) 1).toInt → (σ (r + 21 + 3 * u + 1) k).toInt = zz_enc ((M u).2.1 k, (M u).2.2 k)) ∧ zz_wI (M u).2.1 (M u).2.2 (σ (r + 21 + 3 * u) 1).toInt := by
  have g := h u hu
  have ex : zz_XT σ r u = ((σ (r + 21 + 3 * u) 0).toInt, (σ (r + 21 + 3 * u) 1).toInt, zz_XC σ (r + 21 + 3 * u)) := if_pos hu
  rw [ex] at g
  unfold zz_tt at g
  dsimp only at g
  rcases g with ⟨g1, -⟩ | ⟨g1, g2, g3, g4⟩
  · exact absurd g1 hs
  · refine ⟨g3, by omega, fun k hk => ?_, by rw [g3]; exact (hM u hu).2⟩
    have g5 := (g4 k (by omega)).1
    have g6 : zz_XC σ (r + 21 + 3 * u) k = (σ (r + 21 + 3 * u + 1) k).toInt := if_pos hk
    rw [g6] at g5
    exact g5
theorem zz_tts.none {σ : zz_S} {r u : Nat} {M : Nat → zz_M3} (h : zz_tts (zz_XT σ r) M) (hu : u < 2) (hs : (σ (r + 21 + 3 * u) 0).toInt = 0) : (M u).1 = 0 := by
  have g := h u hu
  have ex : zz_XT σ r u = ((σ (r + 21 + 3 * u) 0).toInt, (σ (r + 21 + 3 * u) 1).toInt, zz_XC σ (r + 21 + 3 * u)) := if_pos hu
  rw [ex] at g
  unfold zz_tt at g
  dsimp only at g
  rcases g with ⟨-, g2⟩ | ⟨g1, -⟩
  · exact g2
  · omega
/-- what the class's gives answers -/
def zy_gC (r us : Int) (M : Nat → zz_M3) (x1 x2 x3 : Int32) : Prop := (us = 0 → r = zz_gv M 0 x1 x2 x3) ∧ (us = 1 → -99 ≤ x2.toInt → x2.toInt ≤ 99 → r = zz_gv M 1 x1 x2 x3)
theorem zy_gC.t0 {r us n : Int} {M : Nat → zz_M3} {x1 x2 x3 v : Int32} {j : Nat} (hu : us = 0) (hj : j = 0) (hn : n = (M j).1) (h1 : 1 ≤ n) (hv : zz_rv v (M j).2.1 (M j).2.2 n x1 x2 x3) (hr : r = zz_cl v.toInt 0 99) : zy_gC r us M x1 x2 x3 := by
  subst hj
  refine ⟨fun _ => ?_, fun q => absurd (hu.symm.trans q) (by decide)⟩
  unfold zz_gv
  rw [if_pos rfl, if_pos (by omega), ← hn, hr]
  unfold zz_rv at hv
  rw [hv]
theorem zy_gC.n0 {r us : Int} {M : Nat → zz_M3} {x1 x2 x3 : Int32} {j : Nat} (hu : us = 0) (hj : j = 0) (hn : (M j).1 = 0) (hr : r = zz_cl x1.toInt 0 99) : zy_gC r us M x1 x2 x3 := by
  subst hj
  refine ⟨fun _ => ?_, fun q => absurd (hu.symm.trans q) (by decide)⟩
  unfold zz_gv
  rw [if_pos rfl, if_neg (by omega)]
  exact hr
theorem zy_gC.t1 {r us n : Int} {M : Nat → zz_M3} {x1 x2 x3 v : Int32} {j : Nat} (hu : us = 1) (hj : j = 1) (hn : n = (M j).1) (h1 : 1 ≤ n) (hv : zz_rv v (M j).2.1 (M j).2.2 n x1 x2 x3) (hr : r = zz_cl v.toInt (-99) 99) : zy_gC r us M x1 x2 x3 := by
  subst hj
  refine ⟨fun q => absurd (q.symm.trans hu) (by decide), fun _ _ _ => ?_⟩
  unfold zz_gv
  rw [if_neg (by decide), if_pos (by omega), ← hn, hr]
  unfold zz_rv at hv
  rw [hv]
theorem zy_gC.n1 {r us : Int} {M : Nat → zz_M3} {x1 x2 x3 : Int32} {j : Nat} (hu : us = 1) (hj : j = 1) (hn : (M j).1 = 0) (hr : r = x2.toInt) : zy_gC r us M x1 x2 x3 := by
  subst hj
  refine ⟨fun q => absurd (q.symm.trans hu) (by decide), fun _ h1 h2 => ?_⟩
  unfold zz_gv
  rw [if_neg (by decide), if_neg (by omega), hr]
  unfold zz_cl
  rw [if_neg (by omega), if_neg (by omega)]
/-- what the reference's gives answers -/
theorem zy_gM {r us n : Int} {M : Nat → zz_M3} {x1 x2 x3 v : Int32} {u : Nat} (hu : us = (u : Int)) (hu2 : u < 2) (hn : n = (M u).1) (hv : (0 < n ∧ zz_rv v (M u).2.1 (M u).2.2 n x1 x2 x3) ∨ (n ≤ 0 ∧ ((us = 0 ∧ v = x1) ∨ (us = 1 ∧ v = x2)))) (hr : (us = 0 ∧ r = zz_cl v.toInt 0 99) ∨ (us = 1 ∧ r = zz_cl v.toInt (-99) 99)) : r = zz_gv M us x1 x2 x3 := by
  unfold zz_gv
  rcases hr with ⟨h0, hr⟩ | ⟨h0, hr⟩
  · have e : u = 0 := by omega
    subst e
    rw [if_pos h0, hr, ← hn]
    rcases hv with ⟨h1, hv⟩ | ⟨h1, hv⟩
    · rw [if_pos h1]
      unfold zz_rv at hv
      rw [hv]
    · rw [if_neg (by omega)]
      rcases hv with ⟨-, hv⟩ | ⟨q, -⟩
      · rw [hv]
      · omega
  · have e : u = 1 := by omega
    subst e
    rw [if_neg (by omega), hr, ← hn]
    rcases hv with ⟨h1, hv⟩ | ⟨h1, hv⟩
    · rw [if_pos h1]
      unfold zz_rv at hv
      rw [hv]
    · rw [if_neg (by omega)]
      rcases hv with ⟨q, -⟩ | ⟨-, hv⟩
      · omega
      · rw [hv]
theorem zz_MT.hi {σ σ1 : zz_S} {a b : Nat} (h : ∀ k : Nat, 157 ≤ k → σ1 b k = σ a k) : zz_MT σ1 b = zz_MT σ a := by
  funext u
  simp only [zz_MT]
  by_cases q : u < 2
  · rw [if_pos q, if_pos q, h _ (by omega)]
    have e : ∀ c : Nat, (c = 158 + 121 * u ∨ c = 218 + 121 * u) → zz_MC σ1 b c (σ a (157 + 121 * u)).toInt = zz_MC σ a c (σ a (157 + 121 * u)).toInt := by
      intro c hc
      funext k
      simp only [zz_MC]
      by_cases p : (k : Int) < (σ a (157 + 121 * u)).toInt
      · rw [if_pos p, if_pos p, h _ (by omega)]
      · rw [if_neg p, if_neg p]
    rw [e _ (Or.inl rfl), e _ (Or.inr rfl)]
  · rw [if_neg q, if_neg q]
