/-! ===== FINED ===== -/
def zy_m9 (v : Int) : Int := if 9999 < v then 9999 else v
theorem zy_m9_min {v a : Int} (h1 : v ≤ 9999) (h2 : v ≤ a) (h3 : v = 9999 ∨ v = a) : v = zy_m9 a := by
  unfold zy_m9
  by_cases q : 9999 < a
  · rw [if_pos q]; omega
  · rw [if_neg q]; omega
theorem zy_m9_cl {v a : Int} (h0 : 0 ≤ a) (h : v = zz_cl a 0 9999) : v = zy_m9 a := by
  rw [h]
  unfold zy_m9 zz_cl
  rw [if_neg (by omega)]
theorem zy_m9_rng {a : Int} (h0 : 0 ≤ a) : 0 ≤ zy_m9 a ∧ zy_m9 a ≤ 9999 := by
  unfold zy_m9
  by_cases q : 9999 < a
  · rw [if_pos q]; omega
  · rw [if_neg q]; omega
/-- FINED when an HOUR has gone by for the first n of PEOPLE -/
noncomputable def zy_ag (K : zy_W) (h n : Int) (V F : Nat → Int) : Nat → Int := fun j => if (j : Int) < n then zy_m9 (F j + zy_fn K h (Int32.ofInt (V j)) (Int32.ofInt (j : Int))) else F j
def zy_FB (F : Nat → Int) : Prop := ∀ j : Nat, 0 ≤ F j ∧ F j ≤ 9999
theorem zy_ag_0 {K : zy_W} {h n : Int} {V F : Nat → Int} (hn : n = 0) : F = zy_ag K h n V F := by
  funext j
  unfold zy_ag
  rw [if_neg (by omega)]
theorem zy_ag_at {K : zy_W} {h n : Int} {V F : Nat → Int} {j : Nat} (hj : n ≤ (j : Int)) : zy_ag K h n V F j = F j := if_neg (by omega)
theorem zy_ag_s {K : zy_W} {h n m : Int} {V F : Nat → Int} {d v : Int} (hn : 0 ≤ n) (hd : d = n) (hm : m = n + 1) (hv : v = zy_m9 (F n.toNat + zy_fn K h (Int32.ofInt (V n.toNat)) (Int32.ofInt n))) : zz_wn (zy_ag K h n V F) d v = zy_ag K h m V F := by
  rw [hd, hm]
  funext j
  simp only [zz_wn, zy_ag]
  by_cases q : (j : Int) = n
  · have e : n.toNat = j := by omega
    rw [if_pos q, if_pos (by omega), hv, e, q]
  · rw [if_neg q]
    by_cases p : (j : Int) < n
    · rw [if_pos p, if_pos (by omega)]
    · rw [if_neg p, if_neg (by omega)]
theorem zy_FB.ag {K : zy_W} {h n : Int} {V F : Nat → Int} (hF : zy_FB F) : zy_FB (zy_ag K h n V F) := fun j => by
  have f := hF j
  have g := zy_fn_rng K h (Int32.ofInt (V j)) (Int32.ofInt (j : Int))
  unfold zy_ag
  by_cases p : (j : Int) < n
  · rw [if_pos p]
    exact zy_m9_rng (by omega)
  · rw [if_neg p]
    exact f
theorem zy_FB.wn {F : Nat → Int} {d v : Int} (hF : zy_FB F) (hv : 0 ≤ v ∧ v ≤ 9999) : zy_FB (zz_wn F d v) := fun j => by
  unfold zz_wn
  by_cases q : (j : Int) = d
  · rw [if_pos q]; exact hv
  · rw [if_neg q]; exact hF j
/-- n HOURS go by -/
noncomputable def zy_hs (K : zy_W) (n : Int) (V : Nat → Int) : Nat → Int → (Nat → Int) → Nat → Int
  | 0, _, F => F
  | k + 1, h, F => zy_hs K n V k (h + 1) (zy_ag K h n V F)
theorem zy_hs_s {K : zy_W} {n h h2 : Int} {V F X : Nat → Int} {a b : Nat} (e : zy_hs K n V a h F = X) (ha : a = b + 1) (hh : h2 = h + 1) : zy_hs K n V b h2 (zy_ag K h n V F) = X := by
  subst ha; subst hh
  exact e
theorem zy_hs_0 {K : zy_W} {n h : Int} {V F X : Nat → Int} {a : Nat} (e : zy_hs K n V a h F = X) (ha : a = 0) : F = X := by
  subst ha
  exact e
theorem zy_FB.hs {K : zy_W} {n : Int} {V : Nat → Int} : ∀ (k : Nat) (h : Int) (F : Nat → Int), zy_FB F → zy_FB (zy_hs K n V k h F)
  | 0, _, _, hF => hF
  | k + 1, h, _, hF => zy_FB.hs k (h + 1) _ hF.ag
/-- n HOURS BY DRAWS -/
noncomputable def zy_lf (M : Nat → zz_M3) (s n : Int) (V : Nat → Int) : Nat → Int → Int → Int32 → (Nat → Nat → Int) → (Nat → Int) → Nat → Int
  | 0, _, _, _, _, F => F
  | k + 1, h, d, z, D, F => if h % 24 = s % 24 ∧ d < 9 ∧ h / 24 < 99 then zy_lf M s n V k (h + 1) (d + 1) (zz_z (zz_z (zz_z z))) (zz_dn D d (zz_dv (zz_z z) % 7) (zz_dv (zz_z (zz_z (zz_z z))) % 20 / 2) (zz_dv (zz_z (zz_z z)) % 10) (zz_dv (zz_z (zz_z (zz_z z))) % 20 % 2) (h / 24 + 1)) (zy_ag (M, zz_dn D d (zz_dv (zz_z z) % 7) (zz_dv (zz_z (zz_z (zz_z z))) % 20 / 2) (zz_dv (zz_z (zz_z z)) % 10) (zz_dv (zz_z (zz_z (zz_z z))) % 20 % 2) (h / 24 + 1), d + 1, s) h n V F) else zy_lf M s n V k (h + 1) d z D (zy_ag (M, D, d, s) h n V F)
theorem zy_lf_y {M : Nat → zz_M3} {s n h h2 d d2 : Int} {V F X : Nat → Int} {z z2 : Int32} {D D2 : Nat → Nat → Int} {a b : Nat} (e : zy_lf M s n V a h d z D F = X) (ha : a = b + 1) (hh : h2 = h + 1) (c : h % 24 = s % 24 ∧ d < 9 ∧ h / 24 < 99) (hd : d2 = d + 1) (hz : z2 = zz_z (zz_z (zz_z z))) (hD : D2 = zz_dn D d (zz_dv (zz_z z) % 7) (zz_dv (zz_z (zz_z (zz_z z))) % 20 / 2) (zz_dv (zz_z (zz_z z)) % 10) (zz_dv (zz_z (zz_z (zz_z z))) % 20 % 2) (h / 24 + 1)) : zy_lf M s n V b h2 d2 z2 D2 (zy_ag (M, D2, d2, s) h n V F) = X := by
  subst ha; subst hh; subst hd; subst hz; subst hD
  rw [← e]
  exact (if_pos c).symm
theorem zy_lf_n {M : Nat → zz_M3} {s n h h2 d d2 : Int} {V F X : Nat → Int} {z z2 : Int32} {D D2 : Nat → Nat → Int} {a b : Nat} (e : zy_lf M s n V a h d z D F = X) (ha : a = b + 1) (hh : h2 = h + 1) (c : ¬ (h % 24 = s % 24 ∧ d < 9 ∧ h / 24 < 99)) (hd : d2 = d) (hz : z2 = z) (hD : D2 = D) : zy_lf M s n V b h2 d2 z2 D2 (zy_ag (M, D2, d2, s) h n V F) = X := by
  subst ha; subst hh; subst hd; subst hz; subst hD
  rw [← e]
  exact (if_neg c).symm
theorem zy_lf_0 {M : Nat → zz_M3} {s n h d : Int} {V F X : Nat → Int} {z : Int32} {D : Nat → Nat → Int} {a : Nat} (e : zy_lf M s n V a h d z D F = X) (ha : a = 0) : F = X := by
  subst ha
  exact e
/-- what one of PEOPLE is FINED behind n HOURS more -/
noncomputable def zy_th (K : zy_W) (h : Int) (w p : Int32) (f : Int) : Nat → Int
  | 0 => f
  | n + 1 => zy_m9 (zy_th K h w p f n + zy_fn K (h + (n : Int)) w p)
theorem zy_th_s {K : zy_W} {h f a g b : Int} {w p : Int32} {n k : Nat} (ha : a = zy_th K h w p f n) (hg : g = zy_fn K (h + (n : Int)) w p) (hb : b = zy_m9 (a + g)) (hk : k = n + 1) : b = zy_th K h w p f k := by
  rw [hk, hb, ha, hg]
  rfl
def zy_p8 (K : zy_W) (np : Int) (V F : Nat → Int) (h : Int) (ps what : Int32) (r : Int32) : Prop := (¬ (0 ≤ ps.toInt ∧ ps.toInt < np ∧ 0 ≤ what.toInt ∧ what.toInt ≤ 3) ∧ r.toInt = -1000000001) ∨ ((0 ≤ ps.toInt ∧ ps.toInt < np ∧ what.toInt = 0) ∧ r.toInt = V ps.toInt.toNat) ∨ ((0 ≤ ps.toInt ∧ ps.toInt < np ∧ what.toInt = 1) ∧ r.toInt = F ps.toInt.toNat) ∨ ((0 ≤ ps.toInt ∧ ps.toInt < np ∧ what.toInt = 2) ∧ r.toInt = zy_gl K h (Int32.ofInt (V ps.toInt.toNat))) ∨ ((0 ≤ ps.toInt ∧ ps.toInt < np ∧ what.toInt = 3) ∧ r.toInt = zy_fn K h (Int32.ofInt (V ps.toInt.toNat)) ps)
theorem zy_p8.u {K : zy_W} {np : Int} {V F : Nat → Int} {h : Int} {ps what r s : Int32} (a : zy_p8 K np V F h ps what r) (b : zy_p8 K np V F h ps what s) : r.toInt = s.toInt := by
  rcases a with ⟨a1, a2⟩ | ⟨a1, a2⟩ | ⟨a1, a2⟩ | ⟨a1, a2⟩ | ⟨a1, a2⟩ <;> rcases b with ⟨b1, b2⟩ | ⟨b1, b2⟩ | ⟨b1, b2⟩ | ⟨b1, b2⟩ | ⟨b1, b2⟩ <;> first | exact a2.trans b2.symm | (exfalso; clear a2 b2; omega)
def zy_p20 (K : zy_W) (np : Int) (V F : Nat → Int) (h : Int) (ps nn : Int32) (r : Int32) : Prop := (¬ (0 ≤ ps.toInt ∧ ps.toInt < np ∧ 0 ≤ nn.toInt ∧ nn.toInt ≤ 240) ∧ r.toInt = -1000000001) ∨ ((0 ≤ ps.toInt ∧ ps.toInt < np ∧ 0 ≤ nn.toInt ∧ nn.toInt ≤ 240) ∧ r.toInt = zy_th K h (Int32.ofInt (V ps.toInt.toNat)) ps (F ps.toInt.toNat) nn.toInt.toNat)
theorem zy_p20.u {K : zy_W} {np : Int} {V F : Nat → Int} {h : Int} {ps nn r s : Int32} (a : zy_p20 K np V F h ps nn r) (b : zy_p20 K np V F h ps nn s) : r.toInt = s.toInt := by
  rcases a with ⟨a1, a2⟩ | ⟨a1, a2⟩ <;> rcases b with ⟨b1, b2⟩ | ⟨b1, b2⟩ <;> first | exact a2.trans b2.symm | exact absurd b1 a1 | exact absurd a1 b1
theorem zy_FB.lf {M : Nat → zz_M3} {s n : Int} {V : Nat → Int} : ∀ (k : Nat) (h d : Int) (z : Int32) (D : Nat → Nat → Int) (F : Nat → Int), zy_FB F → zy_FB (zy_lf M s n V k h d z D F)
  | 0, _, _, _, _, _, hF => hF
  | k + 1, h, d, z, D, F, hF => by
    by_cases c : h % 24 = s % 24 ∧ d < 9 ∧ h / 24 < 99
    · rw [← zy_lf_y (M := M) (s := s) (n := n) (V := V) (a := k + 1) (F := F) rfl rfl rfl c rfl rfl rfl]
      exact zy_FB.lf k _ _ _ _ _ hF.ag
    · rw [← zy_lf_n (M := M) (s := s) (n := n) (V := V) (a := k + 1) (F := F) rfl rfl rfl c rfl rfl rfl]
      exact zy_FB.lf k _ _ _ _ _ hF.ag
/-! ===== the numbers that wait ===== -/
def zy_wv (σ : zz_S) (a b : Nat) (n : Int) : Nat → Int := fun k => if k < 24 ∧ (k : Int) < n then (σ a (b + k)).toInt else 0
theorem zy_wv.eq {σ σ1 : zz_S} {a a1 b b1 : Nat} {n n1 : Int} (hn : n1 = n) (h : ∀ k : Nat, k < 24 → σ1 a1 (b1 + k) = σ a (b + k)) : zy_wv σ1 a1 b1 n1 = zy_wv σ a b n := by
  subst hn
  funext k
  simp only [zy_wv]
  by_cases q : k < 24 ∧ (k : Int) < n1
  · rw [if_pos q, if_pos q, h k q.1]
  · rw [if_neg q, if_neg q]
theorem zy_wv.at {σ : zz_S} {a b k : Nat} {n : Int} (h1 : k < 24) (h2 : (k : Int) < n) : zy_wv σ a b n k = (σ a (b + k)).toInt := if_pos ⟨h1, h2⟩
theorem zy_wv.z {σ : zz_S} {a b : Nat} {n : Int} (h : n = 0) : zy_wv σ a b n = fun _ => 0 := by
  funext k
  exact if_neg (by omega)
/-- one more waits -/
theorem zy_wv.up {σ σ1 : zz_S} {a b j : Nat} {n n1 v : Int} {w : Int32} (hj : (j : Int) = n) (h24 : n < 24) (hn : n1 = n + 1) (hv : v = w.toInt) (e1 : σ1 a (b + j) = w) (e2 : ∀ k : Nat, k < 24 → k ≠ j → σ1 a (b + k) = σ a (b + k)) : zy_wv σ1 a b n1 = zz_wn (zy_wv σ a b n) n v := by
  subst hn
  funext k
  simp only [zy_wv, zz_wn]
  by_cases q : (k : Int) = n
  · have e : k = j := by omega
    subst e
    rw [if_pos q, if_pos (by omega), e1, hv]
  · rw [if_neg q]
    by_cases p : k < 24 ∧ (k : Int) < n
    · rw [if_pos p, if_pos (by omega), e2 k p.1 (by omega)]
    · rw [if_neg p, if_neg (by omega)]
/-- the place of the first that isn't so -/
noncomputable def zy_ck (P : Nat → Prop) : Nat → Nat → Int
  | 0, _ => 0
  | m + 1, i => @ite _ (P i) (Classical.propDecidable _) (1 + (i : Int)) (zy_ck P m (i + 1))
theorem zy_ck_0 {P : Nat → Prop} {m i : Nat} (hi : i = 0) : zy_ck P (m - i) i = zy_ck P m 0 := by subst hi; rfl
theorem zy_ck_hit {P : Nat → Prop} {m i : Nat} {X : Int} (h : P i) (e : zy_ck P m i = X) (hm : 0 < m) : X = 1 + (i : Int) := by
  obtain ⟨n, hn⟩ : ∃ n, m = n + 1 := ⟨m - 1, by omega⟩
  subst hn
  rw [← e]
  show @ite _ (P i) (Classical.propDecidable _) (1 + (i : Int)) (zy_ck P n (i + 1)) = _
  rw [if_pos h]
theorem zy_ck_go {P : Nat → Prop} {m i n j : Nat} {X : Int} (h : ¬ P i) (e : zy_ck P m i = X) (hm : m = n + 1) (hj : j = i + 1) : zy_ck P n j = X := by
  subst hm; subst hj
  rw [← e]
  show _ = @ite _ (P i) (Classical.propDecidable _) (1 + (i : Int)) (zy_ck P n (i + 1))
  rw [if_neg h]
theorem zy_ck_end {P : Nat → Prop} {m i : Nat} {X : Int} (e : zy_ck P m i = X) (hm : m = 0) : X = 0 := by
  subst hm
  exact e.symm
/-- whether number i isn't what one of PEOPLE is FINED -/
def zy_cp (np : Int) (F W : Nat → Int) : Nat → Prop := fun i => np ≤ (i : Int) ∨ F i ≠ W i
