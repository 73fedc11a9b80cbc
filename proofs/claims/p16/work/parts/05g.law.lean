/-! ===== a truth as 1 or 0 ===== -/
def zy_bt (r : Int) (P : Prop) : Prop := (r = 1 ∧ P) ∨ (r = 0 ∧ ¬ P)
theorem zy_bt.y {r : Int} {P : Prop} (h : zy_bt r P) (e : r ≠ 0) : P := h.elim (fun q => q.2) (fun q => absurd q.1 e)
theorem zy_bt.n {r : Int} {P : Prop} (h : zy_bt r P) (e : r = 0) : ¬ P := h.elim (fun q => absurd (q.1.symm.trans e) (by decide)) (fun q => q.2)
theorem zy_bt.z {r : Int} {P : Prop} (h : zy_bt r P) : r = 0 ∨ r = 1 := h.elim (fun q => Or.inr q.1) (fun q => Or.inl q.1)
theorem zy_bt.of {r : Int} {P Q : Prop} (h : zy_bt r P) (e : P ↔ Q) : zy_bt r Q := h.elim (fun q => Or.inl ⟨q.1, e.mp q.2⟩) (fun q => Or.inr ⟨q.1, fun z => q.2 (e.mpr z)⟩)
theorem zy_bt.eq {r s : Int} {P : Prop} (h : zy_bt r P) (g : zy_bt s P) : r = s := h.elim (fun q => g.elim (fun p => q.1.trans p.1.symm) (fun p => absurd q.2 p.2)) (fun q => g.elim (fun p => absurd p.2 q.2) (fun p => q.1.trans p.1.symm))
/-! ===== sets of numbers below ten ===== -/
theorem zy_bor : ∀ n : Nat, n < 10 → ∀ N : Nat, N < 2 ^ n → (Int32.ofNat N ||| ((1 : Int32) <<< (Int32.ofInt (n : Int) &&& 31))) = Int32.ofNat (N + 2 ^ n) := by decide +kernel
theorem zy_bts : ∀ n : Nat, n < 10 → ∀ N : Nat, N < 2 ^ n → (N + 2 ^ n).testBit n = true ∧ ∀ i : Nat, i < n → (N + 2 ^ n).testBit i = N.testBit i := by decide +kernel
theorem zy_band : ∀ N : Nat, N < 1024 → ∀ m : Nat, m < 10 → ((Int32.ofNat N &&& ((1 : Int32) <<< (Int32.ofInt (m : Int) &&& 31))).toInt ≠ 0 ↔ N.testBit m = true) := by decide +kernel
theorem zy_bshr : ∀ N : Nat, N < 1024 → ∀ m : Nat, m < 10 → (((Int32.ofNat N >>> (Int32.ofInt (m : Int) &&& 31)) &&& 1).toInt = if N.testBit m = true then 1 else 0) := by decide +kernel
noncomputable def zy_st (P : Nat → Prop) : Nat → Int32
  | 0 => 0
  | n + 1 => @ite _ (P n) (Classical.propDecidable _) (zy_st P n ||| ((1 : Int32) <<< (Int32.ofInt (n : Int) &&& 31))) (zy_st P n)
theorem zy_st_1 {P : Nat → Prop} {n : Nat} (h : P n) : zy_st P (n + 1) = zy_st P n ||| ((1 : Int32) <<< (Int32.ofInt (n : Int) &&& 31)) := by
  show @ite _ (P n) (Classical.propDecidable _) (zy_st P n ||| ((1 : Int32) <<< (Int32.ofInt (n : Int) &&& 31))) (zy_st P n) = _
  rw [if_pos h]
theorem zy_st_0 {P : Nat → Prop} {n : Nat} (h : ¬ P n) : zy_st P (n + 1) = zy_st P n := by
  show @ite _ (P n) (Classical.propDecidable _) (zy_st P n ||| ((1 : Int32) <<< (Int32.ofInt (n : Int) &&& 31))) (zy_st P n) = _
  rw [if_neg h]
/-- one more in a set, as the machine puts it in -/
theorem zy_st_in {P : Nat → Prop} {n k : Nat} {s b t i : Int32} (h : P n) (hs : s = zy_st P n) (hi : i.toInt = (n : Int)) (hb : b = (1 : Int32) <<< (i &&& 31)) (ht : t = s ||| b) (hk : k = n + 1) : t = zy_st P k := by
  rw [hk, zy_st_1 h, ht, hb, hs, ← hi, Int32.ofInt_toInt]
theorem zy_st_no {P : Nat → Prop} {n k : Nat} {s : Int32} (h : ¬ P n) (hs : s = zy_st P n) (hk : k = n + 1) : s = zy_st P k := by
  rw [hk, zy_st_0 h]
  exact hs
theorem zy_st_congr {P Q : Nat → Prop} : ∀ n : Nat, (∀ i : Nat, i < n → (P i ↔ Q i)) → zy_st P n = zy_st Q n
  | 0, _ => rfl
  | n + 1, h => by
    have ih := zy_st_congr n (fun i hi => h i (Nat.lt_succ_of_lt hi))
    have hn := h n (Nat.lt_succ_self n)
    by_cases p : P n
    · rw [zy_st_1 p, zy_st_1 (hn.mp p), ih]
    · rw [zy_st_0 p, zy_st_0 (fun q => p (hn.mpr q)), ih]
theorem zy_st_N (P : Nat → Prop) : ∀ n : Nat, n ≤ 10 → ∃ N : Nat, N < 2 ^ n ∧ zy_st P n = Int32.ofNat N ∧ ∀ i : Nat, i < n → (N.testBit i = true ↔ P i)
  | 0, _ => ⟨0, by decide, rfl, fun i h => absurd h (Nat.not_lt_zero i)⟩
  | n + 1, hn => by
    obtain ⟨N, h1, h2, h3⟩ := zy_st_N P n (by omega)
    by_cases p : P n
    · refine ⟨N + 2 ^ n, by rw [Nat.pow_succ]; omega, by rw [zy_st_1 p, h2]; exact zy_bor n (by omega) N h1, fun i hi => ?_⟩
      have hb := zy_bts n (by omega) N h1
      by_cases e : i = n
      · subst e
        exact ⟨fun _ => p, fun _ => hb.1⟩
      · rw [hb.2 i (by omega)]
        exact h3 i (by omega)
    · refine ⟨N, by rw [Nat.pow_succ]; omega, by rw [zy_st_0 p, h2], fun i hi => ?_⟩
      by_cases e : i = n
      · subst e
        rw [Nat.testBit_lt_two_pow h1]
        exact ⟨fun q => absurd q (by decide), fun q => absurd q p⟩
      · exact h3 i (by omega)
theorem zy_st_has (P : Nat → Prop) {m : Nat} {i b t : Int32} (hm : m < 10) (hi : i.toInt = (m : Int)) (hb : b = (1 : Int32) <<< (i &&& 31)) (ht : t = zy_st P 10 &&& b) : t.toInt ≠ 0 ↔ P m := by
  obtain ⟨N, h1, h2, h3⟩ := zy_st_N P 10 (Nat.le_refl _)
  have e : i = Int32.ofInt (m : Int) := by rw [← hi, Int32.ofInt_toInt]
  rw [ht, hb, e, h2]
  exact (zy_band N h1 m hm).trans (h3 m hm)
theorem zy_st_rng (P : Nat → Prop) {n : Nat} (hn : n ≤ 10) : 0 ≤ (zy_st P n).toInt ∧ (zy_st P n).toInt < 1024 := by
  obtain ⟨N, h1, h2, h3⟩ := zy_st_N P n hn
  have h4 : (2 : Nat) ^ n ≤ 2 ^ 10 := Nat.pow_le_pow_right (by decide) hn
  have h5 : (2 : Nat) ^ 10 = 1024 := by decide
  rw [h2, Int32.toInt_ofNat_of_lt (by omega)]
  omega
theorem zy_and_rng {s t w : Int32} (hs : 0 ≤ s.toInt ∧ s.toInt < 1024) (ht : t = s &&& w) : 0 ≤ t.toInt ∧ t.toInt < 1024 := by
  have h1 : t.toBitVec.toNat ≤ s.toBitVec.toNat := by
    rw [ht, Int32.toBitVec_and, BitVec.toNat_and]
    exact Nat.and_le_left
  have e := BitVec.toInt_eq_toNat_cond s.toBitVec
  have e2 := BitVec.toInt_eq_toNat_cond t.toBitVec
  have hl := s.toBitVec.isLt
  have hs2 : 0 ≤ s.toBitVec.toInt ∧ s.toBitVec.toInt < 1024 := hs
  show 0 ≤ t.toBitVec.toInt ∧ t.toBitVec.toInt < 1024
  split at e <;> split at e2 <;> omega
/-! ===== how many bits ===== -/
theorem zy_lt {x y z : Int32} (h : ¬ x = 0) (e : z = x - 1) (e2 : y = x &&& z) : y.toBitVec.toNat < x.toBitVec.toNat := by
  subst e2; subst e
  have h0 : x.toBitVec.toNat ≠ 0 := by
    intro q
    exact h (Int32.toBitVec_inj.mp (BitVec.eq_of_toNat_eq (by rw [q]; rfl)))
  have h1 : (x &&& (x - 1)).toBitVec.toNat ≤ (x - 1).toBitVec.toNat := by
    rw [Int32.toBitVec_and, BitVec.toNat_and]
    exact Nat.and_le_right
  have h2 : (x - 1).toBitVec.toNat = x.toBitVec.toNat - 1 := by
    have hl : x.toBitVec.toNat < 2 ^ 32 := x.toBitVec.isLt
    rw [Int32.toBitVec_sub, BitVec.toNat_sub]
    have : (1 : Int32).toBitVec.toNat = 1 := by decide
    rw [this]
    omega
  omega
def zy_kc : Nat → Int32 → Int
  | 0, _ => 0
  | f + 1, x => if x = 0 then 0 else 1 + zy_kc f (x &&& (x - 1))
theorem zy_kc_st : ∀ (f : Nat) (x : Int32), x.toBitVec.toNat ≤ f → zy_kc (f + 1) x = zy_kc f x
  | 0, x, h => by
    have e : x = 0 := Int32.toBitVec_inj.mp (BitVec.eq_of_toNat_eq (by rw [Nat.le_zero.mp h]; rfl))
    show (if x = 0 then (0 : Int) else _) = 0
    rw [if_pos e]
  | f + 1, x, h => by
    show (if x = 0 then (0 : Int) else 1 + zy_kc (f + 1) (x &&& (x - 1))) = (if x = 0 then (0 : Int) else 1 + zy_kc f (x &&& (x - 1)))
    by_cases e : x = 0
    · rw [if_pos e, if_pos e]
    · rw [if_neg e, if_neg e, zy_kc_st f _ (by have := zy_lt (y := x &&& (x - 1)) e rfl rfl; omega)]
theorem zy_kc_ge (x : Int32) : ∀ d : Nat, zy_kc (x.toBitVec.toNat + d) x = zy_kc x.toBitVec.toNat x
  | 0 => rfl
  | d + 1 => (zy_kc_st _ x (Nat.le_add_right _ _)).trans (zy_kc_ge x d)
theorem zy_expc : ∃ f : Int32 → Int, ∀ x, f x = zy_kc x.toBitVec.toNat x := ⟨_, fun _ => rfl⟩
noncomputable def zy_pc : Int32 → Int := Classical.choose zy_expc
theorem zy_pc_eq (x : Int32) : zy_pc x = zy_kc x.toBitVec.toNat x := Classical.choose_spec zy_expc x
theorem zy_pc_0 {x : Int32} (h : x.toInt = 0) : zy_pc x = 0 := by
  have e : x = 0 := zz_ext (by rw [h]; decide)
  subst e
  rw [zy_pc_eq]
  decide +kernel
theorem zy_pc_s {x y z : Int32} (h : ¬ x.toInt = 0) (e : z = x - 1) (e2 : y = x &&& z) : zy_pc x = 1 + zy_pc y := by
  have h0 : ¬ x = 0 := fun q => h (by rw [q]; decide)
  have hl := zy_lt h0 e e2
  subst e2; subst e
  rw [zy_pc_eq, zy_pc_eq]
  obtain ⟨n, hn⟩ : ∃ n, x.toBitVec.toNat = n + 1 := ⟨x.toBitVec.toNat - 1, by omega⟩
  obtain ⟨d, hd⟩ : ∃ d, n = (x &&& (x - 1)).toBitVec.toNat + d := ⟨n - (x &&& (x - 1)).toBitVec.toNat, by omega⟩
  rw [hn]
  show (if x = 0 then (0 : Int) else 1 + zy_kc n (x &&& (x - 1))) = _
  rw [if_neg h0]
  have hk := zy_kc_ge (x &&& (x - 1)) d
  rw [← hd] at hk
  rw [hk]
/-- the machine's own way to count them -/
def zy_us (x s : Int32) : Int32 := (x.toUInt32 >>> (s.toUInt32 &&& Int32.toUInt32 31)).toInt32
def zy_b1 (v : Int32) : Int32 := v - (zy_us v 1 &&& 1431655765)
def zy_b2 (v : Int32) : Int32 := (v &&& 858993459) + (zy_us v 2 &&& 858993459)
def zy_b3 (v : Int32) : Int32 := (v + zy_us v 4) &&& 252645135
def zy_b4 (v : Int32) : Int32 := v + zy_us v 8
def zy_b5 (v : Int32) : Int32 := v + zy_us v 16
def zy_bcf (v : Int32) : Int32 := zy_b5 (zy_b4 (zy_b3 (zy_b2 (zy_b1 v)))) &&& 63
theorem zy_bcN : ∀ N : Nat, N < 1024 → (zy_bcf (Int32.ofNat N)).toInt = zy_kc N (Int32.ofNat N) ∧ 0 ≤ zy_kc N (Int32.ofNat N) ∧ zy_kc N (Int32.ofNat N) ≤ 10 := by decide +kernel
theorem zy_asN {v : Int32} (h : 0 ≤ v.toInt ∧ v.toInt < 1024) : ∃ N : Nat, N < 1024 ∧ v = Int32.ofNat N ∧ v.toBitVec.toNat = N := by
  refine ⟨v.toInt.toNat, by omega, zz_ext ?_, ?_⟩
  · rw [Int32.toInt_ofNat_of_lt (by omega)]
    omega
  · have e := BitVec.toInt_eq_toNat_cond v.toBitVec
    have hl := v.toBitVec.isLt
    have h2 : 0 ≤ v.toBitVec.toInt ∧ v.toBitVec.toInt < 1024 := h
    show v.toBitVec.toNat = v.toBitVec.toInt.toNat
    split at e <;> omega
theorem zy_bc_pc {v r : Int32} (h : 0 ≤ v.toInt ∧ v.toInt < 1024) (hr : r = zy_bcf v) : r.toInt = zy_pc v := by
  obtain ⟨N, h1, h2, h3⟩ := zy_asN h
  rw [hr, zy_pc_eq, h3, h2]
  exact (zy_bcN N h1).1
theorem zy_pc_rng {v : Int32} (h : 0 ≤ v.toInt ∧ v.toInt < 1024) : 0 ≤ zy_pc v ∧ zy_pc v ≤ 10 := by
  obtain ⟨N, h1, h2, h3⟩ := zy_asN h
  rw [zy_pc_eq, h3, h2]
  exact (zy_bcN N h1).2
/-- how many numbers below n -/
noncomputable def zy_cn (P : Nat → Prop) : Nat → Int
  | 0 => 0
  | n + 1 => @ite _ (P n) (Classical.propDecidable _) (zy_cn P n + 1) (zy_cn P n)
theorem zy_cn_1 {P : Nat → Prop} {n : Nat} (h : P n) : zy_cn P (n + 1) = zy_cn P n + 1 := by
  show @ite _ (P n) (Classical.propDecidable _) (zy_cn P n + 1) (zy_cn P n) = _
  rw [if_pos h]
theorem zy_cn_0 {P : Nat → Prop} {n : Nat} (h : ¬ P n) : zy_cn P (n + 1) = zy_cn P n := by
  show @ite _ (P n) (Classical.propDecidable _) (zy_cn P n + 1) (zy_cn P n) = _
  rw [if_neg h]
theorem zy_cn_rng (P : Nat → Prop) : ∀ n : Nat, 0 ≤ zy_cn P n ∧ zy_cn P n ≤ (n : Int)
  | 0 => ⟨Int.le_refl _, Int.le_refl _⟩
  | n + 1 => by
    have ih := zy_cn_rng P n
    by_cases p : P n
    · rw [zy_cn_1 p]; omega
    · rw [zy_cn_0 p]; omega
def zy_cb (N : Nat) : Nat → Int
  | 0 => 0
  | n + 1 => if N.testBit n = true then zy_cb N n + 1 else zy_cb N n
theorem zy_cbN : ∀ N : Nat, N < 1024 → zy_kc N (Int32.ofNat N) = zy_cb N 10 ∧ ((Int32.ofNat N).toInt = 0 ↔ zy_cb N 10 = 0) := by decide +kernel
theorem zy_cn_cb {P : Nat → Prop} {N : Nat} : ∀ n : Nat, (∀ i : Nat, i < n → (N.testBit i = true ↔ P i)) → zy_cn P n = zy_cb N n
  | 0, _ => rfl
  | n + 1, h => by
    have ih := zy_cn_cb n (fun i hi => h i (Nat.lt_succ_of_lt hi))
    have hn := h n (Nat.lt_succ_self n)
    show _ = if N.testBit n = true then zy_cb N n + 1 else zy_cb N n
    by_cases p : P n
    · rw [zy_cn_1 p, if_pos (hn.mpr p), ih]
    · rw [zy_cn_0 p, if_neg (fun q => p (hn.mp q)), ih]
theorem zy_pc_cn (P : Nat → Prop) : zy_pc (zy_st P 10) = zy_cn P 10 ∧ ((zy_st P 10).toInt = 0 ↔ zy_cn P 10 = 0) := by
  obtain ⟨N, h1, h2, h3⟩ := zy_st_N P 10 (Nat.le_refl _)
  have h1' : N < 1024 := h1
  have h4 := zy_cbN N h1'
  rw [zy_cn_cb 10 h3, zy_pc_eq, h2]
  have e : (Int32.ofNat N).toBitVec.toNat = N := Nat.mod_eq_of_lt (by omega)
  rw [e]
  exact h4
theorem zy_st_shr (P : Nat → Prop) {m : Nat} {i a t : Int32} (hm : m < 10) (hi : i.toInt = (m : Int)) (ha : a = zy_st P 10 >>> (i &&& 31)) (ht : t = a &&& 1) : zy_bt t.toInt (P m) := by
  obtain ⟨N, h1, h2, h3⟩ := zy_st_N P 10 (Nat.le_refl _)
  have e : i = Int32.ofInt (m : Int) := by rw [← hi, Int32.ofInt_toInt]
  have h5 := zy_bshr N h1 m hm
  rw [ht, ha, e, h2, h5]
  by_cases p : N.testBit m = true
  · rw [if_pos p]; exact Or.inl ⟨rfl, (h3 m hm).mp p⟩
  · rw [if_neg p]; exact Or.inr ⟨rfl, fun q => p ((h3 m hm).mpr q)⟩
/-! ===== which DREAMS are IN FORCE ===== -/
def zy_Fo (k m x y sl : Int) : Prop :=
  if k = 1 then x = 0 ∧ 12 ≤ y ∧ y < sl ∧ y < sl - m
  else if k = 2 then x = 0 ∧ 14 ≤ y ∧ y < 14 + m
  else if k = 3 then 0 ≤ x ∧ x % (m + 1) = 0 ∧ 12 ≤ y ∧ y < sl
  else if k = 4 then (x = 0 ∧ 12 ≤ y ∧ y < sl ∧ y < sl - m) ∨ (x = 0 ∧ y < 12 ∧ 12 - m ≤ y)
  else if k = 5 then (x = 0 ∧ 14 ≤ y ∧ y < 14 + m) ∨ (x = 1 ∧ y < m)
  else if k = 6 then m = 9 ∧ x = 0 ∧ 12 ≤ y ∧ y < sl
  else x = 0 ∧ 12 ≤ y ∧ y < sl
theorem zy_Fo_1 {r k m x y sl : Int} (hk : k = 1) (h : zy_bt r (x = 0 ∧ 12 ≤ y ∧ y < sl ∧ y < sl - m)) : zy_bt r (zy_Fo k m x y sl) := by
  unfold zy_Fo; rw [if_pos hk]; exact h
theorem zy_Fo_2 {r k m x y sl : Int} (hk : k = 2) (h : zy_bt r (x = 0 ∧ 14 ≤ y ∧ y < 14 + m)) : zy_bt r (zy_Fo k m x y sl) := by
  unfold zy_Fo; rw [if_neg (by omega), if_pos hk]; exact h
theorem zy_Fo_3 {r k m x y sl : Int} (hk : k = 3) (h : zy_bt r (0 ≤ x ∧ x % (m + 1) = 0 ∧ 12 ≤ y ∧ y < sl)) : zy_bt r (zy_Fo k m x y sl) := by
  unfold zy_Fo; rw [if_neg (by omega), if_neg (by omega), if_pos hk]; exact h
theorem zy_Fo_4 {r k m x y sl : Int} (hk : k = 4) (h : zy_bt r ((x = 0 ∧ 12 ≤ y ∧ y < sl ∧ y < sl - m) ∨ (x = 0 ∧ y < 12 ∧ 12 - m ≤ y))) : zy_bt r (zy_Fo k m x y sl) := by
  unfold zy_Fo; rw [if_neg (by omega), if_neg (by omega), if_neg (by omega), if_pos hk]; exact h
theorem zy_Fo_5 {r k m x y sl : Int} (hk : k = 5) (h : zy_bt r ((x = 0 ∧ 14 ≤ y ∧ y < 14 + m) ∨ (x = 1 ∧ y < m))) : zy_bt r (zy_Fo k m x y sl) := by
  unfold zy_Fo; rw [if_neg (by omega), if_neg (by omega), if_neg (by omega), if_neg (by omega), if_pos hk]; exact h
theorem zy_Fo_6 {r k m x y sl : Int} (hk : k = 6) (h : zy_bt r (m = 9 ∧ x = 0 ∧ 12 ≤ y ∧ y < sl)) : zy_bt r (zy_Fo k m x y sl) := by
  unfold zy_Fo; rw [if_neg (by omega), if_neg (by omega), if_neg (by omega), if_neg (by omega), if_neg (by omega), if_pos hk]; exact h
theorem zy_Fo_d {r k m x y sl : Int} (hk : k < 1 ∨ 6 < k) (h : zy_bt r (x = 0 ∧ 12 ≤ y ∧ y < sl)) : zy_bt r (zy_Fo k m x y sl) := by
  unfold zy_Fo; rw [if_neg (by omega), if_neg (by omega), if_neg (by omega), if_neg (by omega), if_neg (by omega), if_neg (by omega)]; exact h
def zy_Fc (k m dy go sl h : Int) : Prop := go = 0 ∧ zy_Fo k m (h / 24 - dy) (h % 24) sl
theorem zy_Fc.mk {r k m dy go sl h x y : Int} (hx : x = h / 24 - dy) (hy : y = h % 24) (hg : go = 0) (hr : zy_bt r (zy_Fo k m x y sl)) : zy_bt r (zy_Fc k m dy go sl h) := by
  subst hx; subst hy
  rcases hr with ⟨a, b⟩ | ⟨a, b⟩
  · exact Or.inl ⟨a, hg, b⟩
  · exact Or.inr ⟨a, fun q => b q.2⟩
theorem zy_Fc.gone {r k m dy go sl h : Int} (hg : go ≠ 0) (hr : r = 0) : zy_bt r (zy_Fc k m dy go sl h) := Or.inr ⟨hr, fun q => hg q.1⟩
/-- what the law goes by: TEXTS, DREAMS, how many, SLEEP -/
abbrev zy_W : Type := (Nat → zz_M3) × (Nat → Nat → Int) × Int × Int
def zy_F (K : zy_W) (h : Int) (d : Nat) : Prop := zy_Fc (K.2.1 d 0) (K.2.1 d 1) (K.2.1 d 4) (K.2.1 d 5) K.2.2.2 h
theorem zy_exwt : ∃ f : zy_W → Int → Nat → Int, ∀ K h d, f K h d = zz_gv K.1 1 (Int32.ofInt (K.2.1 d 0)) (Int32.ofInt (K.2.1 d 1)) (Int32.ofInt (h / 24 - K.2.1 d 4)) := ⟨_, fun _ _ _ => rfl⟩
noncomputable def zy_wt : zy_W → Int → Nat → Int := Classical.choose zy_exwt
theorem zy_wt_eq (K : zy_W) (h : Int) (d : Nat) : zy_wt K h d = zz_gv K.1 1 (Int32.ofInt (K.2.1 d 0)) (Int32.ofInt (K.2.1 d 1)) (Int32.ofInt (h / 24 - K.2.1 d 4)) := Classical.choose_spec zy_exwt K h d
theorem zz_cl_rng {v lo hi : Int} (h : lo ≤ hi) : lo ≤ zz_cl v lo hi ∧ zz_cl v lo hi ≤ hi := by
  unfold zz_cl
  by_cases a : v < lo
  · rw [if_pos a]; omega
  · rw [if_neg a]
    by_cases b : hi < v
    · rw [if_pos b]; omega
    · rw [if_neg b]; omega
theorem zz_gv_1 (M : Nat → zz_M3) (x1 x2 x3 : Int32) : -99 ≤ zz_gv M 1 x1 x2 x3 ∧ zz_gv M 1 x1 x2 x3 ≤ 99 := by
  unfold zz_gv
  rw [if_neg (by decide)]
  exact zz_cl_rng (by decide)
theorem zz_gv_0 (M : Nat → zz_M3) (x1 x2 x3 : Int32) : 0 ≤ zz_gv M 0 x1 x2 x3 ∧ zz_gv M 0 x1 x2 x3 ≤ 99 := by
  unfold zz_gv
  rw [if_pos rfl]
  exact zz_cl_rng (by decide)
theorem zy_wt_rng (K : zy_W) (h : Int) (d : Nat) : -99 ≤ zy_wt K h d ∧ zy_wt K h d ≤ 99 := by
  rw [zy_wt_eq]
  exact zz_gv_1 _ _ _ _
/-! ===== which side holds ===== -/
noncomputable def zy_gx (b : Int) (P : Nat → Prop) (w : Nat → Int) : Nat → Int
  | 0 => b
  | n + 1 => @ite _ (P n) (Classical.propDecidable _) (if zy_gx b P w n < w n then w n else zy_gx b P w n) (zy_gx b P w n)
theorem zy_gx_1 {b : Int} {P : Nat → Prop} {w : Nat → Int} {n : Nat} (h : P n) : zy_gx b P w (n + 1) = if zy_gx b P w n < w n then w n else zy_gx b P w n := by
  show @ite _ (P n) (Classical.propDecidable _) (if zy_gx b P w n < w n then w n else zy_gx b P w n) (zy_gx b P w n) = _
  rw [if_pos h]
theorem zy_gx_0 {b : Int} {P : Nat → Prop} {w : Nat → Int} {n : Nat} (h : ¬ P n) : zy_gx b P w (n + 1) = zy_gx b P w n := by
  show @ite _ (P n) (Classical.propDecidable _) (if zy_gx b P w n < w n then w n else zy_gx b P w n) (zy_gx b P w n) = _
  rw [if_neg h]
theorem zy_gx_m {b : Int} {P : Nat → Prop} {w : Nat → Int} {n k : Nat} {v g : Int} (h : P n) (hg : g = zy_gx b P w n) (hv : g ≤ v ∧ w n ≤ v ∧ (v = g ∨ v = w n)) (hk : k = n + 1) : v = zy_gx b P w k := by
  rw [hk, zy_gx_1 h, ← hg]
  by_cases q : g < w n
  · rw [if_pos q]; omega
  · rw [if_neg q]; omega
/-- two bottoms -/
theorem zy_gx_2 {b c : Int} {P : Nat → Prop} {w : Nat → Int} (hb : ∀ j, b < w j) (hc : ∀ j, c < w j) : ∀ n : Nat, (zy_gx b P w n = b ∧ zy_gx c P w n = c) ∨ (zy_gx b P w n = zy_gx c P w n ∧ b < zy_gx b P w n ∧ c < zy_gx c P w n)
  | 0 => Or.inl ⟨rfl, rfl⟩
  | n + 1 => by
    have ih := zy_gx_2 (P := P) hb hc n
    have h1 := hb n
    have h2 := hc n
    by_cases p : P n
    · rw [zy_gx_1 p, zy_gx_1 p]
      rcases ih with ⟨i1, i2⟩ | ⟨i1, i2, i3⟩
      · rw [i1, i2, if_pos h1, if_pos h2]
        exact Or.inr ⟨rfl, h1, h2⟩
      · rw [← i1] at i3 ⊢
        by_cases q : zy_gx b P w n < w n
        · rw [if_pos q]
          exact Or.inr ⟨rfl, h1, h2⟩
        · rw [if_neg q]
          exact Or.inr ⟨rfl, i2, i3⟩
    · rw [zy_gx_0 p, zy_gx_0 p]
      exact ih
def zy_Q (K : zy_W) (h mt sd : Int) (d : Nat) : Prop := K.2.1 d 2 = mt ∧ K.2.1 d 3 = sd ∧ zy_F K h d
theorem zy_exg : ∃ f : zy_W → Int → Int → Int → Int, ∀ K h mt sd, f K h mt sd = zy_gx (-1000000000) (zy_Q K h mt sd) (zy_wt K h) K.2.2.1.toNat := ⟨_, fun _ _ _ _ => rfl⟩
/-- the greatest WEIGHT of a side; LOW: there are none -/
noncomputable def zy_g : zy_W → Int → Int → Int → Int := Classical.choose zy_exg
theorem zy_g_eq (K : zy_W) (h mt sd : Int) : zy_g K h mt sd = zy_gx (-1000000000) (zy_Q K h mt sd) (zy_wt K h) K.2.2.1.toNat := Classical.choose_spec zy_exg K h mt sd
theorem zy_exu : ∃ f : zy_W → Int → Int → Int, ∀ K h mt, f K h mt = if zy_g K h mt 1 = zy_g K h mt 0 then -1 else if zy_g K h mt 0 < zy_g K h mt 1 then 1 else 0 := ⟨_, fun _ _ _ => rfl⟩
/-- what a MATTER is UNDER -/
noncomputable def zy_u : zy_W → Int → Int → Int := Classical.choose zy_exu
theorem zy_u_eq (K : zy_W) (h mt : Int) : zy_u K h mt = if zy_g K h mt 1 = zy_g K h mt 0 then -1 else if zy_g K h mt 0 < zy_g K h mt 1 then 1 else 0 := Classical.choose_spec zy_exu K h mt
theorem zy_u_c (K : zy_W) (h mt : Int) : (zy_u K h mt = -1 ∧ zy_g K h mt 1 = zy_g K h mt 0) ∨ (zy_u K h mt = 1 ∧ zy_g K h mt 0 < zy_g K h mt 1) ∨ (zy_u K h mt = 0 ∧ zy_g K h mt 1 < zy_g K h mt 0) := by
  rw [zy_u_eq]
  by_cases a : zy_g K h mt 1 = zy_g K h mt 0
  · rw [if_pos a]; exact Or.inl ⟨rfl, a⟩
  · rw [if_neg a]
    by_cases b : zy_g K h mt 0 < zy_g K h mt 1
    · rw [if_pos b]; exact Or.inr (Or.inl ⟨rfl, b⟩)
    · rw [if_neg b]; exact Or.inr (Or.inr ⟨rfl, by omega⟩)
theorem zy_u_rng (K : zy_W) (h mt : Int) : -1 ≤ zy_u K h mt ∧ zy_u K h mt ≤ 1 := by
  have := zy_u_c K h mt
  omega
/-- whether a MATTER is one of DISPUTES -/
def zy_dp (K : zy_W) (h mt : Int) : Prop := -1000000000 < zy_g K h mt 0 ∧ -1000000000 < zy_g K h mt 1
/-- the same by the class's own bottom -/
theorem zy_cls (K : zy_W) (h mt : Int) {b a : Int} (hb : b = zy_gx (-1000) (zy_Q K h mt 1) (zy_wt K h) K.2.2.1.toNat) (ha : a = zy_gx (-1000) (zy_Q K h mt 0) (zy_wt K h) K.2.2.1.toNat) : (a < b ↔ zy_u K h mt = 1) ∧ (b < a ↔ zy_u K h mt = 0) ∧ ((b ≠ -1000 ∧ a ≠ -1000) ↔ zy_dp K h mt) := by
  have e1 := zy_gx_2 (b := -1000) (c := -1000000000) (P := zy_Q K h mt 1) (w := zy_wt K h) (fun j => by have := zy_wt_rng K h j; omega) (fun j => by have := zy_wt_rng K h j; omega) K.2.2.1.toNat
  have e0 := zy_gx_2 (b := -1000) (c := -1000000000) (P := zy_Q K h mt 0) (w := zy_wt K h) (fun j => by have := zy_wt_rng K h j; omega) (fun j => by have := zy_wt_rng K h j; omega) K.2.2.1.toNat
  rw [← hb, ← zy_g_eq] at e1
  rw [← ha, ← zy_g_eq] at e0
  have hu := zy_u_c K h mt
  unfold zy_dp
  generalize zy_u K h mt = u at *
  generalize zy_g K h mt 1 = g1 at *
  generalize zy_g K h mt 0 = g0 at *
  clear hb ha
  refine ⟨⟨fun q => ?_, fun q => ?_⟩, ⟨fun q => ?_, fun q => ?_⟩, ⟨fun q => ?_, fun q => ?_⟩⟩ <;> omega
/-- what the class's SIGHT shows of an HOUR -/
def zy_SG (σ : zz_S) (h0 : Nat) (K : zy_W) (h : Int) : Prop := σ h0 0 = zy_st (zy_F K h) K.2.2.1.toNat ∧ σ h0 1 = zy_st (fun m => zy_u K h (m : Int) = 1) 10 ∧ σ h0 2 = zy_st (fun m => zy_u K h (m : Int) = 0) 10 ∧ σ h0 3 = zy_st (fun m => zy_dp K h (m : Int)) 10 ∧ (σ h0 4).toInt = h % 24 ∧ ∀ d : Nat, (d : Int) < K.2.2.1 → zy_F K h d → (σ (h0 + 1) d).toInt = zy_wt K h d
theorem zy_SG.keep {σ σ1 : zz_S} {h0 : Nat} {K : zy_W} {h : Int} (g : zy_SG σ h0 K h) (e0 : ∀ k, σ1 h0 k = σ h0 k) (e1 : ∀ k, σ1 (h0 + 1) k = σ (h0 + 1) k) : zy_SG σ1 h0 K h := by
  obtain ⟨a0, a1, a2, a3, a4, a5⟩ := g
  exact ⟨by rw [e0]; exact a0, by rw [e0]; exact a1, by rw [e0]; exact a2, by rw [e0]; exact a3, by rw [e0]; exact a4, fun d hd hf => by rw [e1]; exact a5 d hd hf⟩
theorem zy_SG.yes {σ : zz_S} {h0 : Nat} {K : zy_W} {h : Int} {mt b s r : Int32} (g : zy_SG σ h0 K h) (hm : 0 ≤ mt.toInt ∧ mt.toInt ≤ 9) (e1 : b = (1 : Int32) <<< (mt &&& 31)) (e2 : s = σ h0 1 &&& b) (c : s.toInt ≠ 0) (hr : r.toInt = 1) : r.toInt = zy_u K h mt.toInt := by
  have q := (zy_st_has _ (m := mt.toInt.toNat) (by omega) (by omega) e1 (by rw [e2, g.2.1])).mp c
  rw [show ((mt.toInt.toNat : Nat) : Int) = mt.toInt from by omega] at q
  rw [hr, q]
theorem zy_SG.noo {σ : zz_S} {h0 : Nat} {K : zy_W} {h : Int} {mt b s2 r : Int32} (g : zy_SG σ h0 K h) (hm : 0 ≤ mt.toInt ∧ mt.toInt ≤ 9) (e1 : b = (1 : Int32) <<< (mt &&& 31)) (e3 : s2 = σ h0 2 &&& b) (c2 : s2.toInt ≠ 0) (hr : r.toInt = 0) : r.toInt = zy_u K h mt.toInt := by
  have q := (zy_st_has _ (m := mt.toInt.toNat) (by omega) (by omega) e1 (by rw [e3, g.2.2.1])).mp c2
  rw [show ((mt.toInt.toNat : Nat) : Int) = mt.toInt from by omega] at q
  rw [hr, q]
theorem zy_SG.free {σ : zz_S} {h0 : Nat} {K : zy_W} {h : Int} {mt b s s2 r : Int32} (g : zy_SG σ h0 K h) (hm : 0 ≤ mt.toInt ∧ mt.toInt ≤ 9) (e1 : b = (1 : Int32) <<< (mt &&& 31)) (e2 : s = σ h0 1 &&& b) (e3 : s2 = σ h0 2 &&& b) (c : s.toInt = 0) (c2 : s2.toInt = 0) (hr : r.toInt = -1) : r.toInt = zy_u K h mt.toInt := by
  have q : ¬ zy_u K h ((mt.toInt.toNat : Nat) : Int) = 1 := fun z => (zy_st_has (fun m => zy_u K h (m : Int) = 1) (m := mt.toInt.toNat) (by omega) (by omega) e1 (by rw [e2, g.2.1])).mpr z c
  have q2 : ¬ zy_u K h ((mt.toInt.toNat : Nat) : Int) = 0 := fun z => (zy_st_has (fun m => zy_u K h (m : Int) = 0) (m := mt.toInt.toNat) (by omega) (by omega) e1 (by rw [e3, g.2.2.1])).mpr z c2
  rw [show ((mt.toInt.toNat : Nat) : Int) = mt.toInt from by omega] at q q2
  have := zy_u_c K h mt.toInt
  omega
/-- while the class looks at the DREAMS one by one -/
def zy_lk (σ : zz_S) (h0 : Nat) (K : zy_W) (h : Int) (i : Nat) : Prop := σ h0 0 = zy_st (zy_F K h) i ∧ (∀ m : Nat, m < 10 → (σ (h0 + 2) m).toInt = zy_gx (-1000) (zy_Q K h (m : Int) 1) (zy_wt K h) i ∧ (σ (h0 + 3) m).toInt = zy_gx (-1000) (zy_Q K h (m : Int) 0) (zy_wt K h) i) ∧ (∀ d : Nat, d < i → zy_F K h d → (σ (h0 + 1) d).toInt = zy_wt K h d) ∧ (σ h0 4).toInt = h % 24
theorem zy_lk.zero {σ : zz_S} {h0 : Nat} {K : zy_W} {h : Int} {i : Nat} (hi : i = 0) (e0 : σ h0 0 = 0) (ea : ∀ m : Nat, m < 10 → (σ (h0 + 2) m).toInt = -1000 ∧ (σ (h0 + 3) m).toInt = -1000) (e4 : (σ h0 4).toInt = h % 24) : zy_lk σ h0 K h i := by
  subst hi
  exact ⟨e0, ea, fun d hd => absurd hd (Nat.not_lt_zero d), e4⟩
theorem zy_lk.skip {σ : zz_S} {h0 : Nat} {K : zy_W} {h : Int} {i n : Nat} (g : zy_lk σ h0 K h i) (hf : ¬ zy_F K h i) (hn : n = i + 1) : zy_lk σ h0 K h n := by
  subst hn
  obtain ⟨a, b, c, d⟩ := g
  refine ⟨by rw [zy_st_0 hf]; exact a, fun m hm => ?_, fun e he hfe => ?_, d⟩
  · rw [zy_gx_0 (P := zy_Q K h (m : Int) 1) (fun q => hf q.2.2), zy_gx_0 (P := zy_Q K h (m : Int) 0) (fun q => hf q.2.2)]
    exact b m hm
  · by_cases q : e = i
    · subst q; exact absurd hfe hf
    · exact c e (by omega) hfe
/-- one more DREAM that is IN FORCE: sl is the array of its side, so that of the other one -/
theorem zy_lk.add {σ σ1 σ2 σ3 σ4 : zz_S} {h0 : Nat} {K : zy_W} {h : Int} {i n j1 j4 j5 j6 : Nat} {b v1 ii r v4 : Int32} {sd : Int} {f g : Nat} (hl : zy_lk σ h0 K h i) (hf : zy_F K h i) (w1 : σ1 = zz_u σ h0 0 v1) (hb : b = (1 : Int32) <<< (ii &&& 31)) (hv1 : v1 = σ h0 0 ||| b) (hii : ii.toInt = (i : Int)) (c2 : ∀ a k : Nat, h0 ≤ a → a < h0 + 4 → σ2 a k = σ1 a k) (w3 : σ3 = zz_u σ2 (h0 + 1) j1 r) (h1 : j1 = i) (hr : r.toInt = zy_wt K h i) (w4 : σ4 = zz_u σ3 (h0 + f) j4 v4) (h4 : (j4 : Int) = K.2.1 i 2) (h45 : j5 = j4) (h6 : j6 = i) (hm : j4 < 10) (hs : K.2.1 i 3 = sd) (hsd : (sd = 1 ∧ f = 2 ∧ g = 3) ∨ (sd = 0 ∧ f = 3 ∧ g = 2)) (hv : (σ3 (h0 + f) j5).toInt ≤ v4.toInt ∧ (σ3 (h0 + 1) j6).toInt ≤ v4.toInt ∧ (v4.toInt = (σ3 (h0 + f) j5).toInt ∨ v4.toInt = (σ3 (h0 + 1) j6).toInt)) (hn : n = i + 1) : zy_lk σ4 h0 K h n := by
  subst hn; subst h1; subst h45; subst h6
  obtain ⟨a, c, d, e⟩ := hl
  have hff : f = 2 ∨ f = 3 := by omega
  have hQ : zy_Q K h (j5 : Int) sd j6 := ⟨h4.symm, hs, hf⟩
  -- cells of the SIGHT behind all writes
  have k0 : ∀ k, σ4 h0 k = σ1 h0 k := fun k => by rw [w4, zz_un (by omega), w3, zz_un (by omega)]; exact c2 _ _ (by omega) (by omega)
  have kw : ∀ k, k ≠ j6 → σ4 (h0 + 1) k = σ (h0 + 1) k := fun k hk => by rw [w4, zz_un (by omega), w3, zz_un (by omega), c2 _ _ (by omega) (by omega), w1, zz_un (by omega)]
  have kr : σ4 (h0 + 1) j6 = r := by rw [w4, zz_un (by omega), w3, zz_us]
  have kf : ∀ k, k ≠ j5 → σ4 (h0 + f) k = σ (h0 + f) k := fun k hk => by rw [w4, zz_un (by omega), w3, zz_un (by omega), c2 _ _ (by omega) (by omega), w1, zz_un (by omega)]
  have kv : σ4 (h0 + f) j5 = v4 := by rw [w4, zz_us]
  have kg : ∀ k, σ4 (h0 + g) k = σ (h0 + g) k := fun k => by rw [w4, zz_un (by omega), w3, zz_un (by omega), c2 _ _ (by omega) (by omega), w1, zz_un (by omega)]
  have x5 : σ3 (h0 + f) j5 = σ (h0 + f) j5 := by rw [w3, zz_un (by omega), c2 _ _ (by omega) (by omega), w1, zz_un (by omega)]
  have x6 : σ3 (h0 + 1) j6 = r := by rw [w3, zz_us]
  rw [x5, x6, hr] at hv
  have main : ∀ m : Nat, m < 10 → (σ4 (h0 + f) m).toInt = zy_gx (-1000) (zy_Q K h (m : Int) sd) (zy_wt K h) (j6 + 1) := fun m hmm => by
    have gm : (σ (h0 + f) m).toInt = zy_gx (-1000) (zy_Q K h (m : Int) sd) (zy_wt K h) j6 := by
      rcases hsd with ⟨q1, q2, -⟩ | ⟨q1, q2, -⟩
      · rw [q1, q2]; exact (c m hmm).1
      · rw [q1, q2]; exact (c m hmm).2
    by_cases q : m = j5
    · subst q
      rw [kv]
      exact zy_gx_m hQ gm hv rfl
    · rw [kf m q, zy_gx_0 (P := zy_Q K h (m : Int) sd) (fun z => q (by have := z.1; omega))]
      exact gm
  have other : ∀ m : Nat, m < 10 → ∀ so : Int, so ≠ sd → (σ4 (h0 + g) m).toInt = (σ (h0 + g) m).toInt ∧ zy_gx (-1000) (zy_Q K h (m : Int) so) (zy_wt K h) (j6 + 1) = zy_gx (-1000) (zy_Q K h (m : Int) so) (zy_wt K h) j6 := fun m _ so hso =>
    ⟨by rw [kg], zy_gx_0 (fun z => hso (z.2.1.symm.trans hs))⟩
  refine ⟨?_, fun m hmm => ?_, fun k hk hfk => ?_, ?_⟩
  · rw [k0, w1, zz_us]
    exact zy_st_in hf a hii hb hv1 rfl
  · have m1 := main m hmm
    rcases hsd with ⟨q1, q2, q3⟩ | ⟨q1, q2, q3⟩
    · have o := other m hmm 0 (by omega)
      subst q1; subst q2; subst q3
      exact ⟨m1, by rw [o.1, o.2]; exact (c m hmm).2⟩
    · have o := other m hmm 1 (by omega)
      subst q1; subst q2; subst q3
      exact ⟨by rw [o.1, o.2]; exact (c m hmm).1, m1⟩
  · by_cases q : k = j6
    · subst q
      rw [kr]
      exact hr
    · rw [kw k q]
      exact d k (by omega) hfk
  · rw [k0, w1, zz_un (by omega)]
    exact e
theorem zy_SG.mk {σ σ1 : zz_S} {h0 : Nat} {K : zy_W} {h : Int} {i : Nat} (g : zy_lk σ h0 K h i) (hi : (i : Int) = K.2.2.1) (c : ∀ a k : Nat, ¬ (a = h0 ∧ (k = 1 ∨ k = 2 ∨ k = 3)) → σ1 a k = σ a k) (p : σ1 h0 1 = zy_st (fun m => (σ (h0 + 3) m).toInt < (σ (h0 + 2) m).toInt) 10 ∧ σ1 h0 2 = zy_st (fun m => (σ (h0 + 2) m).toInt < (σ (h0 + 3) m).toInt) 10 ∧ σ1 h0 3 = zy_st (fun m => (σ (h0 + 2) m).toInt ≠ -1000 ∧ (σ (h0 + 3) m).toInt ≠ -1000) 10) : zy_SG σ1 h0 K h := by
  obtain ⟨p1, p2, p3⟩ := p
  obtain ⟨a, b, d, e⟩ := g
  have hn : i = K.2.2.1.toNat := by omega
  rw [hn] at a b
  have cl := fun (m : Nat) (hm : m < 10) => zy_cls K h (m : Int) (b m hm).1 (b m hm).2
  refine ⟨by rw [c _ _ (by omega)]; exact a, ?_, ?_, ?_, by rw [c _ _ (by omega)]; exact e, fun k hk hf => by rw [c _ _ (by omega)]; exact d k (by omega) hf⟩
  · rw [p1]; exact zy_st_congr 10 (fun m hm => (cl m hm).1)
  · rw [p2]; exact zy_st_congr 10 (fun m hm => (cl m hm).2.1)
  · rw [p3]; exact zy_st_congr 10 (fun m hm => (cl m hm).2.2)
/-! ===== what the law goes by, on both sides ===== -/
def zy_XW (σ : zz_S) (r : Nat) (K : zy_W) : Prop := zz_DX σ r = K.2.1 ∧ (σ r 4).toInt = K.2.2.1 ∧ (σ r 1).toInt = K.2.2.2 ∧ zz_tts (zz_XT σ r) K.1 ∧ zz_wM K.1 ∧ zz_ID K.2.1 ∧ (0 ≤ K.2.2.1 ∧ K.2.2.1 ≤ 9) ∧ (0 ≤ K.2.2.2 ∧ K.2.2.2 ≤ 24)
theorem zy_XW.keep {σ σ1 : zz_S} {r : Nat} {K : zy_W} (h : zy_XW σ r K) (e : ∀ a k : Nat, ((a = r ∧ (k = 1 ∨ k = 4)) ∨ (r + 6 ≤ a ∧ a < r + 15) ∨ (r + 21 ≤ a ∧ a < r + 27 ∧ a ≠ r + 23 ∧ a ≠ r + 26)) → σ1 a k = σ a k) : zy_XW σ1 r K := by
  obtain ⟨h1, h2, h3, h4, h5⟩ := h
  refine ⟨?_, by rw [e r 4 (by omega)]; exact h2, by rw [e r 1 (by omega)]; exact h3, ?_, h5⟩
  · rw [zz_DX.eq (fun j hj f _ => e _ _ (by omega))]
    exact h1
  · rw [zz_XT.eq (fun u hu => e _ _ (by omega)) (fun u hu => e _ _ (by omega)) (fun u hu k _ => e _ _ (by omega))]
    exact h4
theorem zy_XW.now {σ σ1 : zz_S} {r : Nat} {K : zy_W} (h : zy_XW σ r K) (hX : zz_XT σ1 r = zz_XT σ r) (hid : zz_ID (zz_DX σ1 r)) (hc : 0 ≤ (σ1 r 4).toInt ∧ (σ1 r 4).toInt ≤ 9) (hs : 0 ≤ (σ1 r 1).toInt ∧ (σ1 r 1).toInt ≤ 24) : zy_XW σ1 r (K.1, zz_DX σ1 r, (σ1 r 4).toInt, (σ1 r 1).toInt) :=
  ⟨rfl, rfl, rfl, by rw [hX]; exact h.2.2.2.1, h.2.2.2.2.1, hid, hc, hs⟩
theorem zy_XW.at {σ : zz_S} {r j f : Nat} {K : zy_W} (h : zy_XW σ r K) (hj : j < 9) (hf : f < 6) : (σ (r + 6 + 1 * j) f).toInt = K.2.1 j f := by
  rw [← h.1, zz_DX.at hj hf]
theorem zy_XW.cell {σ : zz_S} {r j : Nat} {K : zy_W} (h : zy_XW σ r K) (hj : j < 9) : (0 ≤ (σ (r + 6 + 1 * j) 0).toInt ∧ (σ (r + 6 + 1 * j) 0).toInt ≤ 6) ∧ (0 ≤ (σ (r + 6 + 1 * j) 1).toInt ∧ (σ (r + 6 + 1 * j) 1).toInt ≤ 9) ∧ (0 ≤ (σ (r + 6 + 1 * j) 2).toInt ∧ (σ (r + 6 + 1 * j) 2).toInt ≤ 9) ∧ (0 ≤ (σ (r + 6 + 1 * j) 3).toInt ∧ (σ (r + 6 + 1 * j) 3).toInt ≤ 1) ∧ (0 ≤ (σ (r + 6 + 1 * j) 4).toInt ∧ (σ (r + 6 + 1 * j) 4).toInt ≤ 99) ∧ (0 ≤ (σ (r + 6 + 1 * j) 5).toInt ∧ (σ (r + 6 + 1 * j) 5).toInt ≤ 1) := by
  have g : zz_ID (zz_DX σ r) := by rw [h.1]; exact h.2.2.2.2.2.1
  exact g.cell hj
theorem zy_XW.F {σ : zz_S} {r j : Nat} {K : zy_W} {v sl hh : Int} (h : zy_XW σ r K) (hj : j < 9) (hs : sl = (σ r 1).toInt) (hb : zy_bt v (zy_Fc (σ (r + 6 + 1 * j) 0).toInt (σ (r + 6 + 1 * j) 1).toInt (σ (r + 6 + 1 * j) 4).toInt (σ (r + 6 + 1 * j) 5).toInt sl hh)) : zy_bt v (zy_F K hh j) := by
  unfold zy_F
  rw [← h.at hj (show 0 < 6 by decide), ← h.at hj (show 1 < 6 by decide), ← h.at hj (show 4 < 6 by decide), ← h.at hj (show 5 < 6 by decide), ← h.2.2.1, ← hs]
  exact hb
theorem zy_XW.wt {σ : zz_S} {r j : Nat} {K : zy_W} {v hh : Int} (h : zy_XW σ r K) (hj : j < 9) (hv : v = zz_gv K.1 1 (σ (r + 6 + 1 * j) 0) (σ (r + 6 + 1 * j) 1) (Int32.ofInt (hh / 24 - (σ (r + 6 + 1 * j) 4).toInt))) : v = zy_wt K hh j := by
  rw [zy_wt_eq, ← h.at hj (show 0 < 6 by decide), ← h.at hj (show 1 < 6 by decide), ← h.at hj (show 4 < 6 by decide), Int32.ofInt_toInt, Int32.ofInt_toInt]
  exact hv
def zy_YW (σ : zz_S) (a : Nat) (K : zy_W) : Prop := zz_DM σ a = K.2.1 ∧ (σ a 2).toInt = K.2.2.1 ∧ (σ a 4).toInt = K.2.2.2 ∧ zz_MT σ a = K.1 ∧ zz_wM K.1 ∧ zz_ID K.2.1 ∧ (0 ≤ K.2.2.1 ∧ K.2.2.1 ≤ 9) ∧ (0 ≤ K.2.2.2 ∧ K.2.2.2 ≤ 24)
theorem zy_YW.keep {σ σ1 : zz_S} {a : Nat} {K : zy_W} (h : zy_YW σ a K) (e : ∀ k : Nat, k = 2 ∨ k = 4 ∨ (7 ≤ k ∧ k < 61) ∨ 157 ≤ k → σ1 a k = σ a k) : zy_YW σ1 a K := by
  obtain ⟨h1, h2, h3, h4, h5⟩ := h
  refine ⟨?_, by rw [e 2 (by omega)]; exact h2, by rw [e 4 (by omega)]; exact h3, ?_, h5⟩
  · rw [zz_DM.eq (fun k q1 q2 => e k (by omega))]
    exact h1
  · rw [zz_MT.hi (fun k q1 => e k (by omega))]
    exact h4
theorem zy_YW.now {σ σ1 : zz_S} {a : Nat} {K : zy_W} (h : zy_YW σ a K) (hX : zz_MT σ1 a = zz_MT σ a) (hid : zz_ID (zz_DM σ1 a)) (hc : 0 ≤ (σ1 a 2).toInt ∧ (σ1 a 2).toInt ≤ 9) (hs : 0 ≤ (σ1 a 4).toInt ∧ (σ1 a 4).toInt ≤ 24) : zy_YW σ1 a (K.1, zz_DM σ1 a, (σ1 a 2).toInt, (σ1 a 4).toInt) :=
  ⟨rfl, rfl, rfl, by rw [hX]; exact h.2.2.2.1, h.2.2.2.2.1, hid, hc, hs⟩
theorem zy_YW.at {σ : zz_S} {a j f : Nat} {K : zy_W} (h : zy_YW σ a K) (hj : j < 9) (hf : f < 6) : (σ a (7 + 6 * j + f)).toInt = K.2.1 j f := by
  rw [← h.1, zz_DM.at hj hf]
theorem zy_YW.txt {σ : zz_S} {a u : Nat} {K : zy_W} (h : zy_YW σ a K) (hu : u < 2) : K.1 u = ((σ a (157 + 121 * u)).toInt, zz_MC σ a (158 + 121 * u) (σ a (157 + 121 * u)).toInt, zz_MC σ a (218 + 121 * u) (σ a (157 + 121 * u)).toInt) := by
  rw [← h.2.2.2.1]
  exact if_pos hu
theorem zy_YW.len {σ : zz_S} {a u j : Nat} {K : zy_W} (h : zy_YW σ a K) (hu : u < 2) (hj : j = 157 + 121 * u) : (σ a j).toInt = (K.1 u).1 := by
  rw [h.txt hu, hj]
theorem zy_YW.act {σ : zz_S} {a u k : Nat} {K : zy_W} (h : zy_YW σ a K) (hu : u < 2) (hk : (k : Int) < (K.1 u).1) : (σ a (158 + 121 * u + k)).toInt = (K.1 u).2.1 k := by
  have e := h.txt hu
  have e1 : (K.1 u).1 = (σ a (157 + 121 * u)).toInt := by rw [e]
  have e2 : (K.1 u).2.1 k = zz_MC σ a (158 + 121 * u) (σ a (157 + 121 * u)).toInt k := by rw [e]
  rw [e2]
  exact (if_pos (show (k : Int) < (σ a (157 + 121 * u)).toInt by omega)).symm
theorem zy_YW.wth {σ : zz_S} {a u k : Nat} {K : zy_W} (h : zy_YW σ a K) (hu : u < 2) (hk : (k : Int) < (K.1 u).1) : (σ a (218 + 121 * u + k)).toInt = (K.1 u).2.2 k := by
  have e := h.txt hu
  have e1 : (K.1 u).1 = (σ a (157 + 121 * u)).toInt := by rw [e]
  have e2 : (K.1 u).2.2 k = zz_MC σ a (218 + 121 * u) (σ a (157 + 121 * u)).toInt k := by rw [e]
  rw [e2]
  exact (if_pos (show (k : Int) < (σ a (157 + 121 * u)).toInt by omega)).symm
/-- none more in a set, as the reference puts nothing in -/
theorem zy_or0 {s z t : Int32} (hz : z = 0) (ht : t = s ||| z) : t = s := by
  subst hz
  rw [ht]
  exact Int32.or_zero
theorem zy_st_no0 {P : Nat → Prop} {n k : Nat} {s t : Int32} (h : ¬ P n) (hs : s = zy_st P n) (ht : t = s ||| 0) (hk : k = n + 1) : t = zy_st P k := by
  rw [zy_or0 rfl ht]
  exact zy_st_no h hs hk
/-! ===== guilt and fine ===== -/
theorem zy_exgl : ∃ f : zy_W → Int → Int32 → Int, ∀ K h w, f K h w = zy_pc (zy_st (fun m => zy_u K h (m : Int) = 0) 10 &&& w) + zy_pc (zy_st (fun m => zy_u K h (m : Int) = 1) 10 &&& (w ^^^ (-1))) := ⟨_, fun _ _ _ => rfl⟩
noncomputable def zy_gl : zy_W → Int → Int32 → Int := Classical.choose zy_exgl
theorem zy_gl_eq (K : zy_W) (h : Int) (w : Int32) : zy_gl K h w = zy_pc (zy_st (fun m => zy_u K h (m : Int) = 0) 10 &&& w) + zy_pc (zy_st (fun m => zy_u K h (m : Int) = 1) 10 &&& (w ^^^ (-1))) := Classical.choose_spec zy_exgl K h w
theorem zy_gl_rng (K : zy_W) (h : Int) (w : Int32) : 0 ≤ zy_gl K h w ∧ zy_gl K h w ≤ 20 := by
  rw [zy_gl_eq]
  have a := zy_pc_rng (zy_and_rng (w := w) (zy_st_rng (fun m => zy_u K h (m : Int) = 0) (Nat.le_refl 10)) rfl)
  have b := zy_pc_rng (zy_and_rng (w := w ^^^ (-1)) (zy_st_rng (fun m => zy_u K h (m : Int) = 1) (Nat.le_refl 10)) rfl)
  omega
theorem zy_exfn : ∃ f : zy_W → Int → Int32 → Int32 → Int, ∀ K h w p, f K h w p = zz_gv K.1 0 (Int32.ofInt (zy_gl K h w)) (Int32.ofInt (h % 24)) p := ⟨_, fun _ _ _ _ => rfl⟩
noncomputable def zy_fn : zy_W → Int → Int32 → Int32 → Int := Classical.choose zy_exfn
theorem zy_fn_eq (K : zy_W) (h : Int) (w p : Int32) : zy_fn K h w p = zz_gv K.1 0 (Int32.ofInt (zy_gl K h w)) (Int32.ofInt (h % 24)) p := Classical.choose_spec zy_exfn K h w p
theorem zy_fn_rng (K : zy_W) (h : Int) (w p : Int32) : 0 ≤ zy_fn K h w p ∧ zy_fn K h w p ≤ 99 := by
  rw [zy_fn_eq]
  exact zz_gv_0 _ _ _ _
/-- guilt, by the class's SIGHT -/
theorem zy_SG.gl {σ : zz_S} {h0 : Nat} {K : zy_W} {h r : Int} {w n1 n3 n4 : Int32} (g : zy_SG σ h0 K h) (e1 : n1 = σ h0 2 &&& w) (e3 : n3 = w ^^^ (-1)) (e4 : n4 = σ h0 1 &&& n3) (hr : r = zy_pc n1 + zy_pc n4) : r = zy_gl K h w := by
  rw [zy_gl_eq, hr, e1, e4, e3, g.2.1, g.2.2.1]
theorem zy_SG.r1 {σ : zz_S} {h0 : Nat} {K : zy_W} {h : Int} (g : zy_SG σ h0 K h) : 0 ≤ (σ h0 1).toInt ∧ (σ h0 1).toInt < 1024 := by rw [g.2.1]; exact zy_st_rng _ (Nat.le_refl 10)
theorem zy_SG.r2 {σ : zz_S} {h0 : Nat} {K : zy_W} {h : Int} (g : zy_SG σ h0 K h) : 0 ≤ (σ h0 2).toInt ∧ (σ h0 2).toInt < 1024 := by rw [g.2.2.1]; exact zy_st_rng _ (Nat.le_refl 10)
theorem zy_gl_mk {K : zy_W} {h : Int} {w a b n1 n3 n4 r1 r2 : Int32} (p1 : r1.toInt = zy_pc n1) (p2 : r2.toInt = zy_pc n4) (e1 : n1 = a &&& w) (e4 : n4 = b &&& n3) (e3 : n3 = w ^^^ (-1)) (ha : a = zy_st (fun m => zy_u K h (m : Int) = 0) 10) (hb : b = zy_st (fun m => zy_u K h (m : Int) = 1) 10) : zy_gl K h w = r1.toInt + r2.toInt := by
  rw [zy_gl_eq, p1, p2, e1, e4, e3, ha, hb]
/-! ===== what the calls answer ===== -/
theorem zy_exdn : ∃ f : zy_W → Int → Int, ∀ K h, f K h = zy_cn (fun m => zy_dp K h (m : Int)) 10 := ⟨_, fun _ _ => rfl⟩
/-- how many DISPUTES there are -/
noncomputable def zy_nd : zy_W → Int → Int := Classical.choose zy_exdn
theorem zy_nd_eq (K : zy_W) (h : Int) : zy_nd K h = zy_cn (fun m => zy_dp K h (m : Int)) 10 := Classical.choose_spec zy_exdn K h
theorem zy_nd_rng (K : zy_W) (h : Int) : 0 ≤ zy_nd K h ∧ zy_nd K h ≤ 10 := by
  rw [zy_nd_eq]
  exact zy_cn_rng _ 10
theorem zy_SG.nd {σ : zz_S} {h0 : Nat} {K : zy_W} {h : Int} (g : zy_SG σ h0 K h) : zy_pc (σ h0 3) = zy_nd K h ∧ ((σ h0 3).toInt = 0 ↔ zy_nd K h = 0) := by
  rw [zy_nd_eq, g.2.2.2.1]
  exact zy_pc_cn _
theorem zy_SG.r3 {σ : zz_S} {h0 : Nat} {K : zy_W} {h : Int} (g : zy_SG σ h0 K h) : 0 ≤ (σ h0 3).toInt ∧ (σ h0 3).toInt < 1024 := by rw [g.2.2.2.1]; exact zy_st_rng _ (Nat.le_refl 10)
theorem zy_cn_bt {P : Nat → Prop} {n k : Nat} {t : Int} (h : zy_bt t (P n)) (hk : k = n + 1) : zy_cn P k = zy_cn P n + t := by
  subst hk
  rcases h with ⟨a, b⟩ | ⟨a, b⟩
  · rw [zy_cn_1 b, a]
  · rw [zy_cn_0 b, a, Int.add_zero]
/-- the first, from i on, m of them; NONE -/
noncomputable def zy_fi (P : Nat → Prop) : Nat → Nat → Int
  | 0, _ => -1000000002
  | m + 1, i => @ite _ (P i) (Classical.propDecidable _) (i : Int) (zy_fi P m (i + 1))
theorem zy_fi_0 {P : Nat → Prop} {i : Nat} (hi : i = 0) : zy_fi P (241 - i) i = zy_fi P 241 0 := by subst hi; rfl
theorem zy_fi_hit {P : Nat → Prop} {m i : Nat} {X : Int} (h : P i) (e : zy_fi P m i = X) (hm : 0 < m) : X = (i : Int) := by
  obtain ⟨n, hn⟩ : ∃ n, m = n + 1 := ⟨m - 1, by omega⟩
  subst hn
  rw [← e]
  show @ite _ (P i) (Classical.propDecidable _) (i : Int) (zy_fi P n (i + 1)) = _
  rw [if_pos h]
theorem zy_fi_go {P : Nat → Prop} {m i n j : Nat} {X : Int} (h : ¬ P i) (e : zy_fi P m i = X) (hm : m = n + 1) (hj : j = i + 1) : zy_fi P n j = X := by
  subst hm; subst hj
  rw [← e]
  show _ = @ite _ (P i) (Classical.propDecidable _) (i : Int) (zy_fi P n (i + 1))
  rw [if_neg h]
theorem zy_fi_end {P : Nat → Prop} {m i : Nat} {X : Int} (e : zy_fi P m i = X) (hm : m = 0) : X = -1000000002 := by
  subst hm
  exact e.symm
theorem zy_fi_rng (P : Nat → Prop) : ∀ m i : Nat, zy_fi P m i = -1000000002 ∨ ((i : Int) ≤ zy_fi P m i ∧ zy_fi P m i < (i : Int) + m)
  | 0, _ => Or.inl rfl
  | m + 1, i => by
    show @ite _ (P i) (Classical.propDecidable _) (i : Int) (zy_fi P m (i + 1)) = _ ∨ (_ ≤ @ite _ (P i) (Classical.propDecidable _) (i : Int) (zy_fi P m (i + 1)) ∧ @ite _ (P i) (Classical.propDecidable _) (i : Int) (zy_fi P m (i + 1)) < _)
    have ih := zy_fi_rng P m (i + 1)
    by_cases p : P i
    · rw [if_pos p]; omega
    · rw [if_neg p]; omega
/-- how many are right, from n on, at most m more -/
noncomputable def zy_rt (P : Nat → Prop) : Nat → Nat → Nat
  | 0, n => n
  | m + 1, n => @ite _ (P n) (Classical.propDecidable _) (zy_rt P m (n + 1)) n
theorem zy_rt_0 {P : Nat → Prop} {m i : Nat} (hi : i = 0) : zy_rt P (m - i) i = zy_rt P m 0 := by subst hi; rfl
theorem zy_rt_stop {P : Nat → Prop} {m i X : Nat} (h : ¬ P i) (e : zy_rt P m i = X) : X = i := by
  rw [← e]
  cases m with
  | zero => rfl
  | succ m =>
    show @ite _ (P i) (Classical.propDecidable _) (zy_rt P m (i + 1)) i = i
    rw [if_neg h]
theorem zy_rt_go {P : Nat → Prop} {m i n j X : Nat} (h : P i) (e : zy_rt P m i = X) (hm : m = n + 1) (hj : j = i + 1) : zy_rt P n j = X := by
  subst hm; subst hj
  rw [← e]
  show _ = @ite _ (P i) (Classical.propDecidable _) (zy_rt P n (i + 1)) i
  rw [if_pos h]
theorem zy_rt_end {P : Nat → Prop} {m i X : Nat} (e : zy_rt P m i = X) (hm : m = 0) : X = i := by
  subst hm
  exact e.symm
theorem zy_rt_rng (P : Nat → Prop) : ∀ m i : Nat, i ≤ zy_rt P m i ∧ zy_rt P m i ≤ i + m
  | 0, i => ⟨Nat.le_refl _, Nat.le_refl _⟩
  | m + 1, i => by
    show i ≤ @ite _ (P i) (Classical.propDecidable _) (zy_rt P m (i + 1)) i ∧ @ite _ (P i) (Classical.propDecidable _) (zy_rt P m (i + 1)) i ≤ i + (m + 1)
    have ih := zy_rt_rng P m (i + 1)
    by_cases p : P i
    · rw [if_pos p]; omega
    · rw [if_neg p]; omega
/-- sums -/
def zy_sm (w : Nat → Int) : Nat → Int
  | 0 => 0
  | n + 1 => zy_sm w n + w n
theorem zy_sm_rng {w : Nat → Int} {c : Int} (h : ∀ i : Nat, 0 ≤ w i ∧ w i ≤ c) : ∀ n : Nat, 0 ≤ zy_sm w n ∧ zy_sm w n ≤ (n : Int) * c
  | 0 => ⟨Int.le_refl _, by rw [show ((0 : Nat) : Int) = 0 from rfl, Int.zero_mul]; exact Int.le_refl _⟩
  | n + 1 => by
    have ih := zy_sm_rng h n
    have hn := h n
    have e : ((n + 1 : Nat) : Int) * c = (n : Int) * c + c := by rw [show ((n + 1 : Nat) : Int) = (n : Int) + 1 from rfl, Int.add_mul, Int.one_mul]
    rw [e]
    show 0 ≤ zy_sm w n + w n ∧ zy_sm w n + w n ≤ _
    omega
theorem zy_sm_s {w : Nat → Int} {n k : Nat} {s t u : Int} (hs : s = zy_sm w n) (hu : u = w n) (ht : t = s + u) (hk : k = n + 1) : t = zy_sm w k := by
  rw [hk, ht, hs, hu]
  rfl
/-- in how many of n HOURS a MATTER is UNDER what is told -/
theorem zy_exhu : ∃ f : zy_W → Int → Int → Int → Nat → Int, ∀ K h mt ru n, f K h mt ru n = zy_cn (fun i => zy_u K (h + (i : Int)) mt = ru) n := ⟨_, fun _ _ _ _ _ => rfl⟩
noncomputable def zy_hu : zy_W → Int → Int → Int → Nat → Int := Classical.choose zy_exhu
theorem zy_hu_eq (K : zy_W) (h mt ru : Int) (n : Nat) : zy_hu K h mt ru n = zy_cn (fun i => zy_u K (h + (i : Int)) mt = ru) n := Classical.choose_spec zy_exhu K h mt ru n
theorem zy_hu_rng (K : zy_W) (h mt ru : Int) (n : Nat) : 0 ≤ zy_hu K h mt ru n ∧ zy_hu K h mt ru n ≤ (n : Int) := by
  rw [zy_hu_eq]
  exact zy_cn_rng _ n
theorem zy_hu_0 {K : zy_W} {h mt ru a : Int} {n : Nat} (ha : a = 0) (hn : n = 0) : a = zy_hu K h mt ru n := by
  rw [zy_hu_eq, ha, hn]
  rfl
theorem zy_hu_bt {K : zy_W} {h h2 mt ru t a b : Int} {n k : Nat} (hb : zy_bt t (zy_u K h2 mt = ru)) (hh : h2 = h + (n : Int)) (ha : a = zy_hu K h mt ru n) (hk : k = n + 1) (hv : b = a + t) : b = zy_hu K h mt ru k := by
  subst hh
  rw [zy_hu_eq] at ha ⊢
  rw [zy_cn_bt (P := fun i => zy_u K (h + (i : Int)) mt = ru) hb hk, hv, ha]
/-- the greatest that divides both -/
def zy_gd : Nat → Int → Int
  | 0, _ => 1
  | b + 1, a => if b = 0 then 1 else if a % ((b + 1 : Nat) : Int) = 0 ∧ 48 % ((b + 1 : Nat) : Int) = 0 then ((b + 1 : Nat) : Int) else zy_gd b a
theorem zy_gd_hit {a X : Int} {b : Nat} (h : 1 < b) (h1 : a % (b : Int) = 0) (h2 : 48 % (b : Int) = 0) (e : zy_gd b a = X) : X = (b : Int) := by
  obtain ⟨n, hn⟩ : ∃ n, b = n + 1 := ⟨b - 1, by omega⟩
  subst hn
  rw [← e]
  show (if n = 0 then (1 : Int) else if a % ((n + 1 : Nat) : Int) = 0 ∧ 48 % ((n + 1 : Nat) : Int) = 0 then ((n + 1 : Nat) : Int) else zy_gd n a) = _
  rw [if_neg (by omega), if_pos ⟨h1, h2⟩]
theorem zy_gd_go {a X : Int} {b c : Nat} (h : 1 < b) (hn : ¬ (a % (b : Int) = 0 ∧ 48 % (b : Int) = 0)) (e : zy_gd b a = X) (hc : b = c + 1) : zy_gd c a = X := by
  subst hc
  rw [← e]
  show _ = (if c = 0 then (1 : Int) else if a % ((c + 1 : Nat) : Int) = 0 ∧ 48 % ((c + 1 : Nat) : Int) = 0 then ((c + 1 : Nat) : Int) else zy_gd c a)
  rw [if_neg (by omega), if_neg hn]
theorem zy_gd_1 {a X : Int} {b : Nat} (h : b ≤ 1) (e : zy_gd b a = X) : X = 1 := by
  rw [← e]
  cases b with
  | zero => rfl
  | succ b =>
    show (if b = 0 then (1 : Int) else _) = 1
    rw [if_pos (by omega)]
theorem zy_exg48 : ∃ f : Int → Int, ∀ a, f a = zy_gd 48 a := ⟨_, fun _ => rfl⟩
noncomputable def zy_g48 : Int → Int := Classical.choose zy_exg48
theorem zy_g48_eq (a : Int) : zy_g48 a = zy_gd 48 a := Classical.choose_spec zy_exg48 a
/-- the reference's way -/
def zy_ab : Nat → Int → Int → Int × Int
  | 0, a, b => (a, b)
  | c + 1, a, b => if c = 0 then (a, b) else if a % ((c + 1 : Nat) : Int) = 0 ∧ b % ((c + 1 : Nat) : Int) = 0 then zy_ab c (a / ((c + 1 : Nat) : Int)) (b / ((c + 1 : Nat) : Int)) else zy_ab c a b
theorem zy_ab_go {a b a1 b1 : Int} {c d : Nat} {X : Int × Int} (h : 1 < c) (hn : ¬ (a % (c : Int) = 0 ∧ b % (c : Int) = 0)) (e : zy_ab c a b = X) (hc : c = d + 1) (ha : a1 = a) (hb : b1 = b) : zy_ab d a1 b1 = X := by
  subst hc; subst ha; subst hb
  rw [← e]
  show _ = (if d = 0 then (a1, b1) else if a1 % ((d + 1 : Nat) : Int) = 0 ∧ b1 % ((d + 1 : Nat) : Int) = 0 then zy_ab d (a1 / ((d + 1 : Nat) : Int)) (b1 / ((d + 1 : Nat) : Int)) else zy_ab d a1 b1)
  rw [if_neg (by omega), if_neg hn]
theorem zy_ab_div {a b a1 b1 : Int} {c d : Nat} {X : Int × Int} (h : 1 < c) (h1 : a % (c : Int) = 0) (h2 : b % (c : Int) = 0) (e : zy_ab c a b = X) (hc : c = d + 1) (ha : a1 = a / (c : Int)) (hb : b1 = b / (c : Int)) : zy_ab d a1 b1 = X := by
  subst hc; subst ha; subst hb
  rw [← e]
  show _ = (if d = 0 then (a, b) else if a % ((d + 1 : Nat) : Int) = 0 ∧ b % ((d + 1 : Nat) : Int) = 0 then zy_ab d (a / ((d + 1 : Nat) : Int)) (b / ((d + 1 : Nat) : Int)) else zy_ab d a b)
  rw [if_neg (by omega), if_pos ⟨h1, h2⟩]
theorem zy_ab_1 {a b : Int} {c : Nat} {X : Int × Int} (h : c ≤ 1) (e : zy_ab c a b = X) : X = (a, b) := by
  rw [← e]
  cases c with
  | zero => rfl
  | succ c =>
    show (if c = 0 then (a, b) else _) = (a, b)
    rw [if_pos (by omega)]
theorem zy_abN : ∀ N : Nat, N < 49 → zy_ab 48 (N : Int) 48 = ((N : Int) / zy_gd 48 (N : Int), 48 / zy_gd 48 (N : Int)) ∧ 1 ≤ zy_gd 48 (N : Int) := by decide +kernel
theorem zy_ab_gd {X : Int} (h : 0 ≤ X ∧ X ≤ 48) : zy_ab 48 X 48 = (X / zy_g48 X, 48 / zy_g48 X) ∧ 1 ≤ zy_g48 X := by
  rw [zy_g48_eq]
  have e : X = (X.toNat : Int) := by omega
  rw [e]
  exact zy_abN X.toNat (by omega)
def zy_p3 (K : zy_W) (h dm what : Int) (r : Int32) : Prop := (¬ (0 ≤ dm ∧ dm < K.2.2.1 ∧ 0 ≤ what ∧ what ≤ 7) ∧ r.toInt = -1000000001) ∨ ((0 ≤ dm ∧ dm < K.2.2.1 ∧ 0 ≤ what ∧ what ≤ 5) ∧ r.toInt = K.2.1 dm.toNat what.toNat) ∨ ((0 ≤ dm ∧ dm < K.2.2.1 ∧ what = 6) ∧ zy_bt r.toInt (zy_F K h dm.toNat)) ∨ ((0 ≤ dm ∧ dm < K.2.2.1 ∧ what = 7) ∧ r.toInt = zy_wt K h dm.toNat)
theorem zy_p3.u {K : zy_W} {h dm what : Int} {r s : Int32} (a : zy_p3 K h dm what r) (b : zy_p3 K h dm what s) : r.toInt = s.toInt := by
  rcases a with ⟨a1, a2⟩ | ⟨a1, a2⟩ | ⟨a1, a2⟩ | ⟨a1, a2⟩ <;> rcases b with ⟨b1, b2⟩ | ⟨b1, b2⟩ | ⟨b1, b2⟩ | ⟨b1, b2⟩ <;> first | exact a2.trans b2.symm | exact zy_bt.eq a2 b2 | (exfalso; omega)
def zy_p18 (K : zy_W) (h mt n : Int) (r : Int32) : Prop := (¬ (0 ≤ mt ∧ mt ≤ 9 ∧ 0 ≤ n ∧ n ≤ 240) ∧ r.toInt = -1000000001) ∨ ((0 ≤ mt ∧ mt ≤ 9 ∧ 0 ≤ n ∧ n ≤ 240) ∧ r.toInt = zy_u K (h + n) mt)
theorem zy_p18.u {K : zy_W} {h mt n : Int} {r s : Int32} (a : zy_p18 K h mt n r) (b : zy_p18 K h mt n s) : r.toInt = s.toInt := by
  rcases a with ⟨a1, a2⟩ | ⟨a1, a2⟩ <;> rcases b with ⟨b1, b2⟩ | ⟨b1, b2⟩ <;> first | exact a2.trans b2.symm | exact absurd b1 a1 | exact absurd a1 b1
def zy_p19 (K : zy_W) (h what : Int) (r : Int32) : Prop := ((what < 0 ∨ 3 < what) ∧ r.toInt = -1000000001) ∨ (what = 0 ∧ r.toInt = (zy_st (zy_F K h) K.2.2.1.toNat).toInt) ∨ (what = 1 ∧ r.toInt = (zy_st (fun m => zy_u K h (m : Int) = 1) 10).toInt) ∨ (what = 2 ∧ r.toInt = (zy_st (fun m => zy_u K h (m : Int) = 0) 10).toInt) ∨ (what = 3 ∧ r.toInt = zy_nd K h)
theorem zy_p19.u {K : zy_W} {h what : Int} {r s : Int32} (a : zy_p19 K h what r) (b : zy_p19 K h what s) : r.toInt = s.toInt := by
  rcases a with ⟨a1, a2⟩ | ⟨a1, a2⟩ | ⟨a1, a2⟩ | ⟨a1, a2⟩ | ⟨a1, a2⟩ <;> rcases b with ⟨b1, b2⟩ | ⟨b1, b2⟩ | ⟨b1, b2⟩ | ⟨b1, b2⟩ | ⟨b1, b2⟩ <;> first | exact a2.trans b2.symm | (exfalso; clear a2 b2; omega)
def zy_p21 (K : zy_W) (h mt ru : Int) (r : Int32) : Prop := (¬ (0 ≤ mt ∧ mt ≤ 9 ∧ -1 ≤ ru ∧ ru ≤ 1) ∧ r.toInt = -1000000001) ∨ ((0 ≤ mt ∧ mt ≤ 9 ∧ -1 ≤ ru ∧ ru ≤ 1) ∧ r.toInt = zy_fi (fun i => zy_u K (h + (i : Int)) mt = ru) 241 0)
theorem zy_p21.u {K : zy_W} {h mt ru : Int} {r s : Int32} (a : zy_p21 K h mt ru r) (b : zy_p21 K h mt ru s) : r.toInt = s.toInt := by
  rcases a with ⟨a1, a2⟩ | ⟨a1, a2⟩ <;> rcases b with ⟨b1, b2⟩ | ⟨b1, b2⟩ <;> first | exact a2.trans b2.symm | exact absurd b1 a1 | exact absurd a1 b1
def zy_p22 (K : zy_W) (h n : Int) (r : Int32) : Prop := (¬ (0 ≤ n ∧ n ≤ 240) ∧ r.toInt = -1000000001) ∨ ((0 ≤ n ∧ n ≤ 240) ∧ r.toInt = zy_cn (fun i => 0 < zy_nd K (h + (i : Int))) n.toNat)
theorem zy_p22.u {K : zy_W} {h n : Int} {r s : Int32} (a : zy_p22 K h n r) (b : zy_p22 K h n s) : r.toInt = s.toInt := by
  rcases a with ⟨a1, a2⟩ | ⟨a1, a2⟩ <;> rcases b with ⟨b1, b2⟩ | ⟨b1, b2⟩ <;> first | exact a2.trans b2.symm | exact absurd b1 a1 | exact absurd a1 b1
def zy_bw (K : zy_W) (h : Int) (n : Nat) (m : Nat) : Prop := zy_hu K h (m : Int) 0 n < zy_hu K h (m : Int) 1 n
noncomputable def zy_bg (K : zy_W) (h : Int) (n : Nat) (m : Nat) : Int := if zy_hu K h (m : Int) 0 n < zy_hu K h (m : Int) 1 n then zy_hu K h (m : Int) 0 n else zy_hu K h (m : Int) 1 n
theorem zy_bg_of {K : zy_W} {h a b v : Int} {n m : Nat} (ha : a = zy_hu K h (m : Int) 0 n) (hb : b = zy_hu K h (m : Int) 1 n) (hv : v ≤ a ∧ v ≤ b ∧ (v = a ∨ v = b)) : v = zy_bg K h n m := by
  unfold zy_bg
  rw [← ha, ← hb]
  by_cases q : a < b
  · rw [if_pos q]; omega
  · rw [if_neg q]; omega
theorem zy_bg_rng (K : zy_W) (h : Int) (n : Nat) (m : Nat) : 0 ≤ zy_bg K h n m ∧ zy_bg K h n m ≤ (n : Int) := by
  have a := zy_hu_rng K h (m : Int) 0 n
  have b := zy_hu_rng K h (m : Int) 1 n
  unfold zy_bg
  by_cases q : zy_hu K h (m : Int) 0 n < zy_hu K h (m : Int) 1 n
  · rw [if_pos q]; exact a
  · rw [if_neg q]; exact b
def zy_p23 (K : zy_W) (h n what : Int) (r : Int32) : Prop := (¬ (0 ≤ n ∧ n ≤ 240 ∧ 0 ≤ what ∧ what ≤ 1) ∧ r.toInt = -1000000001) ∨ ((0 ≤ n ∧ n ≤ 240 ∧ what = 0) ∧ r.toInt = (zy_st (zy_bw K h n.toNat) 10).toInt) ∨ ((0 ≤ n ∧ n ≤ 240 ∧ what = 1) ∧ r.toInt = zy_sm (zy_bg K h n.toNat) 10)
theorem zy_p23.u {K : zy_W} {h n what : Int} {r s : Int32} (a : zy_p23 K h n what r) (b : zy_p23 K h n what s) : r.toInt = s.toInt := by
  rcases a with ⟨a1, a2⟩ | ⟨a1, a2⟩ | ⟨a1, a2⟩ <;> rcases b with ⟨b1, b2⟩ | ⟨b1, b2⟩ | ⟨b1, b2⟩ <;> first | exact a2.trans b2.symm | (exfalso; clear a2 b2; omega)
def zy_p25 (K : zy_W) (h mt ru part : Int) (r : Int32) : Prop := (¬ (0 ≤ mt ∧ mt ≤ 9 ∧ -1 ≤ ru ∧ ru ≤ 1 ∧ 0 ≤ part ∧ part ≤ 1) ∧ r.toInt = -1000000001) ∨ ((0 ≤ mt ∧ mt ≤ 9 ∧ -1 ≤ ru ∧ ru ≤ 1 ∧ part = 0) ∧ r.toInt = zy_hu K h mt ru 48 / zy_g48 (zy_hu K h mt ru 48)) ∨ ((0 ≤ mt ∧ mt ≤ 9 ∧ -1 ≤ ru ∧ ru ≤ 1 ∧ part = 1) ∧ r.toInt = 48 / zy_g48 (zy_hu K h mt ru 48))
theorem zy_p25.u {K : zy_W} {h mt ru part : Int} {r s : Int32} (a : zy_p25 K h mt ru part r) (b : zy_p25 K h mt ru part s) : r.toInt = s.toInt := by
  rcases a with ⟨a1, a2⟩ | ⟨a1, a2⟩ | ⟨a1, a2⟩ <;> rcases b with ⟨b1, b2⟩ | ⟨b1, b2⟩ | ⟨b1, b2⟩ <;> first | exact a2.trans b2.symm | (exfalso; clear a2 b2; omega)
def zy_ro (C : Nat → Nat → Int) (K : zy_W) (h : Int) (j : Nat) : Nat → Prop := fun n => C j n = zy_u K h (n : Int)
def zy_p26 (B N : Nat → Int) (C : Nat → Nat → Int) (K : zy_W) (h sh : Int) (r : Int32) : Prop := ((sh < 0 ∨ 3 < sh) ∧ r.toInt = -1000000001) ∨ ((0 ≤ sh ∧ sh ≤ 3 ∧ (B sh.toNat = 0 ∨ 10 < N sh.toNat)) ∧ r.toInt = -1000000002) ∨ ((0 ≤ sh ∧ sh ≤ 3 ∧ B sh.toNat ≠ 0 ∧ N sh.toNat ≤ 10) ∧ r.toInt = zy_fi (fun i => ((zy_rt (zy_ro C K (h + (i : Int)) sh.toNat) (min (N sh.toNat) 10).toNat 0 : Nat) : Int) = N sh.toNat) 241 0)
theorem zy_p26.u {B N : Nat → Int} {C : Nat → Nat → Int} {K : zy_W} {h sh : Int} {r s : Int32} (a : zy_p26 B N C K h sh r) (b : zy_p26 B N C K h sh s) : r.toInt = s.toInt := by
  rcases a with ⟨a1, a2⟩ | ⟨a1, a2⟩ | ⟨a1, a2⟩ <;> rcases b with ⟨b1, b2⟩ | ⟨b1, b2⟩ | ⟨b1, b2⟩ <;> first | exact a2.trans b2.symm | (exfalso; clear a2 b2; omega)
def zy_p33 (B N : Nat → Int) (C : Nat → Nat → Int) (K : zy_W) (h sh : Int) (r : Int32) : Prop := ((sh < 0 ∨ 3 < sh) ∧ r.toInt = -1000000001) ∨ ((0 ≤ sh ∧ sh ≤ 3 ∧ B sh.toNat = 0) ∧ r.toInt = -1000000002) ∨ ((0 ≤ sh ∧ sh ≤ 3 ∧ B sh.toNat ≠ 0) ∧ r.toInt = ((zy_rt (zy_ro C K h sh.toNat) (min (N sh.toNat) 10).toNat 0 : Nat) : Int))
theorem zy_p33.u {B N : Nat → Int} {C : Nat → Nat → Int} {K : zy_W} {h sh : Int} {r s : Int32} (a : zy_p33 B N C K h sh r) (b : zy_p33 B N C K h sh s) : r.toInt = s.toInt := by
  rcases a with ⟨a1, a2⟩ | ⟨a1, a2⟩ | ⟨a1, a2⟩ <;> rcases b with ⟨b1, b2⟩ | ⟨b1, b2⟩ | ⟨b1, b2⟩ <;> first | exact a2.trans b2.symm | (exfalso; clear a2 b2; omega)
