/-! ===== sets, bit by bit ===== -/
def zy_tb (x : Int32) (d : Nat) : Prop := x.toBitVec.getLsbD d = true
theorem zy_tb_or {x y z : Int32} {d : Nat} (e : z = x ||| y) : zy_tb z d ↔ zy_tb x d ∨ zy_tb y d := by
  subst e
  unfold zy_tb
  rw [Int32.toBitVec_or, BitVec.getLsbD_or, Bool.or_eq_true]
theorem zy_tb_and {x y z : Int32} {d : Nat} (e : z = x &&& y) : zy_tb z d ↔ zy_tb x d ∧ zy_tb y d := by
  subst e
  unfold zy_tb
  rw [Int32.toBitVec_and, BitVec.getLsbD_and, Bool.and_eq_true]
theorem zy_tb_m1 : ∀ d : Nat, d < 32 → (-1 : Int32).toBitVec.getLsbD d = true := by decide +kernel
theorem zy_tb_not {x z : Int32} {d : Nat} (hd : d < 32) (e : z = x ^^^ (-1)) : zy_tb z d ↔ ¬ zy_tb x d := by
  subst e
  unfold zy_tb
  rw [Int32.toBitVec_xor, BitVec.getLsbD_xor, zy_tb_m1 d hd]
  cases x.toBitVec.getLsbD d <;> decide
theorem zy_tb_N {N d : Nat} (hN : N < 1024) : zy_tb (Int32.ofNat N) d ↔ N.testBit d = true := by
  have e : (Int32.ofNat N).toBitVec.toNat = N := Nat.mod_eq_of_lt (by omega)
  show (Int32.ofNat N).toBitVec.toNat.testBit d = true ↔ N.testBit d = true
  rw [e]
theorem zy_tb_0 (d : Nat) : ¬ zy_tb 0 d := fun q => by
  have h := (zy_tb_N (N := 0) (d := d) (by decide)).mp q
  rw [Nat.zero_testBit] at h
  exact absurd h (by decide)
theorem zy_tb_shr {x a t i : Int32} {m : Nat} (hx : 0 ≤ x.toInt ∧ x.toInt < 1024) (hm : m < 10) (hi : i.toInt = (m : Int)) (ha : a = x >>> (i &&& 31)) (ht : t = a &&& 1) : zy_bt t.toInt (zy_tb x m) := by
  obtain ⟨N, h1, h2, h3⟩ := zy_asN hx
  have e : i = Int32.ofInt (m : Int) := by rw [← hi, Int32.ofInt_toInt]
  have h5 := zy_bshr N h1 m hm
  rw [ht, ha, e, h2, h5]
  by_cases p : N.testBit m = true
  · rw [if_pos p]; exact Or.inl ⟨rfl, (zy_tb_N h1).mpr p⟩
  · rw [if_neg p]; exact Or.inr ⟨rfl, fun q => p ((zy_tb_N h1).mp q)⟩
theorem zy_tb_st (P : Nat → Prop) {n d : Nat} (hn : n ≤ 10) : zy_tb (zy_st P n) d ↔ (d < n ∧ P d) := by
  obtain ⟨N, h1, h2, h3⟩ := zy_st_N P n hn
  have h4 : (2 : Nat) ^ n ≤ 2 ^ 10 := Nat.pow_le_pow_right (by decide) hn
  have h5 : (2 : Nat) ^ 10 = 1024 := by decide
  rw [h2, zy_tb_N (by omega)]
  by_cases q : d < n
  · rw [h3 d q]
    exact ⟨fun z => ⟨q, z⟩, fun z => z.2⟩
  · have h6 : (2 : Nat) ^ n ≤ 2 ^ d := Nat.pow_le_pow_right (by decide) (by omega)
    rw [Nat.testBit_lt_two_pow (by omega)]
    exact ⟨fun z => absurd z (by decide), fun z => absurd z.1 q⟩
/-- a set is what its bits say -/
theorem zy_tb_ext {x y : Int32} (hx : 0 ≤ x.toInt ∧ x.toInt < 1024) (hy : 0 ≤ y.toInt ∧ y.toInt < 1024) (h : ∀ d : Nat, zy_tb x d ↔ zy_tb y d) : x = y := by
  obtain ⟨N, n1, n2, n3⟩ := zy_asN hx
  obtain ⟨M, m1, m2, m3⟩ := zy_asN hy
  have e : N = M := Nat.eq_of_testBit_eq (fun d => by
    have g := h d
    rw [n2, m2, zy_tb_N n1, zy_tb_N m1] at g
    exact Bool.eq_iff_iff.mpr g)
  rw [n2, m2, e]
theorem zy_tb_le {x y : Int32} (hx : 0 ≤ x.toInt ∧ x.toInt < 1024) (hy : 0 ≤ y.toInt ∧ y.toInt < 1024) (h : ∀ d : Nat, zy_tb x d → zy_tb y d) : x.toInt ≤ y.toInt := by
  obtain ⟨N, n1, n2, n3⟩ := zy_asN hx
  obtain ⟨M, m1, m2, m3⟩ := zy_asN hy
  have e : N &&& M = N := Nat.eq_of_testBit_eq (fun d => by
    have g := h d
    rw [n2, m2, zy_tb_N n1, zy_tb_N m1] at g
    rw [Nat.testBit_and]
    by_cases q : N.testBit d = true
    · rw [q, g q]; rfl
    · rw [Bool.not_eq_true] at q
      rw [q]; rfl)
  have l : N ≤ M := by
    rw [← e]
    exact Nat.and_le_right
  rw [n2, m2, Int32.toInt_ofNat_of_lt (by omega), Int32.toInt_ofNat_of_lt (by omega)]
  omega
theorem zy_cb_le {N M : Nat} (h : ∀ d : Nat, N.testBit d = true → M.testBit d = true) : ∀ n : Nat, zy_cb N n ≤ zy_cb M n
  | 0 => Int.le_refl _
  | n + 1 => by
    have ih := zy_cb_le h n
    show (if N.testBit n = true then zy_cb N n + 1 else zy_cb N n) ≤ (if M.testBit n = true then zy_cb M n + 1 else zy_cb M n)
    by_cases p : N.testBit n = true
    · rw [if_pos p, if_pos (h n p)]; omega
    · rw [if_neg p]
      by_cases q : M.testBit n = true
      · rw [if_pos q]; omega
      · rw [if_neg q]; exact ih
theorem zy_cb_lt {N M m : Nat} (h : ∀ d : Nat, N.testBit d = true → M.testBit d = true) (h1 : ¬ N.testBit m = true) (h2 : M.testBit m = true) : ∀ n : Nat, m < n → zy_cb N n < zy_cb M n
  | 0, q => absurd q (Nat.not_lt_zero m)
  | n + 1, q => by
    show (if N.testBit n = true then zy_cb N n + 1 else zy_cb N n) < (if M.testBit n = true then zy_cb M n + 1 else zy_cb M n)
    by_cases e : m = n
    · subst e
      have l := zy_cb_le h m
      rw [if_neg h1, if_pos h2]
      omega
    · have ih := zy_cb_lt h h1 h2 n (by omega)
      by_cases p : N.testBit n = true
      · rw [if_pos p, if_pos (h n p)]; omega
      · rw [if_neg p]
        by_cases z : M.testBit n = true
        · rw [if_pos z]; omega
        · rw [if_neg z]; exact ih
theorem zy_pc_cb {x : Int32} {N : Nat} (hN : N < 1024) (e : x = Int32.ofNat N) : zy_pc x = zy_cb N 10 := by
  have e2 : (Int32.ofNat N).toBitVec.toNat = N := Nat.mod_eq_of_lt (by omega)
  rw [e, zy_pc_eq, e2]
  exact (zy_cbN N hN).1
theorem zy_pc_le {x y : Int32} (hx : 0 ≤ x.toInt ∧ x.toInt < 1024) (hy : 0 ≤ y.toInt ∧ y.toInt < 1024) (h : ∀ d : Nat, zy_tb x d → zy_tb y d) : zy_pc x ≤ zy_pc y := by
  obtain ⟨N, n1, n2, n3⟩ := zy_asN hx
  obtain ⟨M, m1, m2, m3⟩ := zy_asN hy
  rw [zy_pc_cb n1 n2, zy_pc_cb m1 m2]
  refine zy_cb_le (fun d q => ?_) 10
  have g := h d
  rw [n2, m2, zy_tb_N n1, zy_tb_N m1] at g
  exact g q
/-- a set that grows has more in it -/
theorem zy_pc_lt {x y : Int32} (hx : 0 ≤ x.toInt ∧ x.toInt < 1024) (hy : 0 ≤ y.toInt ∧ y.toInt < 1024) (h : ∀ d : Nat, zy_tb x d → zy_tb y d) (hne : ¬ x.toInt = y.toInt) : zy_pc x < zy_pc y := by
  have hex : ∃ d : Nat, zy_tb y d ∧ ¬ zy_tb x d := Classical.byContradiction (fun q => hne (congrArg Int32.toInt (zy_tb_ext hx hy (fun d => ⟨h d, fun z => Classical.byContradiction (fun w => q ⟨d, z, w⟩)⟩))))
  obtain ⟨d, d1, d2⟩ := hex
  obtain ⟨N, n1, n2, n3⟩ := zy_asN hx
  obtain ⟨M, m1, m2, m3⟩ := zy_asN hy
  rw [m2, zy_tb_N m1] at d1
  rw [n2, zy_tb_N n1] at d2
  rw [zy_pc_cb n1 n2, zy_pc_cb m1 m2]
  refine zy_cb_lt (fun e q => ?_) d2 d1 10 ?_
  · have g := h e
    rw [n2, m2, zy_tb_N n1, zy_tb_N m1] at g
    exact g q
  · refine Classical.byContradiction (fun q => ?_)
    have h6 : (2 : Nat) ^ 10 ≤ 2 ^ d := Nat.pow_le_pow_right (by decide) (by omega)
    have h5 : (2 : Nat) ^ 10 = 1024 := by decide
    rw [Nat.testBit_lt_two_pow (by omega)] at d1
    exact absurd d1 (by decide)
theorem zy_or_rng {s t w : Int32} (hs : 0 ≤ s.toInt ∧ s.toInt < 1024) (hw : 0 ≤ w.toInt ∧ w.toInt < 1024) (ht : t = s ||| w) : 0 ≤ t.toInt ∧ t.toInt < 1024 := by
  obtain ⟨N, n1, n2, n3⟩ := zy_asN hs
  obtain ⟨M, m1, m2, m3⟩ := zy_asN hw
  have l : (N ||| M) < 2 ^ 10 := Nat.or_lt_two_pow n1 m1
  have e : t.toBitVec.toNat = N ||| M := by rw [ht, Int32.toBitVec_or, BitVec.toNat_or, n3, m3]
  have e2 := BitVec.toInt_eq_toNat_cond t.toBitVec
  have h5 : (2 : Nat) ^ 10 = 1024 := by decide
  show 0 ≤ t.toBitVec.toInt ∧ t.toBitVec.toInt < 1024
  split at e2 <;> omega
/-! ===== the greatest of some ===== -/
theorem zy_gx_b {b : Int} {P : Nat → Prop} {w : Nat → Int} : ∀ n : Nat, b ≤ zy_gx b P w n
  | 0 => Int.le_refl _
  | n + 1 => by
    have ih := zy_gx_b (b := b) (P := P) (w := w) n
    by_cases p : P n
    · rw [zy_gx_1 p]
      by_cases q : zy_gx b P w n < w n
      · rw [if_pos q]; omega
      · rw [if_neg q]; exact ih
    · rw [zy_gx_0 p]; exact ih
theorem zy_gx_le {b : Int} {P : Nat → Prop} {w : Nat → Int} {d : Nat} (hd : P d) : ∀ n : Nat, d < n → w d ≤ zy_gx b P w n
  | 0, h => absurd h (Nat.not_lt_zero d)
  | n + 1, h => by
    by_cases e : d = n
    · subst e
      rw [zy_gx_1 hd]
      by_cases q : zy_gx b P w d < w d
      · rw [if_pos q]; exact Int.le_refl _
      · rw [if_neg q]; omega
    · have ih := zy_gx_le (b := b) (w := w) hd n (by omega)
      by_cases p : P n
      · rw [zy_gx_1 p]
        by_cases q : zy_gx b P w n < w n
        · rw [if_pos q]; omega
        · rw [if_neg q]; exact ih
      · rw [zy_gx_0 p]; exact ih
theorem zy_gx_at {b : Int} {P : Nat → Prop} {w : Nat → Int} : ∀ n : Nat, zy_gx b P w n = b ∨ ∃ d : Nat, d < n ∧ P d ∧ w d = zy_gx b P w n
  | 0 => Or.inl rfl
  | n + 1 => by
    have ih := zy_gx_at (b := b) (P := P) (w := w) n
    by_cases p : P n
    · rw [zy_gx_1 p]
      by_cases q : zy_gx b P w n < w n
      · rw [if_pos q]; exact Or.inr ⟨n, by omega, p, rfl⟩
      · rw [if_neg q]
        exact ih.imp id (fun ⟨d, h1, h2, h3⟩ => ⟨d, by omega, h2, h3⟩)
    · rw [zy_gx_0 p]
      exact ih.imp id (fun ⟨d, h1, h2, h3⟩ => ⟨d, by omega, h2, h3⟩)
theorem zy_gx_mono {b : Int} {P P' : Nat → Prop} {w : Nat → Int} {n : Nat} (h : ∀ d : Nat, d < n → P d → P' d) : zy_gx b P w n ≤ zy_gx b P' w n := by
  rcases zy_gx_at (b := b) (P := P) (w := w) n with e | ⟨d, h1, h2, h3⟩
  · rw [e]; exact zy_gx_b n
  · rw [← h3]; exact zy_gx_le (h d h1 h2) n h1
theorem zy_gx_congr {b : Int} {P P' : Nat → Prop} {w w' : Nat → Int} : ∀ n : Nat, (∀ d : Nat, d < n → (P d ↔ P' d)) → (∀ d : Nat, d < n → P d → w d = w' d) → zy_gx b P w n = zy_gx b P' w' n
  | 0, _, _ => rfl
  | n + 1, h, hw => by
    have ih := zy_gx_congr (b := b) n (fun d q => h d (by omega)) (fun d q => hw d (by omega))
    by_cases p : P n
    · rw [zy_gx_1 p, zy_gx_1 ((h n (by omega)).mp p), ih, hw n (by omega) p]
    · rw [zy_gx_0 p, zy_gx_0 (fun q => p ((h n (by omega)).mpr q)), ih]
/-! ===== the fewest ===== -/
/-- DREAMS of a MATTER and a side IN FORCE, but for a set -/
def zy_fr (K : zy_W) (h mt sd : Int) (Q : Nat → Prop) (d : Nat) : Prop := K.2.1 d 2 = mt ∧ K.2.1 d 3 = sd ∧ zy_F K h d ∧ ¬ Q d
theorem zy_exfg : ∃ f : Int → zy_W → Int → Int → Int → (Nat → Prop) → Int, ∀ b K h mt sd Q, f b K h mt sd Q = zy_gx b (zy_fr K h mt sd Q) (zy_wt K h) K.2.2.1.toNat := ⟨_, fun _ _ _ _ _ _ => rfl⟩
noncomputable def zy_fg : Int → zy_W → Int → Int → Int → (Nat → Prop) → Int := Classical.choose zy_exfg
theorem zy_fg_eq (b : Int) (K : zy_W) (h mt sd : Int) (Q : Nat → Prop) : zy_fg b K h mt sd Q = zy_gx b (zy_fr K h mt sd Q) (zy_wt K h) K.2.2.1.toNat := Classical.choose_spec zy_exfg b K h mt sd Q
/-- a set by which the MATTER is FREE in all these HOURS -/
def zy_vd (K : zy_W) (h mt : Int) (n : Nat) (Q : Nat → Prop) : Prop := ∀ k : Nat, k < n → zy_fg (-1000000000) K (h + (k : Int)) mt 1 Q = zy_fg (-1000000000) K (h + (k : Int)) mt 0 Q
def zy_fw (K : zy_W) (h mt : Int) (n : Nat) (d : Nat) : Prop := ∀ Q : Nat → Prop, zy_vd K h mt n Q → Q d
theorem zy_fg_2 (K : zy_W) (h mt sd : Int) (Q : Nat → Prop) : (zy_fg (-1000) K h mt sd Q = -1000 ∧ zy_fg (-1000000000) K h mt sd Q = -1000000000) ∨ (zy_fg (-1000) K h mt sd Q = zy_fg (-1000000000) K h mt sd Q ∧ -1000 < zy_fg (-1000) K h mt sd Q) := by
  have e := zy_gx_2 (b := -1000) (c := -1000000000) (P := zy_fr K h mt sd Q) (w := zy_wt K h) (fun j => by have := zy_wt_rng K h j; omega) (fun j => by have := zy_wt_rng K h j; omega) K.2.2.1.toNat
  rw [← zy_fg_eq, ← zy_fg_eq] at e
  omega
theorem zy_fg_le {b : Int} {K : zy_W} {h mt sd : Int} {Q : Nat → Prop} {d : Nat} (hd : (d : Int) < K.2.2.1) (hf : zy_fr K h mt sd Q d) : zy_wt K h d ≤ zy_fg b K h mt sd Q := by
  rw [zy_fg_eq]
  exact zy_gx_le hf _ (by omega)
theorem zy_fg_at (b : Int) (K : zy_W) (h mt sd : Int) (Q : Nat → Prop) : zy_fg b K h mt sd Q = b ∨ ∃ d : Nat, (d : Int) < K.2.2.1 ∧ zy_fr K h mt sd Q d ∧ zy_wt K h d = zy_fg b K h mt sd Q := by
  rw [zy_fg_eq]
  exact (zy_gx_at _).imp id (fun ⟨d, h1, h2, h3⟩ => ⟨d, by omega, h2, h3⟩)
theorem zy_fg_b (b : Int) (K : zy_W) (h mt sd : Int) (Q : Nat → Prop) : b ≤ zy_fg b K h mt sd Q := by
  rw [zy_fg_eq]
  exact zy_gx_b _
theorem zy_fg_mono {b : Int} {K : zy_W} {h mt sd : Int} {Q Q' : Nat → Prop} (hq : ∀ d : Nat, (d : Int) < K.2.2.1 → Q d → Q' d) : zy_fg b K h mt sd Q' ≤ zy_fg b K h mt sd Q := by
  rw [zy_fg_eq, zy_fg_eq]
  exact zy_gx_mono (fun d hd ⟨h1, h2, h3, h4⟩ => ⟨h1, h2, h3, fun z => h4 (hq d (by omega) z)⟩)
theorem zy_vd_sd {K : zy_W} {h mt s o : Int} {n k : Nat} {Q : Nat → Prop} (hv : zy_vd K h mt n Q) (hk : k < n) (hso : (s = 1 ∧ o = 0) ∨ (s = 0 ∧ o = 1)) : zy_fg (-1000000000) K (h + (k : Int)) mt s Q = zy_fg (-1000000000) K (h + (k : Int)) mt o Q := by
  rcases hso with ⟨a, b⟩ | ⟨a, b⟩
  · rw [a, b]; exact hv k hk
  · rw [a, b]; exact (hv k hk).symm
/-- the sets that do have a least one -/
theorem zy_fw_no {K : zy_W} {h mt s o : Int} {n k : Nat} (hk : k < n) (hso : (s = 1 ∧ o = 0) ∨ (s = 0 ∧ o = 1)) : ¬ zy_fg (-1000000000) K (h + (k : Int)) mt o (zy_fw K h mt n) < zy_fg (-1000000000) K (h + (k : Int)) mt s (zy_fw K h mt n) := fun hlt => by
  have hb := zy_fg_b (-1000000000) K (h + (k : Int)) mt o (zy_fw K h mt n)
  rcases zy_fg_at (-1000000000) K (h + (k : Int)) mt s (zy_fw K h mt n) with e | ⟨d, d1, d2, d3⟩
  · omega
  · obtain ⟨f1, f2, f3, f4⟩ := d2
    have hex : ∃ Q : Nat → Prop, zy_vd K h mt n Q ∧ ¬ Q d := Classical.byContradiction (fun q => f4 (fun Q hQ => Classical.byContradiction (fun z => q ⟨Q, hQ, z⟩)))
    obtain ⟨Q, q1, q2⟩ := hex
    have l1 := zy_fg_le (b := -1000000000) d1 (show zy_fr K (h + (k : Int)) mt s Q d from ⟨f1, f2, f3, q2⟩)
    have l2 := zy_fg_mono (b := -1000000000) (K := K) (h := h + (k : Int)) (mt := mt) (sd := o) (Q := zy_fw K h mt n) (Q' := Q) (fun d _ z => z Q q1)
    have l3 := zy_vd_sd q1 hk hso
    omega
theorem zy_fw_vd (K : zy_W) (h mt : Int) (n : Nat) : zy_vd K h mt n (zy_fw K h mt n) := fun k hk => by
  have a := zy_fw_no (K := K) (h := h) (mt := mt) hk (Or.inl ⟨rfl, rfl⟩)
  have b := zy_fw_no (K := K) (h := h) (mt := mt) hk (Or.inr ⟨rfl, rfl⟩)
  omega
/-- all DREAMS of the MATTER that aren't FORGOTTEN: none is left -/
theorem zy_vd_all {K : zy_W} {h mt : Int} {n : Nat} {Q : Nat → Prop} (hq : ∀ d : Nat, (d : Int) < K.2.2.1 → K.2.1 d 2 = mt → K.2.1 d 5 = 0 → Q d) : zy_vd K h mt n Q := fun k hk => by
  have e : ∀ sd : Int, zy_fg (-1000000000) K (h + (k : Int)) mt sd Q = -1000000000 := fun sd => by
    rcases zy_fg_at (-1000000000) K (h + (k : Int)) mt sd Q with e | ⟨d, d1, ⟨f1, f2, f3, f4⟩, d3⟩
    · exact e
    · exact absurd (hq d d1 f1 f3.1) f4
  rw [e, e]
theorem zy_fw_in {K : zy_W} {h mt : Int} {n d : Nat} (hd : zy_fw K h mt n d) : (d : Int) < K.2.2.1 ∧ K.2.1 d 2 = mt ∧ K.2.1 d 5 = 0 := hd (fun d => (d : Int) < K.2.2.1 ∧ K.2.1 d 2 = mt ∧ K.2.1 d 5 = 0) (zy_vd_all (Q := fun d => (d : Int) < K.2.2.1 ∧ K.2.1 d 2 = mt ∧ K.2.1 d 5 = 0) (fun _ a b c => ⟨a, b, c⟩))
/-- those that outweigh the other side -/
def zy_ow (K : zy_W) (h mt : Int) (Q : Nat → Prop) (d : Nat) : Prop := K.2.1 d 2 = mt ∧ zy_F K h d ∧ ¬ Q d ∧ (if K.2.1 d 3 = 1 then zy_fg (-1000) K h mt 0 Q else zy_fg (-1000) K h mt 1 Q) < zy_wt K h d
theorem zy_ow_in {K : zy_W} {h mt : Int} {n k d : Nat} {Q S : Nat → Prop} (hid : zz_ID K.2.1) (hd : (d : Int) < K.2.2.1 ∧ d < 9) (hk : k < n) (hv : zy_vd K h mt n S) (hq : ∀ e : Nat, Q e → S e) (ho : zy_ow K (h + (k : Int)) mt Q d) : S d := Classical.byContradiction (fun z => by
  obtain ⟨o1, o2, o3, o4⟩ := ho
  have hb := (hid d hd.2).2.2.2.1
  have key : ∀ s o : Int, (s = 1 ∧ o = 0) ∨ (s = 0 ∧ o = 1) → K.2.1 d 3 = s → zy_fg (-1000) K (h + (k : Int)) mt o Q < zy_wt K (h + (k : Int)) d → False := fun s o hso hs hlt => by
    have l1 := zy_fg_le (b := -1000000000) hd.1 (show zy_fr K (h + (k : Int)) mt s S d from ⟨o1, hs, o2, z⟩)
    have l2 := zy_fg_mono (b := -1000000000) (K := K) (h := h + (k : Int)) (mt := mt) (sd := o) (Q := Q) (Q' := S) (fun e _ => hq e)
    have l3 := zy_vd_sd hv hk hso
    have l4 := zy_fg_2 K (h + (k : Int)) mt o Q
    omega
  by_cases p : K.2.1 d 3 = 1
  · rw [if_pos p] at o4
    exact key 1 0 (Or.inl ⟨rfl, rfl⟩) p o4
  · rw [if_neg p] at o4
    exact key 0 1 (Or.inr ⟨rfl, rfl⟩) (by omega) o4)
theorem zy_ow_no {K : zy_W} {h mt : Int} {Q : Nat → Prop} (hn : ∀ d : Nat, (d : Int) < K.2.2.1 → ¬ zy_ow K h mt Q d) : zy_fg (-1000000000) K h mt 1 Q = zy_fg (-1000000000) K h mt 0 Q := by
  have key : ∀ s o : Int, (s = 1 ∧ o = 0) ∨ (s = 0 ∧ o = 1) → ¬ zy_fg (-1000000000) K h mt o Q < zy_fg (-1000000000) K h mt s Q := fun s o hso hlt => by
    have hb := zy_fg_b (-1000000000) K h mt o Q
    rcases zy_fg_at (-1000000000) K h mt s Q with e | ⟨d, d1, ⟨f1, f2, f3, f4⟩, d3⟩
    · omega
    · have l4 := zy_fg_2 K h mt o Q
      have l5 := zy_wt_rng K h d
      refine hn d d1 ⟨f1, f3, f4, ?_⟩
      rcases hso with ⟨a, b⟩ | ⟨a, b⟩
      · rw [if_pos (by omega)]
        rw [b] at l4 hlt
        omega
      · rw [if_neg (by omega)]
        rw [b] at l4 hlt
        omega
  have a := key 1 0 (Or.inl ⟨rfl, rfl⟩)
  have b := key 0 1 (Or.inr ⟨rfl, rfl⟩)
  omega
/-- the least set, as the machine has it -/
noncomputable def zy_fs (K : zy_W) (h mt : Int) (n : Nat) : Int32 := zy_st (zy_fw K h mt n) 10
theorem zy_fs_rng (K : zy_W) (h mt : Int) (n : Nat) : 0 ≤ (zy_fs K h mt n).toInt ∧ (zy_fs K h mt n).toInt < 1024 := zy_st_rng _ (Nat.le_refl 10)
theorem zy_fs_hs {K : zy_W} {h mt : Int} {n d : Nat} (hc : K.2.2.1 ≤ 9) : zy_tb (zy_fs K h mt n) d ↔ zy_fw K h mt n d := by
  unfold zy_fs
  rw [zy_tb_st _ (Nat.le_refl 10)]
  exact ⟨fun z => z.2, fun z => ⟨by have := (zy_fw_in z).1; omega, z⟩⟩
theorem zy_fs_of {K : zy_W} {h mt : Int} {n : Nat} {x : Int32} (hc : K.2.2.1 ≤ 9) (hx : 0 ≤ x.toInt ∧ x.toInt < 1024) (h1 : ∀ d : Nat, zy_tb x d → zy_fw K h mt n d) (h2 : zy_vd K h mt n (zy_tb x)) : x = zy_fs K h mt n :=
  zy_tb_ext hx (zy_fs_rng K h mt n) (fun d => ⟨fun z => (zy_fs_hs hc).mpr (h1 d z), fun z => (zy_fs_hs hc).mp z _ h2⟩)
/-- the reference goes through all sets, from the greatest number down -/
theorem zy_fs_up {K : zy_W} {h mt : Int} {n : Nat} {st be : Int32} (hc : K.2.2.1 ≤ 9) (hs : 0 ≤ st.toInt ∧ st.toInt < 1024) (hv : zy_vd K h mt n (zy_tb st)) (hlt : st.toInt - 1 < (zy_fs K h mt n).toInt) : st = zy_fs K h mt n := by
  have l := zy_tb_le (zy_fs_rng K h mt n) hs (fun d z => (zy_fs_hs hc).mp z _ hv)
  exact zz_ext (by omega)
theorem zy_fs_no {K : zy_W} {h mt : Int} {n : Nat} {st be so : Int32} (hc : K.2.2.1 ≤ 9) (hb : 0 ≤ be.toInt ∧ be.toInt < 1024) (hv : zy_vd K h mt n (zy_tb be)) (hso : ∀ d : Nat, zy_tb so d ↔ ((d : Int) < K.2.2.1 ∧ K.2.1 d 2 = mt ∧ K.2.1 d 5 = 0)) (hold : st.toInt < (zy_fs K h mt n).toInt → be = zy_fs K h mt n) (hlt : st.toInt - 1 < (zy_fs K h mt n).toInt) (hno : ¬ ((∀ d : Nat, zy_tb st d → zy_tb so d) ∧ zy_pc st ≤ zy_pc be ∧ zy_vd K h mt n (zy_tb st))) : be = zy_fs K h mt n := by
  by_cases q : st.toInt < (zy_fs K h mt n).toInt
  · exact hold q
  · have e : st = zy_fs K h mt n := zz_ext (by omega)
    refine absurd ?_ hno
    rw [e]
    refine ⟨fun d z => (hso d).mpr (zy_fw_in ((zy_fs_hs hc).mp z)), zy_pc_le (zy_fs_rng K h mt n) hb (fun d z => (zy_fs_hs hc).mp z _ hv), ?_⟩
    have h9 := zy_fw_vd K h mt n
    have e9 : zy_tb (zy_fs K h mt n) = zy_fw K h mt n := funext (fun d => propext (zy_fs_hs hc))
    rw [e9]
    exact h9
def zy_p24 (K : zy_W) (h mt n what : Int) (r : Int32) : Prop := (¬ (0 ≤ mt ∧ mt ≤ 9 ∧ 1 ≤ n ∧ n ≤ 240 ∧ 0 ≤ what ∧ what ≤ 1) ∧ r.toInt = -1000000001) ∨ ((0 ≤ mt ∧ mt ≤ 9 ∧ 1 ≤ n ∧ n ≤ 240 ∧ what = 0) ∧ r.toInt = zy_pc (zy_fs K h mt n.toNat)) ∨ ((0 ≤ mt ∧ mt ≤ 9 ∧ 1 ≤ n ∧ n ≤ 240 ∧ what = 1) ∧ r.toInt = (zy_fs K h mt n.toNat).toInt)
theorem zy_p24.u {K : zy_W} {h mt n what : Int} {r s : Int32} (a : zy_p24 K h mt n what r) (b : zy_p24 K h mt n what s) : r.toInt = s.toInt := by
  rcases a with ⟨a1, a2⟩ | ⟨a1, a2⟩ | ⟨a1, a2⟩ <;> rcases b with ⟨b1, b2⟩ | ⟨b1, b2⟩ | ⟨b1, b2⟩ <;> first | exact a2.trans b2.symm | (exfalso; clear a2 b2; omega)
theorem zy_pc_9 {x : Int32} (hx : 0 ≤ x.toInt ∧ x.toInt < 1024) (h : ∀ d : Nat, zy_tb x d → d < 9) : zy_pc x ≤ 9 := by
  have h9 : ∀ d : Nat, d < 9 → (511 : Nat).testBit d = true := by decide
  have hy : 0 ≤ (Int32.ofNat 511).toInt ∧ (Int32.ofNat 511).toInt < 1024 := by decide
  have l := zy_pc_le hx hy (fun d z => (zy_tb_N (by decide)).mpr (h9 d (h d z)))
  have e : zy_pc (Int32.ofNat 511) = 9 := (zy_pc_cb (by decide) rfl).trans (by decide)
  omega
/-- the reference's table of weights -/
noncomputable def zy_tw (K : zy_W) (h : Int) (so : Int32) (d : Nat) : Int := @ite _ (zy_tb so d ∧ zy_F K h d) (Classical.propDecidable _) (zy_wt K h d) (-1000000000)
theorem zy_tw_1 {K : zy_W} {h : Int} {so : Int32} {d : Nat} (q : zy_tb so d ∧ zy_F K h d) : zy_tw K h so d = zy_wt K h d := if_pos q
theorem zy_tw_0 {K : zy_W} {h : Int} {so : Int32} {d : Nat} (q : ¬ (zy_tb so d ∧ zy_F K h d)) : zy_tw K h so d = -1000000000 := if_neg q
def zy_ip (K : zy_W) (h : Int) (so sm : Int32) (sd : Int) (d : Nat) : Prop := zy_tb so d ∧ zy_tb sm d ∧ zy_F K h d ∧ K.2.1 d 3 = sd
theorem zy_exig : ∃ f : zy_W → Int → Int32 → Int32 → Int → Int, ∀ K h so sm sd, f K h so sm sd = zy_gx (-1000000000) (zy_ip K h so sm sd) (zy_wt K h) K.2.2.1.toNat := ⟨_, fun _ _ _ _ _ => rfl⟩
noncomputable def zy_ig : zy_W → Int → Int32 → Int32 → Int → Int := Classical.choose zy_exig
theorem zy_ig_eq (K : zy_W) (h : Int) (so sm : Int32) (sd : Int) : zy_ig K h so sm sd = zy_gx (-1000000000) (zy_ip K h so sm sd) (zy_wt K h) K.2.2.1.toNat := Classical.choose_spec zy_exig K h so sm sd
theorem zy_gx_w {b g x v : Int} {A s : Prop} {P : Nat → Prop} {w : Nat → Int} {n k : Nat} (hg : g = zy_gx b P w n) (hx : (A ∧ x = w n) ∨ (¬ A ∧ x = b)) (hP : P n ↔ (A ∧ s)) (hv : (s ∧ g < x ∧ v = x) ∨ (¬ (s ∧ g < x) ∧ v = g)) (hk : k = n + 1) : v = zy_gx b P w k := by
  subst hk
  have hb := zy_gx_b (b := b) (P := P) (w := w) n
  by_cases q : P n
  · obtain ⟨a, hs⟩ := hP.mp q
    have x1 := (hx.resolve_right (fun z => z.1 a)).2
    rw [zy_gx_1 q, ← hg, ← x1]
    rcases hv with ⟨-, v1, v2⟩ | ⟨v1, v2⟩
    · rw [if_pos v1, v2]
    · rw [if_neg (fun z => v1 ⟨hs, z⟩), v2]
  · rw [zy_gx_0 q, ← hg]
    rcases hv with ⟨hs, v1, v2⟩ | ⟨v1, v2⟩
    · have x1 := (hx.resolve_left (fun z => q (hP.mpr ⟨z.1, hs⟩))).2
      omega
    · exact v2
theorem zy_ig_fg {K : zy_W} {h mt sd : Int} {st n so sm : Int32} (hc : K.2.2.1 ≤ 9) (e1 : n = st ^^^ (-1)) (e2 : so = sm &&& n) (hsm : ∀ d : Nat, zy_tb sm d ↔ ((d : Int) < K.2.2.1 ∧ K.2.1 d 2 = mt ∧ K.2.1 d 5 = 0)) : zy_ig K h so sm sd = zy_fg (-1000000000) K h mt sd (zy_tb st) := by
  rw [zy_ig_eq, zy_fg_eq]
  refine zy_gx_congr _ (fun d hd => ?_) (fun _ _ _ => rfl)
  unfold zy_ip zy_fr
  rw [zy_tb_and e2, zy_tb_not (by omega) e1, hsm d]
  exact ⟨fun z => ⟨z.2.1.2.1, z.2.2.2, z.2.2.1, z.1.2⟩, fun z => ⟨⟨⟨by omega, z.1, z.2.2.1.1⟩, z.2.2.2⟩, ⟨by omega, z.1, z.2.2.1.1⟩, z.2.2.1, z.2.1⟩⟩
