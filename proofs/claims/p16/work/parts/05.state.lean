/-! ===== what lies where ===== -/
abbrev zz_Dr (E : zz_E) (a : Nat) : Prop := E.2.2.1 a = some (.inl (0, [none, none, none, none, none, none]))
abbrev zz_Pn (E : zz_E) (a : Nat) : Prop := E.2.2.1 a = some (.inl (1, [none, none]))
abbrev zz_Tx (E : zz_E) (a : Nat) : Prop := E.2.2.1 a = some (.inl (6, [none, none, some (.ref (a + 1)), some (.ref (a + 2))])) ∧ E.2.2.1 (a + 1) = some (.inr (0, 60, none)) ∧ E.2.2.1 (a + 2) = some (.inr (0, 60, none))
abbrev zz_Sh (E : zz_E) (a : Nat) : Prop := E.2.2.1 a = some (.inl (3, [none, none, some (.ref (a + 1))])) ∧ E.2.2.1 (a + 1) = some (.inr (0, 24, none))
abbrev zz_Si (E : zz_E) (a : Nat) : Prop := E.2.2.1 a = some (.inl (4, [none, none, none, none, none, some (.ref (a + 1)), some (.ref (a + 2)), some (.ref (a + 3))])) ∧ E.2.2.1 (a + 1) = some (.inr (0, 9, none)) ∧ E.2.2.1 (a + 2) = some (.inr (0, 10, none)) ∧ E.2.2.1 (a + 3) = some (.inr (0, 10, none))
abbrev zz_Sp (E : zz_E) (a : Nat) : Prop := E.2.2.1 a = some (.inl (5, [some (.ref (a + 1)), none, none, none, none, none])) ∧ E.2.2.1 (a + 1) = some (.inr (0, 30, none))
abbrev zz_Rd (E : zz_E) (a : Nat) : Prop := E.2.2.1 a = some (.inl (7, [none, none, some (.ref (a + 1)), some (.ref (a + 2)), none, none])) ∧ E.2.2.1 (a + 1) = some (.inr (0, 60, none)) ∧ E.2.2.1 (a + 2) = some (.inr (1, 60, none))
abbrev zz_R (E : zz_E) (a : Nat) : Prop := E.2.2.1 a = some (.inl (2, [none, none, none, some (.ref (a + 1)), none, some (.ref (a + 2)), none, some (.ref (a + 3)), some (.ref (a + 4)), none, some (.ref (a + 5)), none])) ∧ E.2.2.1 (a + 1) = some (.inr (2, 9, some (a + 6, 1))) ∧ E.2.2.1 (a + 2) = some (.inr (3, 6, some (a + 15, 1))) ∧ E.2.2.1 (a + 3) = some (.inr (4, 2, some (a + 21, 3))) ∧ E.2.2.1 (a + 4) = some (.inr (1, 60, none)) ∧ E.2.2.1 (a + 5) = some (.inr (0, 24, none)) ∧ (∀ j : Nat, j < 9 → zz_Dr E (a + 6 + 1 * j)) ∧ (∀ j : Nat, j < 6 → zz_Pn E (a + 15 + 1 * j)) ∧ (∀ j : Nat, j < 2 → zz_Tx E (a + 21 + 3 * j))
abbrev zz_L (E : zz_E) (a : Nat) : Prop := E.2.2.1 a = some (.inl (8, [some (.ref (a + 1)), some (.ref (a + 28)), none, some (.ref (a + 55)), some (.ref (a + 56)), some (.ref (a + 58)), some (.ref (a + 61)), some (.ref (a + 65)), some (.ref (a + 66)), some (.ref (a + 67))])) ∧ zz_R E (a + 1) ∧ zz_R E (a + 28) ∧ E.2.2.1 (a + 55) = some (.inr (5, 4, some (a + 68, 2))) ∧ (∀ j : Nat, j < 4 → zz_Sh E (a + 68 + 2 * j)) ∧ zz_Sp E (a + 56) ∧ zz_Rd E (a + 58) ∧ zz_Si E (a + 61) ∧ E.2.2.1 (a + 65) = some (.inr (0, 7, none)) ∧ E.2.2.1 (a + 66) = some (.inr (0, 10, none)) ∧ E.2.2.1 (a + 67) = some (.inr (0, 10, none))
abbrev zz_M (E : zz_E) (a : Nat) : Prop := E.2.2.1 a = some (.inl (9, [some (.ref (a + 1)), some (.ref (a + 2)), none, some (.ref (a + 3)), some (.ref (a + 4)), some (.ref (a + 5)), some (.ref (a + 6)), some (.ref (a + 7)), some (.ref (a + 8)), some (.ref (a + 9)), some (.ref (a + 10)), none, none, none, none, none, some (.ref (a + 11)), some (.ref (a + 12)), none, none])) ∧ E.2.2.1 (a + 1) = some (.inr (0, 399, none)) ∧ E.2.2.1 (a + 2) = some (.inr (0, 399, none)) ∧ E.2.2.1 (a + 3) = some (.inr (0, 7, none)) ∧ E.2.2.1 (a + 4) = some (.inr (0, 4, none)) ∧ E.2.2.1 (a + 5) = some (.inr (0, 4, none)) ∧ E.2.2.1 (a + 6) = some (.inr (0, 96, none)) ∧ E.2.2.1 (a + 7) = some (.inr (0, 60, none)) ∧ E.2.2.1 (a + 8) = some (.inr (0, 60, none)) ∧ E.2.2.1 (a + 9) = some (.inr (0, 3, none)) ∧ E.2.2.1 (a + 10) = some (.inr (0, 60, none)) ∧ E.2.2.1 (a + 11) = some (.inr (0, 2160, none)) ∧ E.2.2.1 (a + 12) = some (.inr (0, 30, none))
/-! ===== what a branch tells, in whole numbers ===== -/
theorem zz_eqT {x y : Int32} (h : x = y) : x.toInt = y.toInt := by rw [h]
theorem zz_neT {x y : Int32} (h : ¬ x = y) : ¬ x.toInt = y.toInt := fun q => h (Int32.toInt_inj.mp q)
theorem zz_ltT {x y : Int32} (h : x < y) : x.toInt < y.toInt := Int32.lt_iff_toInt_lt.mp h
theorem zz_leT {x y : Int32} (h : x ≤ y) : x.toInt ≤ y.toInt := Int32.le_iff_toInt_le.mp h
theorem zz_nltT {x y : Int32} (h : ¬ x < y) : y.toInt ≤ x.toInt := Int.not_lt.mp (fun q => h (Int32.lt_iff_toInt_lt.mpr q))
theorem zz_nleT {x y : Int32} (h : ¬ x ≤ y) : y.toInt < x.toInt := Int.not_le.mp (fun q => h (Int32.le_iff_toInt_le.mpr q))
theorem zz_ne0 {x : Int32} (h : ¬ x.toInt = 0) : ¬ x = 0 := fun q => h (by rw [q]; decide)
theorem zz_01 {v : Int32} (h : v.toInt = 0 ∨ v.toInt = 1) : v = 0 ∨ v = 1 := h.elim (fun q => Or.inl (zz_ext (by rw [q]; decide))) (fun q => Or.inr (zz_ext (by rw [q]; decide)))
theorem zz_nz {v : Int32} (h : v.toInt = 0 ∨ v.toInt = 1) : narrow .boolean (.int v) = .int v := by rcases zz_01 h with rfl | rfl <;> decide
theorem zz_fz {v : Int32} (h : v.toInt = 0 ∨ v.toInt = 1) : fits .boolean (.int v) = true := by rcases zz_01 h with rfl | rfl <;> decide
theorem zz_minT {v x y : Int32} (e : v = if y < x then y else x) : v.toInt ≤ x.toInt ∧ v.toInt ≤ y.toInt ∧ (v.toInt = x.toInt ∨ v.toInt = y.toInt) := by
  subst e
  by_cases h : y < x
  · rw [if_pos h]; have := zz_ltT h; omega
  · rw [if_neg h]; have := zz_nltT h; omega
theorem zz_maxT {v x y : Int32} (e : v = if x < y then y else x) : x.toInt ≤ v.toInt ∧ y.toInt ≤ v.toInt ∧ (v.toInt = x.toInt ∨ v.toInt = y.toInt) := by
  subst e
  by_cases h : x < y
  · rw [if_pos h]; have := zz_ltT h; omega
  · rw [if_neg h]; have := zz_nltT h; omega
theorem zz_divT {v x y : Int32} (c : Int) (e : v = x / y) (hc : y.toInt = c ∧ 0 < c) (hx : 0 ≤ x.toInt) : v.toInt = x.toInt / c := by
  obtain ⟨hy, h0⟩ := hc
  subst e
  have hr := zz_rng x
  rw [Int32.toInt_div, hy, Int.tdiv_eq_ediv_of_nonneg hx]
  have h1 : 0 ≤ x.toInt / c := Int.ediv_nonneg hx (by omega)
  have h2 : x.toInt / c ≤ x.toInt := Int.ediv_le_self _ hx
  exact Int.bmod_eq_of_le (by omega) (by omega)
theorem zz_remT {v x y : Int32} (c : Int) (e : v = x - x / y * y) (hc : y.toInt = c ∧ 0 < c) (hx : 0 ≤ x.toInt) : v.toInt = x.toInt % c := by
  have hd := zz_divT c (v := x / y) rfl hc hx
  obtain ⟨hy, h0⟩ := hc
  have hr := zz_rng x
  have h1 : 0 ≤ x.toInt / c := Int.ediv_nonneg hx (by omega)
  have h2 : x.toInt / c ≤ x.toInt := Int.ediv_le_self _ hx
  have h3 := Int.mul_ediv_add_emod x.toInt c
  have h4 := Int.emod_nonneg x.toInt (show c ≠ 0 by omega)
  have h5 := Int.emod_lt_of_pos x.toInt h0
  have h6 : (x / y * y).toInt = c * (x.toInt / c) := by
    rw [Int32.toInt_mul, hd, hy, Int.mul_comm]
    have h7 : 0 ≤ c * (x.toInt / c) := Int.mul_nonneg (by omega) h1
    exact Int.bmod_eq_of_le (by omega) (by omega)
  subst e
  rw [Int32.toInt_sub, h6]
  have h8 : 0 ≤ c * (x.toInt / c) := Int.mul_nonneg (by omega) h1
  have h7 : x.toInt - c * (x.toInt / c) = x.toInt % c := by omega
  rw [h7]
  exact Int.bmod_eq_of_le (by omega) (by omega)
/-! ===== what changed ===== -/
def zz_ch (S : Nat → Nat → Prop) (σ σ1 : zz_S) : Prop := ∀ a k : Nat, ¬ S a k → σ1 a k = σ a k
theorem zz_ch.rf {S : Nat → Nat → Prop} (σ : zz_S) : zz_ch S σ σ := fun _ _ _ => rfl
theorem zz_ch.tr {S : Nat → Nat → Prop} {σ σ1 σ2 : zz_S} (h1 : zz_ch S σ σ1) (h2 : zz_ch S σ1 σ2) : zz_ch S σ σ2 := fun a k h => (h2 a k h).trans (h1 a k h)
theorem zz_ch.mono {S S' : Nat → Nat → Prop} {σ σ1 : zz_S} (h : zz_ch S σ σ1) (hS : ∀ a k, S a k → S' a k) : zz_ch S' σ σ1 := fun a k h' => h a k (fun q => h' (hS a k q))
theorem zz_ch.u {S : Nat → Nat → Prop} {σ σ1 σ2 : zz_S} {a k : Nat} {v : Int32} (h : zz_ch S σ σ1) (e : σ2 = zz_u σ1 a k v) (hS : S a k) : zz_ch S σ σ2 := by
  subst e
  intro b j hb
  rw [zz_un (fun q => hb (by rw [q.1, q.2]; exact hS))]
  exact h b j hb
theorem zz_uT {σ σ1 : zz_S} {a k : Nat} {v : Int32} (e : σ1 = zz_u σ a k v) : (σ1 a k).toInt = v.toInt := by rw [e, zz_us]
theorem zk_m1000000006 : ((-1000000006) : Int32).toInt = -1000000006 := by decide +kernel
theorem zk_m1000000005 : ((-1000000005) : Int32).toInt = -1000000005 := by decide +kernel
theorem zk_m1000000004 : ((-1000000004) : Int32).toInt = -1000000004 := by decide +kernel
theorem zk_m1000000003 : ((-1000000003) : Int32).toInt = -1000000003 := by decide +kernel
theorem zk_m1000000002 : ((-1000000002) : Int32).toInt = -1000000002 := by decide +kernel
theorem zk_m1000000001 : ((-1000000001) : Int32).toInt = -1000000001 := by decide +kernel
theorem zk_m1000000000 : ((-1000000000) : Int32).toInt = -1000000000 := by decide +kernel
theorem zk_m1000 : ((-1000) : Int32).toInt = -1000 := by decide +kernel
theorem zk_m99 : ((-99) : Int32).toInt = -99 := by decide +kernel
theorem zk_m10 : ((-10) : Int32).toInt = -10 := by decide +kernel
theorem zk_m4 : ((-4) : Int32).toInt = -4 := by decide +kernel
theorem zk_m1 : ((-1) : Int32).toInt = -1 := by decide +kernel
theorem zk_0 : (0 : Int32).toInt = 0 := by decide +kernel
theorem zk_1 : (1 : Int32).toInt = 1 := by decide +kernel
theorem zk_2 : (2 : Int32).toInt = 2 := by decide +kernel
theorem zk_3 : (3 : Int32).toInt = 3 := by decide +kernel
theorem zk_4 : (4 : Int32).toInt = 4 := by decide +kernel
theorem zk_5 : (5 : Int32).toInt = 5 := by decide +kernel
theorem zk_6 : (6 : Int32).toInt = 6 := by decide +kernel
theorem zk_7 : (7 : Int32).toInt = 7 := by decide +kernel
theorem zk_8 : (8 : Int32).toInt = 8 := by decide +kernel
theorem zk_9 : (9 : Int32).toInt = 9 := by decide +kernel
theorem zk_10 : (10 : Int32).toInt = 10 := by decide +kernel
theorem zk_11 : (11 : Int32).toInt = 11 := by decide +kernel
theorem zk_12 : (12 : Int32).toInt = 12 := by decide +kernel
theorem zk_13 : (13 : Int32).toInt = 13 := by decide +kernel
theorem zk_14 : (14 : Int32).toInt = 14 := by decide +kernel
theorem zk_15 : (15 : Int32).toInt = 15 := by decide +kernel
theorem zk_16 : (16 : Int32).toInt = 16 := by decide +kernel
theorem zk_17 : (17 : Int32).toInt = 17 := by decide +kernel
theorem zk_18 : (18 : Int32).toInt = 18 := by decide +kernel
theorem zk_19 : (19 : Int32).toInt = 19 := by decide +kernel
theorem zk_20 : (20 : Int32).toInt = 20 := by decide +kernel
theorem zk_21 : (21 : Int32).toInt = 21 := by decide +kernel
theorem zk_22 : (22 : Int32).toInt = 22 := by decide +kernel
theorem zk_23 : (23 : Int32).toInt = 23 := by decide +kernel
theorem zk_24 : (24 : Int32).toInt = 24 := by decide +kernel
theorem zk_25 : (25 : Int32).toInt = 25 := by decide +kernel
theorem zk_26 : (26 : Int32).toInt = 26 := by decide +kernel
theorem zk_27 : (27 : Int32).toInt = 27 := by decide +kernel
theorem zk_28 : (28 : Int32).toInt = 28 := by decide +kernel
theorem zk_29 : (29 : Int32).toInt = 29 := by decide +kernel
theorem zk_30 : (30 : Int32).toInt = 30 := by decide +kernel
theorem zk_31 : (31 : Int32).toInt = 31 := by decide +kernel
theorem zk_32 : (32 : Int32).toInt = 32 := by decide +kernel
theorem zk_33 : (33 : Int32).toInt = 33 := by decide +kernel
theorem zk_34 : (34 : Int32).toInt = 34 := by decide +kernel
theorem zk_35 : (35 : Int32).toInt = 35 := by decide +kernel
theorem zk_37 : (37 : Int32).toInt = 37 := by decide +kernel
theorem zk_38 : (38 : Int32).toInt = 38 := by decide +kernel
theorem zk_39 : (39 : Int32).toInt = 39 := by decide +kernel
theorem zk_40 : (40 : Int32).toInt = 40 := by decide +kernel
theorem zk_41 : (41 : Int32).toInt = 41 := by decide +kernel
theorem zk_42 : (42 : Int32).toInt = 42 := by decide +kernel
theorem zk_43 : (43 : Int32).toInt = 43 := by decide +kernel
theorem zk_45 : (45 : Int32).toInt = 45 := by decide +kernel
theorem zk_47 : (47 : Int32).toInt = 47 := by decide +kernel
theorem zk_48 : (48 : Int32).toInt = 48 := by decide +kernel
theorem zk_50 : (50 : Int32).toInt = 50 := by decide +kernel
theorem zk_51 : (51 : Int32).toInt = 51 := by decide +kernel
theorem zk_52 : (52 : Int32).toInt = 52 := by decide +kernel
theorem zk_53 : (53 : Int32).toInt = 53 := by decide +kernel
theorem zk_54 : (54 : Int32).toInt = 54 := by decide +kernel
theorem zk_57 : (57 : Int32).toInt = 57 := by decide +kernel
theorem zk_59 : (59 : Int32).toInt = 59 := by decide +kernel
theorem zk_60 : (60 : Int32).toInt = 60 := by decide +kernel
theorem zk_61 : (61 : Int32).toInt = 61 := by decide +kernel
theorem zk_62 : (62 : Int32).toInt = 62 := by decide +kernel
theorem zk_69 : (69 : Int32).toInt = 69 := by decide +kernel
theorem zk_70 : (70 : Int32).toInt = 70 := by decide +kernel
theorem zk_71 : (71 : Int32).toInt = 71 := by decide +kernel
theorem zk_73 : (73 : Int32).toInt = 73 := by decide +kernel
theorem zk_78 : (78 : Int32).toInt = 78 := by decide +kernel
theorem zk_79 : (79 : Int32).toInt = 79 := by decide +kernel
theorem zk_96 : (96 : Int32).toInt = 96 := by decide +kernel
theorem zk_97 : (97 : Int32).toInt = 97 := by decide +kernel
theorem zk_99 : (99 : Int32).toInt = 99 := by decide +kernel
theorem zk_100 : (100 : Int32).toInt = 100 := by decide +kernel
theorem zk_101 : (101 : Int32).toInt = 101 := by decide +kernel
theorem zk_102 : (102 : Int32).toInt = 102 := by decide +kernel
theorem zk_103 : (103 : Int32).toInt = 103 := by decide +kernel
theorem zk_104 : (104 : Int32).toInt = 104 := by decide +kernel
theorem zk_105 : (105 : Int32).toInt = 105 := by decide +kernel
theorem zk_107 : (107 : Int32).toInt = 107 := by decide +kernel
theorem zk_108 : (108 : Int32).toInt = 108 := by decide +kernel
theorem zk_109 : (109 : Int32).toInt = 109 := by decide +kernel
theorem zk_110 : (110 : Int32).toInt = 110 := by decide +kernel
theorem zk_115 : (115 : Int32).toInt = 115 := by decide +kernel
theorem zk_116 : (116 : Int32).toInt = 116 := by decide +kernel
theorem zk_117 : (117 : Int32).toInt = 117 := by decide +kernel
theorem zk_119 : (119 : Int32).toInt = 119 := by decide +kernel
theorem zk_120 : (120 : Int32).toInt = 120 := by decide +kernel
theorem zk_121 : (121 : Int32).toInt = 121 := by decide +kernel
theorem zk_124 : (124 : Int32).toInt = 124 := by decide +kernel
theorem zk_133 : (133 : Int32).toInt = 133 := by decide +kernel
theorem zk_150 : (150 : Int32).toInt = 150 := by decide +kernel
theorem zk_157 : (157 : Int32).toInt = 157 := by decide +kernel
theorem zk_240 : (240 : Int32).toInt = 240 := by decide +kernel
theorem zk_255 : (255 : Int32).toInt = 255 := by decide +kernel
theorem zk_399 : (399 : Int32).toInt = 399 := by decide +kernel
theorem zk_1000 : (1000 : Int32).toInt = 1000 := by decide +kernel
theorem zk_1023 : (1023 : Int32).toInt = 1023 := by decide +kernel
theorem zk_2160 : (2160 : Int32).toInt = 2160 := by decide +kernel
theorem zk_9999 : (9999 : Int32).toInt = 9999 := by decide +kernel
theorem zk_10000 : (10000 : Int32).toInt = 10000 := by decide +kernel
theorem zk_12345 : (12345 : Int32).toInt = 12345 := by decide +kernel
theorem zk_20000 : (20000 : Int32).toInt = 20000 := by decide +kernel
theorem zk_20033 : (20033 : Int32).toInt = 20033 := by decide +kernel
theorem zk_1103515245 : (1103515245 : Int32).toInt = 1103515245 := by decide +kernel
theorem zz_vAr (j : Nat) : -1 ≤ (zz_vA j).toInt ∧ (zz_vA j).toInt ≤ 2 := by
  by_cases h : j < 7
  · have h2 : ∀ j, j < 7 → -1 ≤ (zz_vA j).toInt ∧ (zz_vA j).toInt ≤ 2 := by decide +kernel
    exact h2 j h
  · have h3 : zz_vA j = 0 := by
      unfold zz_vA
      rw [List.getD_eq_getElem?_getD, List.getElem?_eq_none (by simp; omega)]
      rfl
    rw [h3]
    decide
theorem zz_ch.cp {S : Nat → Nat → Prop} {σ σ1 σ2 : zz_S} {a0 a sp dp n : Nat} (h : zz_ch S σ σ1) (e : σ2 = zz_cp σ1 a0 a sp dp n) (hS : ∀ k, S a k) : zz_ch S σ σ2 := by
  subst e
  intro b j hb
  rw [zz_cpb (fun q => hb (by rw [q]; exact hS j))]
  exact h b j hb
/-- a room by its rank (recursion) -/
def zz_rm (n : Nat) : Room := { frames := 10 + n, cells := 0, slots := 0, locals := 300 + 60 * n }
def zz_z (v : Int32) : Int32 := v * 1103515245 + 12345
