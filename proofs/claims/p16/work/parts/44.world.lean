/-! ===== the world behind the constructors ===== -/
theorem zz_cellq {c : ClassId} {n : Nat} {f g : Nat → Option Nat} (h : ∀ j : Nat, j < n → f j = g j) : vp_cell c (n, .inr (.inr (.inr (.inr f)))) = vp_cell c (n, .inr (.inr (.inr (.inr g)))) := by
  rw [vp_cell_q, vp_cell_q]
  unfold arrV
  congr 2
  funext j
  show va_rf (f j.val) = va_rf (g j.val)
  rw [h j.val j.isLt]
/-- the ints of a cell -/
def zz_sg (en : va_E) (k : Nat) : Int32 := match en with
  | .inl (_, _, .inl f) => f k
  | .inl _ => 0
  | .inr (_, fs) => match fs[k]? with
    | some (.int v) => v
    | _ => 0
def zz_tab (x : Nat) : List zz_K := [.inl (8, [some (.ref (x + 1)), some (.ref (x + 28)), none, some (.ref (x + 55)), some (.ref (x + 56)), some (.ref (x + 58)), some (.ref (x + 61)), some (.ref (x + 65)), some (.ref (x + 66)), some (.ref (x + 67))]), .inl (2, [none, none, none, some (.ref (x + 1 + 1)), none, some (.ref (x + 1 + 2)), none, some (.ref (x + 1 + 3)), some (.ref (x + 1 + 4)), none, some (.ref (x + 1 + 5)), none]), .inr (2, 9, some (x + 1 + 6, 1)), .inr (3, 6, some (x + 1 + 15, 1)), .inr (4, 2, some (x + 1 + 21, 3)), .inr (1, 60, none), .inr (0, 24, none), .inl (0, [none, none, none, none, none, none]), .inl (0, [none, none, none, none, none, none]), .inl (0, [none, none, none, none, none, none]), .inl (0, [none, none, none, none, none, none]), .inl (0, [none, none, none, none, none, none]), .inl (0, [none, none, none, none, none, none]), .inl (0, [none, none, none, none, none, none]), .inl (0, [none, none, none, none, none, none]), .inl (0, [none, none, none, none, none, none]), .inl (1, [none, none]), .inl (1, [none, none]), .inl (1, [none, none]), .inl (1, [none, none]), .inl (1, [none, none]), .inl (1, [none, none]), .inl (6, [none, none, some (.ref (x + 1 + 21 + 3 * 0 + 1)), some (.ref (x + 1 + 21 + 3 * 0 + 2))]), .inr (0, 60, none), .inr (0, 60, none), .inl (6, [none, none, some (.ref (x + 1 + 21 + 3 * 1 + 1)), some (.ref (x + 1 + 21 + 3 * 1 + 2))]), .inr (0, 60, none), .inr (0, 60, none), .inl (2, [none, none, none, some (.ref (x + 28 + 1)), none, some (.ref (x + 28 + 2)), none, some (.ref (x + 28 + 3)), some (.ref (x + 28 + 4)), none, some (.ref (x + 28 + 5)), none]), .inr (2, 9, some (x + 28 + 6, 1)), .inr (3, 6, some (x + 28 + 15, 1)), .inr (4, 2, some (x + 28 + 21, 3)), .inr (1, 60, none), .inr (0, 24, none), .inl (0, [none, none, none, none, none, none]), .inl (0, [none, none, none, none, none, none]), .inl (0, [none, none, none, none, none, none]), .inl (0, [none, none, none, none, none, none]), .inl (0, [none, none, none, none, none, none]), .inl (0, [none, none, none, none, none, none]), .inl (0, [none, none, none, none, none, none]), .inl (0, [none, none, none, none, none, none]), .inl (0, [none, none, none, none, none, none]), .inl (1, [none, none]), .inl (1, [none, none]), .inl (1, [none, none]), .inl (1, [none, none]), .inl (1, [none, none]), .inl (1, [none, none]), .inl (6, [none, none, some (.ref (x + 28 + 21 + 3 * 0 + 1)), some (.ref (x + 28 + 21 + 3 * 0 + 2))]), .inr (0, 60, none), .inr (0, 60, none), .inl (6, [none, none, some (.ref (x + 28 + 21 + 3 * 1 + 1)), some (.ref (x + 28 + 21 + 3 * 1 + 2))]), .inr (0, 60, none), .inr (0, 60, none), .inr (5, 4, some (x + 68, 2)), .inl (5, [some (.ref (x + 56 + 1)), none, none, none, none, none]), .inr (0, 30, none), .inl (7, [none, none, some (.ref (x + 58 + 1)), some (.ref (x + 58 + 2)), none, none]), .inr (0, 60, none), .inr (1, 60, none), .inl (4, [none, none, none, none, none, some (.ref (x + 61 + 1)), some (.ref (x + 61 + 2)), some (.ref (x + 61 + 3))]), .inr (0, 9, none), .inr (0, 10, none), .inr (0, 10, none), .inr (0, 7, none), .inr (0, 10, none), .inr (0, 10, none), .inl (3, [none, none, some (.ref (x + 68 + 2 * 0 + 1))]), .inr (0, 24, none), .inl (3, [none, none, some (.ref (x + 68 + 2 * 1 + 1))]), .inr (0, 24, none), .inl (3, [none, none, some (.ref (x + 68 + 2 * 2 + 1))]), .inr (0, 24, none), .inl (3, [none, none, some (.ref (x + 68 + 2 * 3 + 1))]), .inr (0, 24, none), .inl (9, [some (.ref (x + 76 + 1)), some (.ref (x + 76 + 2)), none, some (.ref (x + 76 + 3)), some (.ref (x + 76 + 4)), some (.ref (x + 76 + 5)), some (.ref (x + 76 + 6)), some (.ref (x + 76 + 7)), some (.ref (x + 76 + 8)), some (.ref (x + 76 + 9)), some (.ref (x + 76 + 10)), none, none, none, none, none, some (.ref (x + 76 + 11)), some (.ref (x + 76 + 12)), none, none]), .inr (0, 399, none), .inr (0, 399, none), .inr (0, 7, none), .inr (0, 4, none), .inr (0, 4, none), .inr (0, 96, none), .inr (0, 60, none), .inr (0, 60, none), .inr (0, 3, none), .inr (0, 60, none), .inr (0, 2160, none), .inr (0, 30, none)]
def zz_lay (x : Nat) : Nat → Option zz_K := fun a => if a < x then none else (zz_tab x)[a - x]?
theorem zz_lay_at (x i : Nat) : zz_lay x (x + i) = (zz_tab x)[i]? := by
  unfold zz_lay
  rw [if_neg (by omega), Nat.add_sub_cancel_left]
theorem zz_lay_eq {x a i : Nat} {k : zz_K} (h : a = x + i) (e : (zz_tab x)[i]? = some k) : zz_lay x a = some k := by
  subst h
  rw [zz_lay_at]
  exact e
theorem zz_tab_len (x : Nat) : (zz_tab x).length = 89 := rfl
theorem zz_lay_lt {x a : Nat} (h : zz_lay x a ≠ none) : x ≤ a ∧ a < x + 89 := by
  unfold zz_lay at h
  by_cases q : a < x
  · rw [if_pos q] at h
    exact absurd rfl h
  · rw [if_neg q] at h
    refine ⟨by omega, ?_⟩
    rcases Nat.lt_or_ge (a - x) 89 with q2 | q2
    · omega
    · exact absurd (List.getElem?_eq_none (by rw [zz_tab_len]; exact q2)) h
/-- every entry of a list, by its place -/
def zz_all (P : Nat → zz_K → Prop) : List zz_K → Nat → Prop
  | [], _ => True
  | k :: t, i => P i k ∧ zz_all P t (i + 1)
theorem zz_all_get {P : Nat → zz_K → Prop} : ∀ (t : List zz_K) (i j : Nat) (k : zz_K), zz_all P t i → t[j]? = some k → P (i + j) k
  | [], i, j, k, _, h => by simp at h
  | q :: t, i, 0, k, h, e => by
    cases e
    exact h.1
  | q :: t, i, j + 1, k, h, e => by
    rw [show i + (j + 1) = i + 1 + j from by omega]
    exact zz_all_get t (i + 1) j k h.2 e
def zz_Qw (D : va_G) (cy : Nat → ClassId) (G : Nat → va_E) (x : Nat) (H : Heap) (i : Nat) (k : zz_K) : Prop := va_at D vwCl (x + i, zz_ce cy k (zz_sg (G (x + i)))) H
theorem zz_Qi {D : va_G} {cy : Nat → ClassId} {G : Nat → va_E} {b x z i a : Nat} {H : Heap} {k : zz_K} {en : va_E} (hP : kb_P D b G z H) (hb : b ≤ x) (hi : x + i < z) (ha : a = x + i) (hG : G a = en) (he : zz_ce cy k (zz_sg en) = en) : zz_Qw D cy G x H i k := by
  subst ha
  have h := hP.2.2 (x + i) (by omega) hi
  unfold zz_Qw
  rw [hG] at h ⊢
  rw [he]
  exact h
theorem zz_Qq {D : va_G} {cy : Nat → ClassId} {G : Nat → va_E} {b x z i a t n : Nat} {H : Heap} {g : Nat × Nat} {f : Nat → Option Nat} (hP : kb_P D b G z H) (hb : b ≤ x) (hi : x + i < z) (ha : a = x + i) (hG : G a = .inl (cy t, n, .inr (.inr (.inr (.inr f))))) (hf : ∀ j : Nat, j < n → f j = some (g.1 + g.2 * j)) : zz_Qw D cy G x H i (.inr (t, n, some g)) := by
  subst ha
  have h := hP.2.2 (x + i) (by omega) hi
  rw [hG] at h
  have h2 : H[x + i]? = some (vp_cell (cy t) (n, .inr (.inr (.inr (.inr f))))) := h
  rw [zz_cellq hf] at h2
  exact h2
/-- the reference's cells from z on, its object at h -/
def kb_M (cy : Nat → ClassId) (G : Nat → va_E) (h z : Nat) : Prop := G h = .inr (9, [.ref z, .ref (z + 1), .int 0, .ref (z + 2), .ref (z + 3), .ref (z + 4), .ref (z + 5), .ref (z + 6), .ref (z + 7), .ref (z + 8), .ref (z + 9), .int 0, .int 0, .int 0, .int 0, .int 0, .ref (z + 10), .ref (z + 11), .int 0, .int 0]) ∧ G z = .inl (cy 0, 399, .inl (upd (upd (fun _ => 0) 1 1) 4 22)) ∧ G (z + 1) = .inl (cy 0, 399, .inl (fun _ => 0)) ∧ G (z + 2) = .inl (cy 0, 7, .inl (fun _ => 0)) ∧ G (z + 3) = .inl (cy 0, 4, .inl (fun _ => 0)) ∧ G (z + 4) = .inl (cy 0, 4, .inl (fun _ => 0)) ∧ G (z + 5) = .inl (cy 0, 96, .inl (fun _ => 0)) ∧ G (z + 6) = .inl (cy 0, 60, .inl (fun _ => 0)) ∧ G (z + 7) = .inl (cy 0, 60, .inl (fun _ => 0)) ∧ G (z + 8) = .inl (cy 0, 3, .inl (fun _ => 0)) ∧ G (z + 9) = .inl (cy 0, 60, .inl (fun _ => 0)) ∧ G (z + 10) = .inl (cy 0, 2160, .inl (fun _ => 0)) ∧ G (z + 11) = .inl (cy 0, 30, .inl (fun _ => 0))
set_option maxHeartbeats 4000000 in
set_option maxRecDepth 20000 in
theorem zz_start_P {D : va_G} {cy : Nat → ClassId} {G : Nat → va_E} {b x : Nat} {H : Heap} {st : Nat → Nat} (hP : kb_P D b G (x + 89) H) (hb : b ≤ x) (hL : kb_L cy G x (x + 1)) (hM : kb_M cy G (x + 76) (x + 77)) : zz_P (D, cy, zz_lay x, st) (fun a => zz_sg (G a)) H := by
  obtain ⟨l0, ⟨r0, ⟨rf1, ra1, rb1⟩, ⟨rf2, ra2, rb2⟩, ⟨rf3, ra3, rb3⟩, r4, r5, rd, rp, rt⟩, ⟨s0, ⟨sf1, sa1, sb1⟩, ⟨sf2, sa2, sb2⟩, ⟨sf3, sa3, sb3⟩, s4, s5, sd, sp, st2⟩, ⟨lf, la, lb⟩, lsh, ⟨lk0, lk1⟩, ⟨lr0, lr1, lr2⟩, ⟨lg0, lg1, lg2, lg3⟩, l64, l65, l66⟩ := hL
  obtain ⟨m0, m1, m2, m3, m4, m5, m6, m7, m8, m9, m10, m11, m12⟩ := hM
  have q0 : zz_Qw D cy G x H 0 (.inl (8, [some (.ref (x + 1)), some (.ref (x + 28)), none, some (.ref (x + 55)), some (.ref (x + 56)), some (.ref (x + 58)), some (.ref (x + 61)), some (.ref (x + 65)), some (.ref (x + 66)), some (.ref (x + 67))])) := zz_Qi hP hb (by omega) (by omega) l0 rfl
  have q1 : zz_Qw D cy G x H 1 (.inl (2, [none, none, none, some (.ref (x + 1 + 1)), none, some (.ref (x + 1 + 2)), none, some (.ref (x + 1 + 3)), some (.ref (x + 1 + 4)), none, some (.ref (x + 1 + 5)), none])) := zz_Qi hP hb (by omega) (by omega) r0 rfl
  have q2 : zz_Qw D cy G x H 2 (.inr (2, 9, some (x + 1 + 6, 1))) := zz_Qq hP hb (by omega) (by omega) ra1 (fun j hj => (rb1 j hj).trans (congrArg some (by show x + 1 + 1 + 5 + j = x + 1 + 6 + 1 * j; omega)))
  have q3 : zz_Qw D cy G x H 3 (.inr (3, 6, some (x + 1 + 15, 1))) := zz_Qq hP hb (by omega) (by omega) ra2 (fun j hj => (rb2 j hj).trans (congrArg some (by show x + 1 + 1 + 14 + j = x + 1 + 15 + 1 * j; omega)))
  have q4 : zz_Qw D cy G x H 4 (.inr (4, 2, some (x + 1 + 21, 3))) := zz_Qq hP hb (by omega) (by omega) ra3 (fun j hj => (rb3 j hj).trans (congrArg some (by show x + 1 + 1 + 20 + 3 * j = x + 1 + 21 + 3 * j; omega)))
  have q5 : zz_Qw D cy G x H 5 (.inr (1, 60, none)) := zz_Qi hP hb (by omega) (by omega) r4 rfl
  have q6 : zz_Qw D cy G x H 6 (.inr (0, 24, none)) := zz_Qi hP hb (by omega) (by omega) r5 rfl
  have q7 : zz_Qw D cy G x H 7 (.inl (0, [none, none, none, none, none, none])) := zz_Qi hP hb (by omega) (by omega) (rd 0 (by omega)) rfl
  have q8 : zz_Qw D cy G x H 8 (.inl (0, [none, none, none, none, none, none])) := zz_Qi hP hb (by omega) (by omega) (rd 1 (by omega)) rfl
  have q9 : zz_Qw D cy G x H 9 (.inl (0, [none, none, none, none, none, none])) := zz_Qi hP hb (by omega) (by omega) (rd 2 (by omega)) rfl
  have q10 : zz_Qw D cy G x H 10 (.inl (0, [none, none, none, none, none, none])) := zz_Qi hP hb (by omega) (by omega) (rd 3 (by omega)) rfl
  have q11 : zz_Qw D cy G x H 11 (.inl (0, [none, none, none, none, none, none])) := zz_Qi hP hb (by omega) (by omega) (rd 4 (by omega)) rfl
  have q12 : zz_Qw D cy G x H 12 (.inl (0, [none, none, none, none, none, none])) := zz_Qi hP hb (by omega) (by omega) (rd 5 (by omega)) rfl
  have q13 : zz_Qw D cy G x H 13 (.inl (0, [none, none, none, none, none, none])) := zz_Qi hP hb (by omega) (by omega) (rd 6 (by omega)) rfl
  have q14 : zz_Qw D cy G x H 14 (.inl (0, [none, none, none, none, none, none])) := zz_Qi hP hb (by omega) (by omega) (rd 7 (by omega)) rfl
  have q15 : zz_Qw D cy G x H 15 (.inl (0, [none, none, none, none, none, none])) := zz_Qi hP hb (by omega) (by omega) (rd 8 (by omega)) rfl
  have q16 : zz_Qw D cy G x H 16 (.inl (1, [none, none])) := zz_Qi hP hb (by omega) (by omega) (rp 0 (by omega)) rfl
  have q17 : zz_Qw D cy G x H 17 (.inl (1, [none, none])) := zz_Qi hP hb (by omega) (by omega) (rp 1 (by omega)) rfl
  have q18 : zz_Qw D cy G x H 18 (.inl (1, [none, none])) := zz_Qi hP hb (by omega) (by omega) (rp 2 (by omega)) rfl
  have q19 : zz_Qw D cy G x H 19 (.inl (1, [none, none])) := zz_Qi hP hb (by omega) (by omega) (rp 3 (by omega)) rfl
  have q20 : zz_Qw D cy G x H 20 (.inl (1, [none, none])) := zz_Qi hP hb (by omega) (by omega) (rp 4 (by omega)) rfl
  have q21 : zz_Qw D cy G x H 21 (.inl (1, [none, none])) := zz_Qi hP hb (by omega) (by omega) (rp 5 (by omega)) rfl
  have q22 : zz_Qw D cy G x H 22 (.inl (6, [none, none, some (.ref (x + 1 + 21 + 3 * 0 + 1)), some (.ref (x + 1 + 21 + 3 * 0 + 2))])) := zz_Qi hP hb (by omega) (by omega) (rt 0 (by omega)).1 rfl
  have q23 : zz_Qw D cy G x H 23 (.inr (0, 60, none)) := zz_Qi hP hb (by omega) (by omega) (rt 0 (by omega)).2.1 rfl
  have q24 : zz_Qw D cy G x H 24 (.inr (0, 60, none)) := zz_Qi hP hb (by omega) (by omega) (rt 0 (by omega)).2.2 rfl
  have q25 : zz_Qw D cy G x H 25 (.inl (6, [none, none, some (.ref (x + 1 + 21 + 3 * 1 + 1)), some (.ref (x + 1 + 21 + 3 * 1 + 2))])) := zz_Qi hP hb (by omega) (by omega) (rt 1 (by omega)).1 rfl
  have q26 : zz_Qw D cy G x H 26 (.inr (0, 60, none)) := zz_Qi hP hb (by omega) (by omega) (rt 1 (by omega)).2.1 rfl
  have q27 : zz_Qw D cy G x H 27 (.inr (0, 60, none)) := zz_Qi hP hb (by omega) (by omega) (rt 1 (by omega)).2.2 rfl
  have q28 : zz_Qw D cy G x H 28 (.inl (2, [none, none, none, some (.ref (x + 28 + 1)), none, some (.ref (x + 28 + 2)), none, some (.ref (x + 28 + 3)), some (.ref (x + 28 + 4)), none, some (.ref (x + 28 + 5)), none])) := zz_Qi hP hb (by omega) (by omega) s0 rfl
  have q29 : zz_Qw D cy G x H 29 (.inr (2, 9, some (x + 28 + 6, 1))) := zz_Qq hP hb (by omega) (by omega) sa1 (fun j hj => (sb1 j hj).trans (congrArg some (by show x + 1 + 27 + 1 + 5 + j = x + 1 + 27 + 6 + 1 * j; omega)))
  have q30 : zz_Qw D cy G x H 30 (.inr (3, 6, some (x + 28 + 15, 1))) := zz_Qq hP hb (by omega) (by omega) sa2 (fun j hj => (sb2 j hj).trans (congrArg some (by show x + 1 + 27 + 1 + 14 + j = x + 1 + 27 + 15 + 1 * j; omega)))
  have q31 : zz_Qw D cy G x H 31 (.inr (4, 2, some (x + 28 + 21, 3))) := zz_Qq hP hb (by omega) (by omega) sa3 (fun j hj => (sb3 j hj).trans (congrArg some (by show x + 1 + 27 + 1 + 20 + 3 * j = x + 1 + 27 + 21 + 3 * j; omega)))
  have q32 : zz_Qw D cy G x H 32 (.inr (1, 60, none)) := zz_Qi hP hb (by omega) (by omega) s4 rfl
  have q33 : zz_Qw D cy G x H 33 (.inr (0, 24, none)) := zz_Qi hP hb (by omega) (by omega) s5 rfl
  have q34 : zz_Qw D cy G x H 34 (.inl (0, [none, none, none, none, none, none])) := zz_Qi hP hb (by omega) (by omega) (sd 0 (by omega)) rfl
  have q35 : zz_Qw D cy G x H 35 (.inl (0, [none, none, none, none, none, none])) := zz_Qi hP hb (by omega) (by omega) (sd 1 (by omega)) rfl
  have q36 : zz_Qw D cy G x H 36 (.inl (0, [none, none, none, none, none, none])) := zz_Qi hP hb (by omega) (by omega) (sd 2 (by omega)) rfl
  have q37 : zz_Qw D cy G x H 37 (.inl (0, [none, none, none, none, none, none])) := zz_Qi hP hb (by omega) (by omega) (sd 3 (by omega)) rfl
  have q38 : zz_Qw D cy G x H 38 (.inl (0, [none, none, none, none, none, none])) := zz_Qi hP hb (by omega) (by omega) (sd 4 (by omega)) rfl
  have q39 : zz_Qw D cy G x H 39 (.inl (0, [none, none, none, none, none, none])) := zz_Qi hP hb (by omega) (by omega) (sd 5 (by omega)) rfl
  have q40 : zz_Qw D cy G x H 40 (.inl (0, [none, none, none, none, none, none])) := zz_Qi hP hb (by omega) (by omega) (sd 6 (by omega)) rfl
  have q41 : zz_Qw D cy G x H 41 (.inl (0, [none, none, none, none, none, none])) := zz_Qi hP hb (by omega) (by omega) (sd 7 (by omega)) rfl
  have q42 : zz_Qw D cy G x H 42 (.inl (0, [none, none, none, none, none, none])) := zz_Qi hP hb (by omega) (by omega) (sd 8 (by omega)) rfl
  have q43 : zz_Qw D cy G x H 43 (.inl (1, [none, none])) := zz_Qi hP hb (by omega) (by omega) (sp 0 (by omega)) rfl
  have q44 : zz_Qw D cy G x H 44 (.inl (1, [none, none])) := zz_Qi hP hb (by omega) (by omega) (sp 1 (by omega)) rfl
  have q45 : zz_Qw D cy G x H 45 (.inl (1, [none, none])) := zz_Qi hP hb (by omega) (by omega) (sp 2 (by omega)) rfl
  have q46 : zz_Qw D cy G x H 46 (.inl (1, [none, none])) := zz_Qi hP hb (by omega) (by omega) (sp 3 (by omega)) rfl
  have q47 : zz_Qw D cy G x H 47 (.inl (1, [none, none])) := zz_Qi hP hb (by omega) (by omega) (sp 4 (by omega)) rfl
  have q48 : zz_Qw D cy G x H 48 (.inl (1, [none, none])) := zz_Qi hP hb (by omega) (by omega) (sp 5 (by omega)) rfl
  have q49 : zz_Qw D cy G x H 49 (.inl (6, [none, none, some (.ref (x + 28 + 21 + 3 * 0 + 1)), some (.ref (x + 28 + 21 + 3 * 0 + 2))])) := zz_Qi hP hb (by omega) (by omega) (st2 0 (by omega)).1 rfl
  have q50 : zz_Qw D cy G x H 50 (.inr (0, 60, none)) := zz_Qi hP hb (by omega) (by omega) (st2 0 (by omega)).2.1 rfl
  have q51 : zz_Qw D cy G x H 51 (.inr (0, 60, none)) := zz_Qi hP hb (by omega) (by omega) (st2 0 (by omega)).2.2 rfl
  have q52 : zz_Qw D cy G x H 52 (.inl (6, [none, none, some (.ref (x + 28 + 21 + 3 * 1 + 1)), some (.ref (x + 28 + 21 + 3 * 1 + 2))])) := zz_Qi hP hb (by omega) (by omega) (st2 1 (by omega)).1 rfl
  have q53 : zz_Qw D cy G x H 53 (.inr (0, 60, none)) := zz_Qi hP hb (by omega) (by omega) (st2 1 (by omega)).2.1 rfl
  have q54 : zz_Qw D cy G x H 54 (.inr (0, 60, none)) := zz_Qi hP hb (by omega) (by omega) (st2 1 (by omega)).2.2 rfl
  have q55 : zz_Qw D cy G x H 55 (.inr (5, 4, some (x + 68, 2))) := zz_Qq hP hb (by omega) (by omega) la (fun j hj => (lb j hj).trans (congrArg some (by show x + 1 + 67 + 2 * j = x + 68 + 2 * j; omega)))
  have q56 : zz_Qw D cy G x H 56 (.inl (5, [some (.ref (x + 56 + 1)), none, none, none, none, none])) := zz_Qi hP hb (by omega) (by omega) lk0 rfl
  have q57 : zz_Qw D cy G x H 57 (.inr (0, 30, none)) := zz_Qi hP hb (by omega) (by omega) lk1 rfl
  have q58 : zz_Qw D cy G x H 58 (.inl (7, [none, none, some (.ref (x + 58 + 1)), some (.ref (x + 58 + 2)), none, none])) := zz_Qi hP hb (by omega) (by omega) lr0 rfl
  have q59 : zz_Qw D cy G x H 59 (.inr (0, 60, none)) := zz_Qi hP hb (by omega) (by omega) lr1 rfl
  have q60 : zz_Qw D cy G x H 60 (.inr (1, 60, none)) := zz_Qi hP hb (by omega) (by omega) lr2 rfl
  have q61 : zz_Qw D cy G x H 61 (.inl (4, [none, none, none, none, none, some (.ref (x + 61 + 1)), some (.ref (x + 61 + 2)), some (.ref (x + 61 + 3))])) := zz_Qi hP hb (by omega) (by omega) lg0 rfl
  have q62 : zz_Qw D cy G x H 62 (.inr (0, 9, none)) := zz_Qi hP hb (by omega) (by omega) lg1 rfl
  have q63 : zz_Qw D cy G x H 63 (.inr (0, 10, none)) := zz_Qi hP hb (by omega) (by omega) lg2 rfl
  have q64 : zz_Qw D cy G x H 64 (.inr (0, 10, none)) := zz_Qi hP hb (by omega) (by omega) lg3 rfl
  have q65 : zz_Qw D cy G x H 65 (.inr (0, 7, none)) := zz_Qi hP hb (by omega) (by omega) l64 rfl
  have q66 : zz_Qw D cy G x H 66 (.inr (0, 10, none)) := zz_Qi hP hb (by omega) (by omega) l65 rfl
  have q67 : zz_Qw D cy G x H 67 (.inr (0, 10, none)) := zz_Qi hP hb (by omega) (by omega) l66 rfl
  have q68 : zz_Qw D cy G x H 68 (.inl (3, [none, none, some (.ref (x + 68 + 2 * 0 + 1))])) := zz_Qi hP hb (by omega) (by omega) (lsh 0 (by omega)).1 rfl
  have q69 : zz_Qw D cy G x H 69 (.inr (0, 24, none)) := zz_Qi hP hb (by omega) (by omega) (lsh 0 (by omega)).2 rfl
  have q70 : zz_Qw D cy G x H 70 (.inl (3, [none, none, some (.ref (x + 68 + 2 * 1 + 1))])) := zz_Qi hP hb (by omega) (by omega) (lsh 1 (by omega)).1 rfl
  have q71 : zz_Qw D cy G x H 71 (.inr (0, 24, none)) := zz_Qi hP hb (by omega) (by omega) (lsh 1 (by omega)).2 rfl
  have q72 : zz_Qw D cy G x H 72 (.inl (3, [none, none, some (.ref (x + 68 + 2 * 2 + 1))])) := zz_Qi hP hb (by omega) (by omega) (lsh 2 (by omega)).1 rfl
  have q73 : zz_Qw D cy G x H 73 (.inr (0, 24, none)) := zz_Qi hP hb (by omega) (by omega) (lsh 2 (by omega)).2 rfl
  have q74 : zz_Qw D cy G x H 74 (.inl (3, [none, none, some (.ref (x + 68 + 2 * 3 + 1))])) := zz_Qi hP hb (by omega) (by omega) (lsh 3 (by omega)).1 rfl
  have q75 : zz_Qw D cy G x H 75 (.inr (0, 24, none)) := zz_Qi hP hb (by omega) (by omega) (lsh 3 (by omega)).2 rfl
  have q76 : zz_Qw D cy G x H 76 (.inl (9, [some (.ref (x + 76 + 1)), some (.ref (x + 76 + 2)), none, some (.ref (x + 76 + 3)), some (.ref (x + 76 + 4)), some (.ref (x + 76 + 5)), some (.ref (x + 76 + 6)), some (.ref (x + 76 + 7)), some (.ref (x + 76 + 8)), some (.ref (x + 76 + 9)), some (.ref (x + 76 + 10)), none, none, none, none, none, some (.ref (x + 76 + 11)), some (.ref (x + 76 + 12)), none, none])) := zz_Qi hP hb (by omega) (by omega) m0 rfl
  have q77 : zz_Qw D cy G x H 77 (.inr (0, 399, none)) := zz_Qi hP hb (by omega) (by omega) m1 rfl
  have q78 : zz_Qw D cy G x H 78 (.inr (0, 399, none)) := zz_Qi hP hb (by omega) (by omega) m2 rfl
  have q79 : zz_Qw D cy G x H 79 (.inr (0, 7, none)) := zz_Qi hP hb (by omega) (by omega) m3 rfl
  have q80 : zz_Qw D cy G x H 80 (.inr (0, 4, none)) := zz_Qi hP hb (by omega) (by omega) m4 rfl
  have q81 : zz_Qw D cy G x H 81 (.inr (0, 4, none)) := zz_Qi hP hb (by omega) (by omega) m5 rfl
  have q82 : zz_Qw D cy G x H 82 (.inr (0, 96, none)) := zz_Qi hP hb (by omega) (by omega) m6 rfl
  have q83 : zz_Qw D cy G x H 83 (.inr (0, 60, none)) := zz_Qi hP hb (by omega) (by omega) m7 rfl
  have q84 : zz_Qw D cy G x H 84 (.inr (0, 60, none)) := zz_Qi hP hb (by omega) (by omega) m8 rfl
  have q85 : zz_Qw D cy G x H 85 (.inr (0, 3, none)) := zz_Qi hP hb (by omega) (by omega) m9 rfl
  have q86 : zz_Qw D cy G x H 86 (.inr (0, 60, none)) := zz_Qi hP hb (by omega) (by omega) m10 rfl
  have q87 : zz_Qw D cy G x H 87 (.inr (0, 2160, none)) := zz_Qi hP hb (by omega) (by omega) m11 rfl
  have q88 : zz_Qw D cy G x H 88 (.inr (0, 30, none)) := zz_Qi hP hb (by omega) (by omega) m12 rfl
  intro a kd hk
  have hk : zz_lay x a = some kd := hk
  obtain ⟨h1, h2⟩ := zz_lay_lt (x := x) (a := a) (by rw [hk]; simp)
  obtain ⟨i, rfl⟩ : ∃ i, a = x + i := ⟨a - x, by omega⟩
  rw [zz_lay_at] at hk
  have hall : zz_all (zz_Qw D cy G x H) (zz_tab x) 0 := ⟨q0, q1, q2, q3, q4, q5, q6, q7, q8, q9, q10, q11, q12, q13, q14, q15, q16, q17, q18, q19, q20, q21, q22, q23, q24, q25, q26, q27, q28, q29, q30, q31, q32, q33, q34, q35, q36, q37, q38, q39, q40, q41, q42, q43, q44, q45, q46, q47, q48, q49, q50, q51, q52, q53, q54, q55, q56, q57, q58, q59, q60, q61, q62, q63, q64, q65, q66, q67, q68, q69, q70, q71, q72, q73, q74, q75, q76, q77, q78, q79, q80, q81, q82, q83, q84, q85, q86, q87, q88, trivial⟩
  have h9 := zz_all_get (zz_tab x) 0 i kd hall hk
  rw [Nat.zero_add] at h9
  exact h9
theorem zz_lay_R {D : va_G} {cy : Nat → ClassId} {st : Nat → Nat} (x : Nat) : zz_R (D, cy, zz_lay x, st) (x + 1) ∧ zz_R (D, cy, zz_lay x, st) (x + 28) := by
  refine ⟨⟨?_, ?_, ?_, ?_, ?_, ?_, ?_, ?_, ?_⟩, ⟨?_, ?_, ?_, ?_, ?_, ?_, ?_, ?_, ?_⟩⟩
  · exact zz_lay_eq (i := 1) (by omega) rfl
  · exact zz_lay_eq (i := 2) (by omega) rfl
  · exact zz_lay_eq (i := 3) (by omega) rfl
  · exact zz_lay_eq (i := 4) (by omega) rfl
  · exact zz_lay_eq (i := 5) (by omega) rfl
  · exact zz_lay_eq (i := 6) (by omega) rfl
  · intro j hj
    rcases (show j = 0 ∨ j = 1 ∨ j = 2 ∨ j = 3 ∨ j = 4 ∨ j = 5 ∨ j = 6 ∨ j = 7 ∨ j = 8 by omega) with rfl | rfl | rfl | rfl | rfl | rfl | rfl | rfl | rfl
    · exact zz_lay_eq (i := 7) (by omega) rfl
    · exact zz_lay_eq (i := 8) (by omega) rfl
    · exact zz_lay_eq (i := 9) (by omega) rfl
    · exact zz_lay_eq (i := 10) (by omega) rfl
    · exact zz_lay_eq (i := 11) (by omega) rfl
    · exact zz_lay_eq (i := 12) (by omega) rfl
    · exact zz_lay_eq (i := 13) (by omega) rfl
    · exact zz_lay_eq (i := 14) (by omega) rfl
    · exact zz_lay_eq (i := 15) (by omega) rfl
  · intro j hj
    rcases (show j = 0 ∨ j = 1 ∨ j = 2 ∨ j = 3 ∨ j = 4 ∨ j = 5 by omega) with rfl | rfl | rfl | rfl | rfl | rfl
    · exact zz_lay_eq (i := 16) (by omega) rfl
    · exact zz_lay_eq (i := 17) (by omega) rfl
    · exact zz_lay_eq (i := 18) (by omega) rfl
    · exact zz_lay_eq (i := 19) (by omega) rfl
    · exact zz_lay_eq (i := 20) (by omega) rfl
    · exact zz_lay_eq (i := 21) (by omega) rfl
  · intro j hj
    rcases (show j = 0 ∨ j = 1 by omega) with rfl | rfl
    · exact ⟨zz_lay_eq (i := 22) (by omega) rfl, zz_lay_eq (i := 23) (by omega) rfl, zz_lay_eq (i := 24) (by omega) rfl⟩
    · exact ⟨zz_lay_eq (i := 25) (by omega) rfl, zz_lay_eq (i := 26) (by omega) rfl, zz_lay_eq (i := 27) (by omega) rfl⟩
  · exact zz_lay_eq (i := 28) (by omega) rfl
  · exact zz_lay_eq (i := 29) (by omega) rfl
  · exact zz_lay_eq (i := 30) (by omega) rfl
  · exact zz_lay_eq (i := 31) (by omega) rfl
  · exact zz_lay_eq (i := 32) (by omega) rfl
  · exact zz_lay_eq (i := 33) (by omega) rfl
  · intro j hj
    rcases (show j = 0 ∨ j = 1 ∨ j = 2 ∨ j = 3 ∨ j = 4 ∨ j = 5 ∨ j = 6 ∨ j = 7 ∨ j = 8 by omega) with rfl | rfl | rfl | rfl | rfl | rfl | rfl | rfl | rfl
    · exact zz_lay_eq (i := 34) (by omega) rfl
    · exact zz_lay_eq (i := 35) (by omega) rfl
    · exact zz_lay_eq (i := 36) (by omega) rfl
    · exact zz_lay_eq (i := 37) (by omega) rfl
    · exact zz_lay_eq (i := 38) (by omega) rfl
    · exact zz_lay_eq (i := 39) (by omega) rfl
    · exact zz_lay_eq (i := 40) (by omega) rfl
    · exact zz_lay_eq (i := 41) (by omega) rfl
    · exact zz_lay_eq (i := 42) (by omega) rfl
  · intro j hj
    rcases (show j = 0 ∨ j = 1 ∨ j = 2 ∨ j = 3 ∨ j = 4 ∨ j = 5 by omega) with rfl | rfl | rfl | rfl | rfl | rfl
    · exact zz_lay_eq (i := 43) (by omega) rfl
    · exact zz_lay_eq (i := 44) (by omega) rfl
    · exact zz_lay_eq (i := 45) (by omega) rfl
    · exact zz_lay_eq (i := 46) (by omega) rfl
    · exact zz_lay_eq (i := 47) (by omega) rfl
    · exact zz_lay_eq (i := 48) (by omega) rfl
  · intro j hj
    rcases (show j = 0 ∨ j = 1 by omega) with rfl | rfl
    · exact ⟨zz_lay_eq (i := 49) (by omega) rfl, zz_lay_eq (i := 50) (by omega) rfl, zz_lay_eq (i := 51) (by omega) rfl⟩
    · exact ⟨zz_lay_eq (i := 52) (by omega) rfl, zz_lay_eq (i := 53) (by omega) rfl, zz_lay_eq (i := 54) (by omega) rfl⟩
theorem zz_lay_L {D : va_G} {cy : Nat → ClassId} {st : Nat → Nat} (x : Nat) : zz_L (D, cy, zz_lay x, st) x := by
  refine ⟨zz_lay_eq (i := 0) (by omega) rfl, (zz_lay_R x).1, (zz_lay_R x).2, zz_lay_eq (i := 55) (by omega) rfl, ?_, ⟨zz_lay_eq (i := 56) (by omega) rfl, zz_lay_eq (i := 57) (by omega) rfl⟩, ⟨zz_lay_eq (i := 58) (by omega) rfl, zz_lay_eq (i := 59) (by omega) rfl, zz_lay_eq (i := 60) (by omega) rfl⟩, ⟨zz_lay_eq (i := 61) (by omega) rfl, zz_lay_eq (i := 62) (by omega) rfl, zz_lay_eq (i := 63) (by omega) rfl, zz_lay_eq (i := 64) (by omega) rfl⟩, zz_lay_eq (i := 65) (by omega) rfl, zz_lay_eq (i := 66) (by omega) rfl, zz_lay_eq (i := 67) (by omega) rfl⟩
  intro j hj
  rcases (show j = 0 ∨ j = 1 ∨ j = 2 ∨ j = 3 by omega) with rfl | rfl | rfl | rfl
  · exact ⟨zz_lay_eq (i := 68) (by omega) rfl, zz_lay_eq (i := 69) (by omega) rfl⟩
  · exact ⟨zz_lay_eq (i := 70) (by omega) rfl, zz_lay_eq (i := 71) (by omega) rfl⟩
  · exact ⟨zz_lay_eq (i := 72) (by omega) rfl, zz_lay_eq (i := 73) (by omega) rfl⟩
  · exact ⟨zz_lay_eq (i := 74) (by omega) rfl, zz_lay_eq (i := 75) (by omega) rfl⟩
theorem zz_lay_M {D : va_G} {cy : Nat → ClassId} {st : Nat → Nat} (x : Nat) : zz_M (D, cy, zz_lay x, st) (x + 76) := ⟨zz_lay_eq (i := 76) (by omega) rfl, zz_lay_eq (i := 77) (by omega) rfl, zz_lay_eq (i := 78) (by omega) rfl, zz_lay_eq (i := 79) (by omega) rfl, zz_lay_eq (i := 80) (by omega) rfl, zz_lay_eq (i := 81) (by omega) rfl, zz_lay_eq (i := 82) (by omega) rfl, zz_lay_eq (i := 83) (by omega) rfl, zz_lay_eq (i := 84) (by omega) rfl, zz_lay_eq (i := 85) (by omega) rfl, zz_lay_eq (i := 86) (by omega) rfl, zz_lay_eq (i := 87) (by omega) rfl, zz_lay_eq (i := 88) (by omega) rfl⟩
theorem zz_ID.zero : zz_ID (fun _ _ => 0) := fun j _ => ⟨⟨Int.le_refl 0, (by decide : (0 : Int) ≤ 6)⟩, ⟨Int.le_refl 0, (by decide : (0 : Int) ≤ 9)⟩, ⟨Int.le_refl 0, (by decide : (0 : Int) ≤ 9)⟩, ⟨Int.le_refl 0, (by decide : (0 : Int) ≤ 1)⟩, ⟨Int.le_refl 0, (by decide : (0 : Int) ≤ 99)⟩, ⟨Int.le_refl 0, (by decide : (0 : Int) ≤ 1)⟩⟩
theorem kb_R.tx {cy : Nat → ClassId} {G : Nat → va_E} {r z : Nat} (hz : z = r + 1) (h : kb_R cy G r z) : ∀ j : Nat, j < 2 → (zz_sg (G (r + 21 + 3 * j)) 0).toInt = 0 := by
  subst hz
  obtain ⟨-, -, -, -, -, -, -, -, rt⟩ := h
  intro j hj
  rw [show r + 21 + 3 * j = r + 1 + 20 + 3 * j from by omega, (rt j hj).1]
  exact zk_0
theorem kb_R.dz {cy : Nat → ClassId} {G : Nat → va_E} {r z : Nat} (hz : z = r + 1) (h : kb_R cy G r z) : zz_DX (fun a => zz_sg (G a)) r = (fun _ _ => 0) ∧ zz_PX 0 (fun a => zz_sg (G a)) r = (fun _ => 0) := by
  subst hz
  obtain ⟨-, -, -, -, -, -, hd, hp, -⟩ := h
  constructor
  · funext j f
    unfold zz_DX
    by_cases q : j < 9 ∧ f < 6
    · rw [if_pos q]
      show (zz_sg (G (r + 6 + 1 * j)) f).toInt = 0
      rw [show r + 6 + 1 * j = r + 1 + 5 + j from by omega, hd j q.1]
      have hf := q.2
      rcases (show f = 0 ∨ f = 1 ∨ f = 2 ∨ f = 3 ∨ f = 4 ∨ f = 5 by omega) with rfl | rfl | rfl | rfl | rfl | rfl <;> exact zk_0
    · rw [if_neg q]
  · funext j
    unfold zz_PX
    by_cases q : j < 6
    · rw [if_pos q]
      show (zz_sg (G (r + 15 + 1 * j)) 0).toInt = 0
      rw [show r + 15 + 1 * j = r + 1 + 14 + j from by omega, hp j q]
      exact zk_0
    · rw [if_neg q]
theorem kb_R.fz {cy : Nat → ClassId} {G : Nat → va_E} {r z : Nat} (hz : z = r + 1) (h : kb_R cy G r z) : zz_PX 1 (fun a => zz_sg (G a)) r = (fun _ => 0) := by
  subst hz
  obtain ⟨-, -, -, -, -, -, hd, hp, -⟩ := h
  funext j
  unfold zz_PX
  by_cases q : j < 6
  · rw [if_pos q]
    show (zz_sg (G (r + 15 + 1 * j)) 1).toInt = 0
    rw [show r + 15 + 1 * j = r + 1 + 14 + j from by omega, hp j q]
    exact zk_0
  · rw [if_neg q]
theorem kb_R.ir {cy : Nat → ClassId} {G : Nat → va_E} {r z : Nat} (hz : z = r + 1) (h : kb_R cy G r z) : zz_IR (fun a => zz_sg (G a)) r ∧ (zz_sg (G r) 0).toInt = 0 ∧ (zz_sg (G r) 1).toInt = 22 ∧ (zz_sg (G r) 2).toInt = 1 ∧ (zz_sg (G r) 4).toInt = 0 ∧ (zz_sg (G r) 6).toInt = 0 ∧ (zz_sg (G r) 9).toInt = 0 ∧ (zz_sg (G r) 11).toInt = 0 := by
  subst hz
  have hh := h
  obtain ⟨r0, -, -, -, r4, -, -, -, rt⟩ := h
  have v0 : (zz_sg (G r) 0).toInt = 0 := (congrArg (fun e => (zz_sg e 0).toInt) r0).trans zk_0
  have v1 : (zz_sg (G r) 1).toInt = 22 := (congrArg (fun e => (zz_sg e 1).toInt) r0).trans zk_22
  have v2 : (zz_sg (G r) 2).toInt = 1 := (congrArg (fun e => (zz_sg e 2).toInt) r0).trans zk_1
  have v4 : (zz_sg (G r) 4).toInt = 0 := (congrArg (fun e => (zz_sg e 4).toInt) r0).trans zk_0
  have v6 : (zz_sg (G r) 6).toInt = 0 := (congrArg (fun e => (zz_sg e 6).toInt) r0).trans zk_0
  have v9 : (zz_sg (G r) 9).toInt = 0 := (congrArg (fun e => (zz_sg e 9).toInt) r0).trans zk_0
  have v11 : (zz_sg (G r) 11).toInt = 0 := (congrArg (fun e => (zz_sg e 11).toInt) r0).trans zk_0
  refine ⟨⟨?_, ?_, ?_, ?_, ?_, ?_, ?_, ?_, ?_, by rw [(kb_R.dz rfl hh).1]; exact zz_ID.zero⟩, v0, v1, v2, v4, v6, v9, v11⟩
  · show 0 ≤ (zz_sg (G r) 0).toInt ∧ (zz_sg (G r) 0).toInt ≤ 9999; omega
  · show 13 ≤ (zz_sg (G r) 1).toInt ∧ (zz_sg (G r) 1).toInt ≤ 24; omega
  · show 0 ≤ (zz_sg (G r) 4).toInt ∧ (zz_sg (G r) 4).toInt ≤ 9; omega
  · show 0 ≤ (zz_sg (G r) 6).toInt ∧ (zz_sg (G r) 6).toInt ≤ 6; omega
  · show 0 ≤ (zz_sg (G r) 9).toInt ∧ (zz_sg (G r) 9).toInt ≤ 60; omega
  · show 0 ≤ (zz_sg (G r) 11).toInt ∧ (zz_sg (G r) 11).toInt ≤ 24; omega
  · intro j hj
    have e : (zz_sg (G (r + 21 + 3 * j)) 1).toInt = 0 := by
      rw [show r + 21 + 3 * j = r + 1 + 20 + 3 * j from by omega, (rt j hj).1]
      exact zk_0
    show 0 ≤ (zz_sg (G (r + 21 + 3 * j)) 1).toInt ∧ (zz_sg (G (r + 21 + 3 * j)) 1).toInt ≤ 60
    omega
  · intro j hj
    show fits .byte (.int (zz_sg (G (r + 4)) j)) = true
    rw [show r + 4 = r + 1 + 3 from by omega, r4]
    show fits .byte (.int (0 : Int32)) = true
    decide
  · intro j hj
    have e : (zz_sg (G (r + 21 + 3 * j)) 0).toInt = 0 := by
      rw [show r + 21 + 3 * j = r + 1 + 20 + 3 * j from by omega, (rt j hj).1]
      exact zk_0
    exact Or.inl e
theorem zz_start_X {cy : Nat → ClassId} {G : Nat → va_E} {x : Nat} (hL : kb_L cy G x (x + 1)) : zz_IX (fun a => zz_sg (G a)) x := by
  obtain ⟨l0, hr, hs, -, lsh, ⟨lk0, -⟩, -⟩ := hL
  refine ⟨(hr.ir rfl).1, (hs.ir rfl).1, fun j hj => ?_, ?_⟩
  · have e : (zz_sg (G (x + 68 + 2 * j)) 1).toInt = 0 := by
      rw [show x + 68 + 2 * j = x + 1 + 67 + 2 * j from by omega, (lsh j hj).1]
      exact zk_0
    show 0 ≤ (zz_sg (G (x + 68 + 2 * j)) 1).toInt ∧ (zz_sg (G (x + 68 + 2 * j)) 1).toInt ≤ 24
    omega
  · have e : (zz_sg (G (x + 56)) 1).toInt = 0 := by
      rw [show x + 56 = x + 1 + 55 from by omega, lk0]
      exact zk_0
    show 0 ≤ (zz_sg (G (x + 56)) 1).toInt ∧ (zz_sg (G (x + 56)) 1).toInt ≤ 30
    omega
theorem zz_IW.blank {σ : zz_S} {a : Nat} (h : ∀ k : Nat, k ≠ 1 → k ≠ 4 → (σ a k).toInt = 0) (h4 : 0 ≤ (σ a 4).toInt ∧ (σ a 4).toInt ≤ 24) : zz_IW σ a := by
  have g : ∀ k : Nat, k ≠ 1 → k ≠ 4 → 0 ≤ (σ a k).toInt ∧ (σ a k).toInt ≤ 0 := fun k h1 h2 => by rw [h k h1 h2]; decide
  refine ⟨by have := g 0 (by omega) (by omega); omega, h4, by have := g 2 (by omega) (by omega); omega, by have := g 3 (by omega) (by omega); omega, by have := g 5 (by omega) (by omega); omega, by have := g 6 (by omega) (by omega); omega, fun j hj => by have := g (8 + 6 * j) (by omega) (by omega); omega, fun u hu => ?_⟩
  have e := h (157 + 121 * u) (by omega) (by omega)
  refine ⟨by omega, fun k hk => ?_⟩
  rw [e] at hk
  exact absurd hk (by simp)
theorem zz_start_M {cy : Nat → ClassId} {G : Nat → va_E} {y : Nat} (hM : kb_M cy G y (y + 1)) : zz_IM (fun a => zz_sg (G a)) y ∧ (∀ k : Nat, k ≠ 1 → k ≠ 4 → (zz_sg (G (y + 1)) k).toInt = 0) ∧ (zz_sg (G (y + 1)) 1).toInt = 1 ∧ (zz_sg (G (y + 1)) 4).toInt = 22 ∧ (zz_sg (G y) 2).toInt = 0 := by
  obtain ⟨m0, m1, m2, m3, m4, m5, -⟩ := hM
  have r0 : ∀ k : Nat, k ≠ 1 → k ≠ 4 → (zz_sg (G (y + 1)) k).toInt = 0 := fun k h1 h4 => by
    rw [m1]
    show (upd (upd (fun _ => (0 : Int32)) 1 1) 4 22 k).toInt = 0
    simp only [upd, if_neg h1, if_neg h4]
    decide
  have r1 : (zz_sg (G (y + 1)) 1).toInt = 1 := by rw [m1]; exact (rfl : (zz_sg (.inl (cy 0, 399, .inl (upd (upd (fun _ => 0) 1 1) 4 22))) 1).toInt = (1 : Int32).toInt).trans zk_1
  have r4 : (zz_sg (G (y + 1)) 4).toInt = 22 := by rw [m1]; exact (rfl : (zz_sg (.inl (cy 0, 399, .inl (upd (upd (fun _ => 0) 1 1) 4 22))) 4).toInt = (22 : Int32).toInt).trans zk_22
  have s0 : ∀ k : Nat, (zz_sg (G (y + 2)) k).toInt = 0 := fun k => by
    rw [show y + 2 = y + 1 + 1 from by omega, m2]
    exact zk_0
  have i0 : (zz_sg (G y) 2).toInt = 0 := (congrArg (fun e => (zz_sg e 2).toInt) m0).trans zk_0
  have i18 : (zz_sg (G y) 18).toInt = 0 := (congrArg (fun e => (zz_sg e 18).toInt) m0).trans zk_0
  refine ⟨⟨zz_IW.blank r0 (by show 0 ≤ (zz_sg (G (y + 1)) 4).toInt ∧ (zz_sg (G (y + 1)) 4).toInt ≤ 24; omega), zz_IW.blank (fun k _ _ => s0 k) (by have := s0 4; show 0 ≤ (zz_sg (G (y + 2)) 4).toInt ∧ (zz_sg (G (y + 2)) 4).toInt ≤ 24; omega), fun j hj => ?_, ?_⟩, r0, r1, r4, i0⟩
  · have e : (zz_sg (G (y + 5)) j).toInt = 0 := by
      rw [show y + 5 = y + 1 + 4 from by omega, m5]
      exact zk_0
    show 0 ≤ (zz_sg (G (y + 5)) j).toInt ∧ (zz_sg (G (y + 5)) j).toInt ≤ 24
    omega
  · show 0 ≤ (zz_sg (G y) 18).toInt ∧ (zz_sg (G y) 18).toInt ≤ 30
    omega
theorem zz_start_RL {cy : Nat → ClassId} {G : Nat → va_E} {x : Nat} (hL : kb_L cy G x (x + 1)) (hM : kb_M cy G (x + 76) (x + 77)) : zz_RL (fun a => zz_sg (G a)) x (x + 76) := by
  obtain ⟨hm, r0, r1, r4, i0⟩ := zz_start_M hM
  have hx := zz_start_X hL
  obtain ⟨l0, hr, -⟩ := hL
  obtain ⟨-, a0, a1, a2, a4, a6, a9, a11⟩ := hr.ir rfl
  have j0 : (zz_sg (G x) 2).toInt = 0 := (congrArg (fun e => (zz_sg e 2).toInt) l0).trans zk_0
  refine ⟨hx, hm, ⟨a0.trans (r0 0 (by omega) (by omega)).symm, a1.trans r4.symm, a2.trans r1.symm, a4.trans (r0 2 (by omega) (by omega)).symm, a6.trans (r0 3 (by omega) (by omega)).symm, a9.trans (r0 5 (by omega) (by omega)).symm, a11.trans (r0 6 (by omega) (by omega)).symm⟩, Or.inl j0, j0.trans i0.symm⟩
theorem zz_start_RD {cy : Nat → ClassId} {G : Nat → va_E} {x : Nat} (hL : kb_L cy G x (x + 1)) (hM : kb_M cy G (x + 76) (x + 77)) : zz_RD (fun a => zz_sg (G a)) x (x + 76) := by
  obtain ⟨-, r0, -⟩ := zz_start_M hM
  obtain ⟨l0, hr, -, -, lsh, ⟨lk0, lk1⟩, -⟩ := hL
  obtain ⟨m0, -, -, -, m4, m5, m6, -, -, -, -, -, m12⟩ := hM
  obtain ⟨hd, hp⟩ := hr.dz rfl
  have j0 : (zz_sg (G x) 2).toInt = 0 := (congrArg (fun e => (zz_sg e 2).toInt) l0).trans zk_0
  have htx := hr.tx rfl
  obtain ⟨-, -, -, -, -, -, a9, a11⟩ := hr.ir rfl
  have hpm : zz_PM 1 (fun a => zz_sg (G a)) (x + 76 + 1) = (fun _ => 0) := by
    funext j
    unfold zz_PM
    by_cases q : j < 6
    · rw [if_pos q]
      exact r0 _ (by omega) (by omega)
    · rw [if_neg q]
  refine ⟨hd.trans ?_, hp.trans ?_, Or.inl j0, ?_, ?_, ?_, ?_, zz_TV.eq (fun k _ => ?_), (zz_Tp.z a9).trans (zz_Tm.z (r0 5 (by omega) (by omega))).symm, fun u hu => Or.inl ⟨?_, ?_⟩, (hr.fz rfl).trans hpm.symm, by rw [hpm]; exact fun j => ⟨Int.le_refl 0, (by decide : (0 : Int) ≤ 9999)⟩, (zy_wv.z a11).trans (zy_wv.z (r0 6 (by omega) (by omega))).symm⟩
  · funext j f
    unfold zz_DM
    by_cases q : j < 9 ∧ f < 6
    · rw [if_pos q]
      exact (r0 _ (by omega) (by omega)).symm
    · rw [if_neg q]
  · funext j
    unfold zz_PM
    by_cases q : j < 6
    · rw [if_pos q]
      exact (r0 _ (by omega) (by omega)).symm
    · rw [if_neg q]
  · funext j
    unfold zz_HX zz_HM
    by_cases q : j < 4
    · rw [if_pos q, if_pos q]
      show (zz_sg (G (x + 68 + 2 * j)) 0).toInt = (zz_sg (G (x + 76 + 4)) j).toInt
      rw [show x + 68 + 2 * j = x + 1 + 67 + 2 * j from by omega, (lsh j q).1, show x + 76 + 4 = x + 77 + 3 from by omega, m4]
      rfl
    · rw [if_neg q, if_neg q]
  · funext j
    unfold zz_HX zz_HM
    by_cases q : j < 4
    · rw [if_pos q, if_pos q]
      show (zz_sg (G (x + 68 + 2 * j)) 1).toInt = (zz_sg (G (x + 76 + 5)) j).toInt
      rw [show x + 68 + 2 * j = x + 1 + 67 + 2 * j from by omega, (lsh j q).1, show x + 76 + 5 = x + 77 + 4 from by omega, m5]
      rfl
    · rw [if_neg q, if_neg q]
  · funext j k
    unfold zz_CX zz_CM
    by_cases q : j < 4 ∧ k < 24
    · rw [if_pos q, if_pos q]
      show (zz_sg (G (x + 68 + 2 * j + 1)) k).toInt = (zz_sg (G (x + 76 + 6)) (24 * j + k)).toInt
      rw [show x + 68 + 2 * j + 1 = x + 1 + 67 + 2 * j + 1 from by omega, (lsh j q.1).2, show x + 76 + 6 = x + 77 + 5 from by omega, m6]
      rfl
    · rw [if_neg q, if_neg q]
  · show (zz_sg (G (x + 56)) 1).toInt = (zz_sg (G (x + 76)) 18).toInt
    rw [show x + 56 = x + 1 + 55 from by omega, lk0, m0]
    rfl
  · show zz_sg (G (x + 56 + 1)) k = zz_sg (G (x + 76 + 12)) k
    rw [show x + 56 + 1 = x + 1 + 56 from by omega, lk1, show x + 76 + 12 = x + 77 + 11 from by omega, m12]
  · simp only [zz_XT]
    rw [if_pos hu]
    exact htx u hu
  · simp only [zz_MT]
    rw [if_pos hu]
    exact r0 _ (by omega) (by omega)

