/-! ===== how a TEXT is read, for both sides: a pure reader over what lies on the tape ===== -/
abbrev zz_R3 : Type := Int × Int × List (Int × Int)
/-- what the class writes for a step of the reference -/
def zz_enc (q : Int × Int) : Int := if q.1 = 1 then q.2 else if q.1 = 2 then 10000 + q.2 else if q.1 = 3 then 20033 else 20000 + q.1
/-- the level of a sign -/
def zz_lvl (b : Int) : Int := if b = 124 then 0 else if b = 38 then 1 else if b = 60 ∨ b = 61 ∨ b = 62 then 2 else if b = 43 ∨ b = 45 then 3 else if b = 42 ∨ b = 47 ∨ b = 37 then 4 else -1
theorem zz_lvl_cases (b : Int) : (b = 124 ∧ zz_lvl b = 0) ∨ (b = 38 ∧ zz_lvl b = 1) ∨ ((b = 60 ∨ b = 61 ∨ b = 62) ∧ zz_lvl b = 2) ∨ ((b = 43 ∨ b = 45) ∧ zz_lvl b = 3) ∨ ((b = 42 ∨ b = 47 ∨ b = 37) ∧ zz_lvl b = 4) ∨ ((b ≠ 124 ∧ b ≠ 38 ∧ ¬ (b = 60 ∨ b = 61 ∨ b = 62) ∧ ¬ (b = 43 ∨ b = 45) ∧ ¬ (b = 42 ∨ b = 47 ∨ b = 37)) ∧ zz_lvl b = -1) := by
  unfold zz_lvl
  by_cases h0 : b = 124
  · rw [if_pos h0]; exact Or.inl ⟨h0, rfl⟩
  by_cases h1 : b = 38
  · rw [if_neg h0, if_pos h1]; exact Or.inr (Or.inl ⟨h1, rfl⟩)
  by_cases h2 : b = 60 ∨ b = 61 ∨ b = 62
  · rw [if_neg h0, if_neg h1, if_pos h2]; exact Or.inr (Or.inr (Or.inl ⟨h2, rfl⟩))
  by_cases h3 : b = 43 ∨ b = 45
  · rw [if_neg h0, if_neg h1, if_neg h2, if_pos h3]; exact Or.inr (Or.inr (Or.inr (Or.inl ⟨h3, rfl⟩)))
  by_cases h4 : b = 42 ∨ b = 47 ∨ b = 37
  · rw [if_neg h0, if_neg h1, if_neg h2, if_neg h3, if_pos h4]; exact Or.inr (Or.inr (Or.inr (Or.inr (Or.inl ⟨h4, rfl⟩))))
  · rw [if_neg h0, if_neg h1, if_neg h2, if_neg h3, if_neg h4]; exact Or.inr (Or.inr (Or.inr (Or.inr (Or.inr ⟨⟨h0, h1, h2, h3, h4⟩, rfl⟩))))
def zz_lvp (b r : Int) : Prop := r = zz_lvl b
theorem zz_lvp.of {b r : Int} (h : (b = 124 ∧ r = 0) ∨ (b = 38 ∧ r = 1) ∨ ((b = 60 ∨ b = 61 ∨ b = 62) ∧ r = 2) ∨ ((b = 43 ∨ b = 45) ∧ r = 3) ∨ ((b = 42 ∨ b = 47 ∨ b = 37) ∧ r = 4) ∨ ((b ≠ 124 ∧ b ≠ 38 ∧ ¬ (b = 60 ∨ b = 61 ∨ b = 62) ∧ ¬ (b = 43 ∨ b = 45) ∧ ¬ (b = 42 ∨ b = 47 ∨ b = 37)) ∧ r = -1)) : zz_lvp b r := by
  have h2 := zz_lvl_cases b
  unfold zz_lvp
  omega
theorem zz_lvp.lvl {b b2 r w : Int} (h : zz_lvp b r) (hb : b = b2) (hr : r = w) : zz_lvl b2 = w := by
  unfold zz_lvp at h
  rw [← hb, ← h, hr]
theorem zz_lvp.nlvl {b b2 r w : Int} (h : zz_lvp b r) (hb : b = b2) (hr : r ≠ w) : zz_lvl b2 ≠ w := by
  unfold zz_lvp at h
  rw [← hb, ← h]
  exact hr
theorem zz_lvp.low {b r : Int} (h : zz_lvp b r) (hr : 0 ≤ r) : 37 ≤ b ∧ b ≤ 124 := by
  have h2 := zz_lvl_cases b
  unfold zz_lvp at h
  omega
theorem zz_lvl_low {b w : Int} (h : zz_lvl b = w) (hw : 0 ≤ w) : 37 ≤ b ∧ b ≤ 124 := by
  have h2 := zz_lvl_cases b
  omega
/-- the place of a NAME of a use -/
def zz_nme (us b : Int) : Int := if us = 0 then (if b = 103 then 0 else if b = 104 then 1 else if b = 110 then 2 else -1) else (if b = 107 then 0 else if b = 109 then 1 else if b = 100 then 2 else -1)
theorem zz_nme_cases (us b : Int) : (us = 0 ∧ ((b = 103 ∧ zz_nme us b = 0) ∨ (b = 104 ∧ zz_nme us b = 1) ∨ (b = 110 ∧ zz_nme us b = 2) ∨ ((b ≠ 103 ∧ b ≠ 104 ∧ b ≠ 110) ∧ zz_nme us b = -1))) ∨ (us ≠ 0 ∧ ((b = 107 ∧ zz_nme us b = 0) ∨ (b = 109 ∧ zz_nme us b = 1) ∨ (b = 100 ∧ zz_nme us b = 2) ∨ ((b ≠ 107 ∧ b ≠ 109 ∧ b ≠ 100) ∧ zz_nme us b = -1))) := by
  unfold zz_nme
  by_cases hu : us = 0
  · rw [if_pos hu]
    by_cases h0 : b = 103
    · rw [if_pos h0]; exact Or.inl ⟨hu, Or.inl ⟨h0, rfl⟩⟩
    by_cases h1 : b = 104
    · rw [if_neg h0, if_pos h1]; exact Or.inl ⟨hu, Or.inr (Or.inl ⟨h1, rfl⟩)⟩
    by_cases h2 : b = 110
    · rw [if_neg h0, if_neg h1, if_pos h2]; exact Or.inl ⟨hu, Or.inr (Or.inr (Or.inl ⟨h2, rfl⟩))⟩
    · rw [if_neg h0, if_neg h1, if_neg h2]; exact Or.inl ⟨hu, Or.inr (Or.inr (Or.inr ⟨⟨h0, h1, h2⟩, rfl⟩))⟩
  · rw [if_neg hu]
    by_cases h0 : b = 107
    · rw [if_pos h0]; exact Or.inr ⟨hu, Or.inl ⟨h0, rfl⟩⟩
    by_cases h1 : b = 109
    · rw [if_neg h0, if_pos h1]; exact Or.inr ⟨hu, Or.inr (Or.inl ⟨h1, rfl⟩)⟩
    by_cases h2 : b = 100
    · rw [if_neg h0, if_neg h1, if_pos h2]; exact Or.inr ⟨hu, Or.inr (Or.inr (Or.inl ⟨h2, rfl⟩))⟩
    · rw [if_neg h0, if_neg h1, if_neg h2]; exact Or.inr ⟨hu, Or.inr (Or.inr (Or.inr ⟨⟨h0, h1, h2⟩, rfl⟩))⟩
def zz_nmp (us b r : Int) : Prop := r = zz_nme us b
theorem zz_nmp.of {us b r : Int} (h : (us = 0 ∧ ((b = 103 ∧ r = 0) ∨ (b = 104 ∧ r = 1) ∨ (b = 110 ∧ r = 2) ∨ ((b ≠ 103 ∧ b ≠ 104 ∧ b ≠ 110) ∧ r = -1))) ∨ (us ≠ 0 ∧ ((b = 107 ∧ r = 0) ∨ (b = 109 ∧ r = 1) ∨ (b = 100 ∧ r = 2) ∨ ((b ≠ 107 ∧ b ≠ 109 ∧ b ≠ 100) ∧ r = -1)))) : zz_nmp us b r := by
  have h2 := zz_nme_cases us b
  unfold zz_nmp
  omega
/-- up to n digits more: place, value -/
def zz_nmv (T : Int → Int) : Nat → Int → Int → Int × Int
  | 0, p, v => (p, v)
  | n + 1, p, v => if 48 ≤ T p ∧ T p ≤ 57 then zz_nmv T n (p + 1) (v * 10 + T p - 48) else (p, v)
theorem zz_nmv_go {T : Int → Int} {n m : Nat} {p v : Int} (hn : n = m + 1) (h : 48 ≤ T p ∧ T p ≤ 57) : zz_nmv T n p v = zz_nmv T m (p + 1) (v * 10 + T p - 48) := by
  subst hn
  exact if_pos h
theorem zz_nmv_stop {T : Int → Int} {n : Nat} {p v : Int} (h : n = 0 ∨ ¬ (48 ≤ T p ∧ T p ≤ 57)) : zz_nmv T n p v = (p, v) := by
  cases n with
  | zero => rfl
  | succ n => exact if_neg (h.resolve_left (Nat.succ_ne_zero n))
theorem zz_nmv_b1 (T : Int → Int) (p v : Int) (h : 0 ≤ v) : 0 ≤ (zz_nmv T 1 p v).2 ∧ (zz_nmv T 1 p v).2 ≤ 10 * v + 9 := by
  by_cases q : 48 ≤ T p ∧ T p ≤ 57
  · rw [zz_nmv_go (m := 0) rfl q, zz_nmv_stop (Or.inl rfl)]; dsimp only; omega
  · rw [zz_nmv_stop (Or.inr q)]; dsimp only; omega
theorem zz_nmv_b2 (T : Int → Int) (p v : Int) (h : 0 ≤ v) : 0 ≤ (zz_nmv T 2 p v).2 ∧ (zz_nmv T 2 p v).2 ≤ 100 * v + 99 := by
  by_cases q : 48 ≤ T p ∧ T p ≤ 57
  · rw [zz_nmv_go (m := 1) rfl q]; have b := zz_nmv_b1 T (p + 1) (v * 10 + T p - 48) (by omega); omega
  · rw [zz_nmv_stop (Or.inr q)]; dsimp only; omega
theorem zz_nmv_b3 (T : Int → Int) (p v : Int) (h : 0 ≤ v) : 0 ≤ (zz_nmv T 3 p v).2 ∧ (zz_nmv T 3 p v).2 ≤ 1000 * v + 999 := by
  by_cases q : 48 ≤ T p ∧ T p ≤ 57
  · rw [zz_nmv_go (m := 2) rfl q]; have b := zz_nmv_b2 T (p + 1) (v * 10 + T p - 48) (by omega); omega
  · rw [zz_nmv_stop (Or.inr q)]; dsimp only; omega
theorem zz_nmv_b4 (T : Int → Int) (p : Int) : 0 ≤ (zz_nmv T 4 p 0).2 ∧ (zz_nmv T 4 p 0).2 ≤ 9999 := by
  by_cases q : 48 ≤ T p ∧ T p ≤ 57
  · rw [zz_nmv_go (m := 3) rfl q]; have b := zz_nmv_b3 T (p + 1) (0 * 10 + T p - 48) (by omega); omega
  · rw [zz_nmv_stop (Or.inr q)]; dsimp only; omega
def zz_nr (T : Int → Int) (p : Int) : zz_R3 := if 48 ≤ T p ∧ T p ≤ 57 then (1, (zz_nmv T 4 p 0).1, [(1, (zz_nmv T 4 p 0).2)]) else (0, p, [])
/-- a level's loop: while a sign of it stands here -/
def zz_lp (T : Int → Int) (lv : Int) (sub : Int → zz_R3) : Nat → Int → List (Int × Int) → zz_R3
  | 0, p, l => (1, p, l)
  | n + 1, p, l => if zz_lvl (T p) = lv then (if (sub (p + 1)).1 = 1 then zz_lp T lv sub n (sub (p + 1)).2.1 (l ++ (sub (p + 1)).2.2 ++ [(T p, 0)]) else (0, (sub (p + 1)).2.1, [])) else (1, p, l)
theorem zz_lp_stop {T : Int → Int} {lv : Int} {sub : Int → zz_R3} {n : Nat} {p : Int} {l : List (Int × Int)} (h : n = 0 ∨ zz_lvl (T p) ≠ lv) : zz_lp T lv sub n p l = (1, p, l) := by
  cases n with
  | zero => rfl
  | succ n => exact if_neg (h.resolve_left (Nat.succ_ne_zero n))
theorem zz_lp_fail {T : Int → Int} {lv : Int} {sub : Int → zz_R3} {n : Nat} {p : Int} {l : List (Int × Int)} (hn : n ≠ 0) (h : zz_lvl (T p) = lv) (hs : (sub (p + 1)).1 ≠ 1) : zz_lp T lv sub n p l = (0, (sub (p + 1)).2.1, []) := by
  cases n with
  | zero => exact absurd rfl hn
  | succ n => exact (if_pos h).trans (if_neg hs)
theorem zz_lp_go {T : Int → Int} {lv : Int} {sub : Int → zz_R3} {n m : Nat} {p : Int} {l : List (Int × Int)} (hn : n = m + 1) (h : zz_lvl (T p) = lv) (hs : (sub (p + 1)).1 = 1) : zz_lp T lv sub n p l = zz_lp T lv sub m (sub (p + 1)).2.1 (l ++ (sub (p + 1)).2.2 ++ [(T p, 0)]) := by
  subst hn
  exact (if_pos h).trans (if_pos hs)
def zz_ls (T : Int → Int) (lv : Int) (sub : Int → zz_R3) (fu : Nat) (p : Int) : zz_R3 := if (sub p).1 = 1 then zz_lp T lv sub fu (sub p).2.1 (sub p).2.2 else (0, (sub p).2.1, [])
theorem zz_ls_ok {T : Int → Int} {lv : Int} {sub : Int → zz_R3} {fu : Nat} {p : Int} (h : (sub p).1 = 1) : zz_ls T lv sub fu p = zz_lp T lv sub fu (sub p).2.1 (sub p).2.2 := if_pos h
theorem zz_ls_no {T : Int → Int} {lv : Int} {sub : Int → zz_R3} {fu : Nat} {p : Int} (h : (sub p).1 ≠ 1) : zz_ls T lv sub fu p = (0, (sub p).2.1, []) := if_neg h
/-- j levels above the units -/
def zz_lv (T : Int → Int) (U : Int → zz_R3) : Nat → Int → zz_R3
  | 0, p => U p
  | j + 1, p => zz_ls T (4 - (j : Int)) (fun q => zz_lv T U j q) (if j = 2 then 1 else 60) p
def zz_lw (T : Int → Int) (U : Int → zz_R3) (w p : Int) : zz_R3 := zz_lv T U (5 - w).toNat p
theorem zz_lw_5 {T : Int → Int} {U : Int → zz_R3} {w p : Int} (h : w = 5) : zz_lw T U w p = U p := by
  subst h
  rfl
theorem zz_lw_s {T : Int → Int} {U : Int → zz_R3} {w : Int} {fu : Nat} (p : Int) (hw : 0 ≤ w ∧ w < 5) (hf : (w = 2 ∧ fu = 1) ∨ (w ≠ 2 ∧ fu = 60)) : zz_lw T U w p = zz_ls T w (fun q => zz_lw T U (w + 1) q) fu p := by
  have e1 : (5 - w).toNat = (4 - w).toNat + 1 := by omega
  have e2 : (5 - (w + 1)).toNat = (4 - w).toNat := by omega
  have e3 : (4 - (((4 - w).toNat : Nat) : Int)) = w := by omega
  have e4 : (if (4 - w).toNat = 2 then 1 else 60) = fu := by
    by_cases q : (4 - w).toNat = 2
    · rw [if_pos q]; omega
    · rw [if_neg q]; omega
  unfold zz_lw
  rw [e1, e2]
  show zz_ls T (4 - (((4 - w).toNat : Nat) : Int)) (fun q => zz_lv T U (4 - w).toNat q) (if (4 - w).toNat = 2 then 1 else 60) p = _
  rw [e3, e4]
def zz_nt (U : Int → zz_R3) (p : Int) : zz_R3 := if (U p).1 = 1 then (1, (U p).2.1, (U p).2.2 ++ [(3, 0)]) else (0, (U p).2.1, [])
def zz_rs (T : Int → Int) (U : Int → zz_R3) (p : Int) : zz_R3 := if (zz_lw T U 0 p).1 = 1 ∧ T (zz_lw T U 0 p).2.1 = 41 then (1, (zz_lw T U 0 p).2.1 + 1, (zz_lw T U 0 p).2.2) else (0, (zz_lw T U 0 p).2.1, [])
/-- a unit; n brackets or denials may still be opened -/
def zz_uq (T : Int → Int) (us : Int) : Nat → Int → zz_R3
  | 0, p => if 0 ≤ zz_nme us (T p) then (1, p + 1, [(2, zz_nme us (T p))]) else if T p = 33 ∨ T p = 40 then (0, p, []) else zz_nr T p
  | n + 1, p => if 0 ≤ zz_nme us (T p) then (1, p + 1, [(2, zz_nme us (T p))]) else if T p = 33 then zz_nt (fun q => zz_uq T us n q) (p + 1) else if T p = 40 then zz_rs T (fun q => zz_uq T us n q) (p + 1) else zz_nr T p
theorem zz_uq_name {T : Int → Int} {us : Int} {n : Nat} {p : Int} (h : 0 ≤ zz_nme us (T p)) : zz_uq T us n p = (1, p + 1, [(2, zz_nme us (T p))]) := by
  cases n with
  | zero => exact if_pos h
  | succ n => exact if_pos h
theorem zz_uq_num {T : Int → Int} {us : Int} {n : Nat} {p : Int} (h : ¬ 0 ≤ zz_nme us (T p)) (h1 : ¬ T p = 33) (h2 : ¬ T p = 40) : zz_uq T us n p = zz_nr T p := by
  cases n with
  | zero => exact (if_neg h).trans (if_neg (fun q => q.elim h1 h2))
  | succ n => exact ((if_neg h).trans (if_neg h1)).trans (if_neg h2)
theorem zz_uq_full {T : Int → Int} {us : Int} {n : Nat} {p : Int} (hn : n = 0) (h : ¬ 0 ≤ zz_nme us (T p)) (h1 : T p = 33 ∨ T p = 40) : zz_uq T us n p = (0, p, []) := by
  subst hn
  exact (if_neg h).trans (if_pos h1)
theorem zz_uq_not {T : Int → Int} {us : Int} {n m : Nat} {p : Int} (hn : n = m + 1) (h : ¬ 0 ≤ zz_nme us (T p)) (h1 : T p = 33) : zz_uq T us n p = zz_nt (fun q => zz_uq T us m q) (p + 1) := by
  subst hn
  exact (if_neg h).trans (if_pos h1)
theorem zz_uq_rest {T : Int → Int} {us : Int} {n m : Nat} {p : Int} (hn : n = m + 1) (h : ¬ 0 ≤ zz_nme us (T p)) (h2 : T p = 40) : zz_uq T us n p = zz_rs T (fun q => zz_uq T us m q) (p + 1) := by
  subst hn
  exact ((if_neg h).trans (if_neg (by omega))).trans (if_pos h2)
theorem zz_nme_low {us b : Int} (h : b < 100) : ¬ 0 ≤ zz_nme us b := by
  have h2 := zz_nme_cases us b
  omega
/-- the whole reader, hidden -/
noncomputable def zz_PQ : (Int → Int) → Int → Int → zz_R3 := Classical.choose (⟨fun T us p => zz_lw T (fun q => zz_uq T us 5 q) 0 p, rfl⟩ : ∃ f : (Int → Int) → Int → Int → zz_R3, f = fun T us p => zz_lw T (fun q => zz_uq T us 5 q) 0 p)
theorem zz_PQ_eq (T : Int → Int) (us p : Int) : zz_PQ T us p = zz_lw T (fun q => zz_uq T us 5 q) 0 p := congrFun (congrFun (congrFun (Classical.choose_spec (⟨fun T us p => zz_lw T (fun q => zz_uq T us 5 q) 0 p, rfl⟩ : ∃ f : (Int → Int) → Int → Int → zz_R3, f = fun T us p => zz_lw T (fun q => zz_uq T us 5 q) 0 p)) T) us) p
/-! ===== steps laid one behind another, with the guard of 60 ===== -/
def zz_KV (σ : zz_S) (a : Nat) : Nat → Int := fun k => if k < 60 then (σ a k).toInt else 0
def zz_aq : List Int → (Nat → Int) → Int → (Nat → Int)
  | [], T, _ => T
  | b :: l, T, n => if n < 60 then zz_aq l (zz_wn T n b) (n + 1) else zz_aq l T n
def zz_aln : List Int → Int → Int
  | [], n => n
  | _ :: l, n => if n < 60 then zz_aln l (n + 1) else zz_aln l n
theorem zz_aq_app : ∀ (l1 l2 : List Int) (T : Nat → Int) (n : Int), zz_aq (l1 ++ l2) T n = zz_aq l2 (zz_aq l1 T n) (zz_aln l1 n)
  | [], l2, T, n => rfl
  | b :: l, l2, T, n => by
    show (if n < 60 then zz_aq (l ++ l2) (zz_wn T n b) (n + 1) else zz_aq (l ++ l2) T n) = zz_aq l2 (if n < 60 then zz_aq l (zz_wn T n b) (n + 1) else zz_aq l T n) (if n < 60 then zz_aln l (n + 1) else zz_aln l n)
    by_cases h : n < 60
    · rw [if_pos h, if_pos h, if_pos h]
      exact zz_aq_app l l2 _ _
    · rw [if_neg h, if_neg h, if_neg h]
      exact zz_aq_app l l2 _ _
theorem zz_aln_app : ∀ (l1 l2 : List Int) (n : Int), zz_aln (l1 ++ l2) n = zz_aln l2 (zz_aln l1 n)
  | [], l2, n => rfl
  | b :: l, l2, n => by
    show (if n < 60 then zz_aln (l ++ l2) (n + 1) else zz_aln (l ++ l2) n) = zz_aln l2 (if n < 60 then zz_aln l (n + 1) else zz_aln l n)
    by_cases h : n < 60
    · rw [if_pos h, if_pos h]
      exact zz_aln_app l l2 _
    · rw [if_neg h, if_neg h]
      exact zz_aln_app l l2 _
def zz_tq (σ σ1 : zz_S) (a o s : Nat) (l : List Int) : Prop := zz_KV σ1 a = zz_aq l (zz_KV σ a) (σ o s).toInt ∧ (σ1 o s).toInt = zz_aln l (σ o s).toInt
theorem zz_tq.rf (σ : zz_S) (a o s : Nat) : zz_tq σ σ a o s [] := ⟨rfl, rfl⟩
theorem zz_tq.tr {σ σ1 σ2 : zz_S} {a o s : Nat} {l1 l2 : List Int} (h1 : zz_tq σ σ1 a o s l1) (h2 : zz_tq σ1 σ2 a o s l2) : zz_tq σ σ2 a o s (l1 ++ l2) := by
  constructor
  · rw [h2.1, h1.1, h1.2, zz_aq_app]
  · rw [h2.2, h1.2, zz_aln_app]
theorem zz_KV.eq {σ σ1 : zz_S} {a b : Nat} (h : ∀ k : Nat, k < 60 → σ1 b k = σ a k) : zz_KV σ1 b = zz_KV σ a := by
  funext k
  simp only [zz_KV]
  by_cases q : k < 60
  · rw [if_pos q, if_pos q, h k q]
  · rw [if_neg q, if_neg q]
theorem zz_tq.out {σ σ1 σ2 : zz_S} {a o s : Nat} {l : List Int} (h : zz_tq σ σ1 a o s l) (e1 : ∀ k : Nat, k < 60 → σ2 a k = σ1 a k) (e2 : σ2 o s = σ1 o s) : zz_tq σ σ2 a o s l := ⟨(zz_KV.eq e1).trans h.1, by rw [e2]; exact h.2⟩
theorem zz_tq.inn {σ σ1 σ2 : zz_S} {a o s : Nat} {l : List Int} (h : zz_tq σ1 σ2 a o s l) (e1 : ∀ k : Nat, k < 60 → σ1 a k = σ a k) (e2 : σ1 o s = σ o s) : zz_tq σ σ2 a o s l := ⟨by rw [h.1, zz_KV.eq e1, e2], by rw [h.2, e2]⟩
theorem zz_tq.full {σ : zz_S} {a o s : Nat} {b : Int} (h : ¬ (σ o s).toInt < 60) : zz_tq σ σ a o s [b] := ⟨(if_neg h).symm, (if_neg h).symm⟩
/-- one step more -/
theorem zz_tq.one {σ σ1 : zz_S} {a o s j : Nat} {b : Int} (hj : (j : Int) = (σ o s).toInt) (h60 : j < 60) (e : (σ1 a j).toInt = b) (eo : ∀ k : Nat, k ≠ j → σ1 a k = σ a k) (ec : (σ1 o s).toInt = (σ o s).toInt + 1) : zz_tq σ σ1 a o s [b] := by
  have hlt : (σ o s).toInt < 60 := by omega
  constructor
  · show zz_KV σ1 a = (if (σ o s).toInt < 60 then zz_wn (zz_KV σ a) (σ o s).toInt b else zz_KV σ a)
    rw [if_pos hlt]
    funext k
    simp only [zz_KV, zz_wn]
    by_cases q : (k : Int) = (σ o s).toInt
    · rw [if_pos q, if_pos (by omega), show k = j from by omega, e]
    · rw [if_neg q]
      by_cases p : k < 60
      · rw [if_pos p, if_pos p, eo k (by omega)]
      · rw [if_neg p, if_neg p]
  · show (σ1 o s).toInt = (if (σ o s).toInt < 60 then (σ o s).toInt + 1 else (σ o s).toInt)
    rw [if_pos hlt, ec]
theorem zz_tq.begin {σ σ1 σ2 : zz_S} {a o s j : Nat} {nu n : Int32} (w1 : σ1 = zz_u σ a j nu) (w2 : σ2 = zz_u σ1 o s n) (ha : a ≠ o) (hj : (j : Int) = (σ o s).toInt) (h60 : j < 60) (hn : n.toInt = (σ o s).toInt + 1) : zz_tq σ σ2 a o s [nu.toInt] :=
  zz_tq.one hj h60 (by rw [w2, zz_un (fun h => ha h.1), w1, zz_us]) (fun k hk => by rw [w2, zz_un (fun h => ha h.1), w1, zz_un (fun h => hk h.2)]) (by rw [w2, zz_us, hn])
/-! ===== the class's reader ===== -/
def zz_hX (σ : zz_S) (h0 : Nat) (T : Int → Int) : Prop := ∀ p : Int, T p = if 0 ≤ p ∧ p < (σ h0 4).toInt then ((σ (h0 + 2) p.toNat) &&& 255).toInt else -1
theorem zz_hX.keep {σ σ1 : zz_S} {h0 : Nat} {T : Int → Int} (h : zz_hX σ h0 T) (e4 : σ1 h0 4 = σ h0 4) (e2 : ∀ k : Nat, σ1 (h0 + 2) k = σ (h0 + 2) k) : zz_hX σ1 h0 T := fun p => by rw [e4, e2]; exact h p
theorem zz_vN_c {i v : Int32} (e : v = zz_vN i.toNatClampNeg) (h : 0 ≤ i.toInt ∧ i.toInt ≤ 5) : (i.toInt = 0 ∧ v.toInt = 103) ∨ (i.toInt = 1 ∧ v.toInt = 104) ∨ (i.toInt = 2 ∧ v.toInt = 110) ∨ (i.toInt = 3 ∧ v.toInt = 107) ∨ (i.toInt = 4 ∧ v.toInt = 109) ∨ (i.toInt = 5 ∧ v.toInt = 100) := by
  have hi : i.toNatClampNeg = i.toInt.toNat := rfl
  rw [hi] at e
  have hc : i.toInt = 0 ∨ i.toInt = 1 ∨ i.toInt = 2 ∨ i.toInt = 3 ∨ i.toInt = 4 ∨ i.toInt = 5 := by omega
  rcases hc with q | q | q | q | q | q
  · refine Or.inl ⟨q, ?_⟩; rw [e, q]; decide +kernel
  · refine Or.inr (Or.inl ⟨q, ?_⟩); rw [e, q]; decide +kernel
  · refine Or.inr (Or.inr (Or.inl ⟨q, ?_⟩)); rw [e, q]; decide +kernel
  · refine Or.inr (Or.inr (Or.inr (Or.inl ⟨q, ?_⟩))); rw [e, q]; decide +kernel
  · refine Or.inr (Or.inr (Or.inr (Or.inr (Or.inl ⟨q, ?_⟩)))); rw [e, q]; decide +kernel
  · refine Or.inr (Or.inr (Or.inr (Or.inr (Or.inr ⟨q, ?_⟩)))); rw [e, q]; decide +kernel
/-- the NAMES' table, looked through one by one -/
def zz_nc (us j : Int) : Int := if us = 0 then (if j = 0 then 103 else if j = 1 then 104 else 110) else (if j = 0 then 107 else if j = 1 then 109 else 100)
theorem zz_nc_cases {us j : Int} (hj : 0 ≤ j ∧ j ≤ 2) : (us = 0 ∧ ((j = 0 ∧ zz_nc us j = 103) ∨ (j = 1 ∧ zz_nc us j = 104) ∨ (j = 2 ∧ zz_nc us j = 110))) ∨ (us ≠ 0 ∧ ((j = 0 ∧ zz_nc us j = 107) ∨ (j = 1 ∧ zz_nc us j = 109) ∨ (j = 2 ∧ zz_nc us j = 100))) := by
  unfold zz_nc
  have hc : j = 0 ∨ j = 1 ∨ j = 2 := by omega
  by_cases hu : us = 0
  · rw [if_pos hu]
    refine Or.inl ⟨hu, ?_⟩
    rcases hc with q | q | q
    · rw [if_pos q]; exact Or.inl ⟨q, rfl⟩
    · rw [if_neg (by omega), if_pos q]; exact Or.inr (Or.inl ⟨q, rfl⟩)
    · rw [if_neg (by omega), if_neg (by omega)]; exact Or.inr (Or.inr ⟨q, rfl⟩)
  · rw [if_neg hu]
    refine Or.inr ⟨hu, ?_⟩
    rcases hc with q | q | q
    · rw [if_pos q]; exact Or.inl ⟨q, rfl⟩
    · rw [if_neg (by omega), if_pos q]; exact Or.inr (Or.inl ⟨q, rfl⟩)
    · rw [if_neg (by omega), if_neg (by omega)]; exact Or.inr (Or.inr ⟨q, rfl⟩)
def zz_ncp (us j v : Int) : Prop := v = zz_nc us j
theorem zz_vN_n {idx v : Int32} {us i : Int} (e : v = zz_vN idx.toNatClampNeg) (hu : us = 0 ∨ us = 1) (hx : idx.toInt = us * 3 + i) (hi : 0 ≤ i ∧ i ≤ 2) : zz_ncp us i v.toInt := by
  have h1 := zz_vN_c e (by omega)
  have h2 := zz_nc_cases (us := us) hi
  unfold zz_ncp
  rcases hu with rfl | rfl
  · rcases h2 with ⟨-, h2⟩ | ⟨h2, -⟩
    · rcases h2 with ⟨q, h2⟩ | ⟨q, h2⟩ | ⟨q, h2⟩ <;> rw [h2] <;> omega
    · omega
  · rcases h2 with ⟨h2, -⟩ | ⟨-, h2⟩
    · omega
    · rcases h2 with ⟨q, h2⟩ | ⟨q, h2⟩ | ⟨q, h2⟩ <;> rw [h2] <;> omega
def zz_nmI (us b i : Int) : Prop := ∀ j : Int, 0 ≤ j → j < i → b ≠ zz_nc us j
theorem zz_nmI.zero {us b i : Int} (h : i ≤ 0) : zz_nmI us b i := fun j h1 h2 => absurd h2 (by omega)
theorem zz_nmI.next {us b i i2 v : Int} (h : zz_nmI us b i) (hv : zz_ncp us i v) (hne : v ≠ b) (h2 : i2 = i + 1) : zz_nmI us b i2 := fun j h0 hj => by
  by_cases q : j < i
  · exact h j h0 q
  · rw [show j = i from by omega]
    unfold zz_ncp at hv
    rw [← hv]
    exact hne.symm
theorem zz_nmI.hit {us b i v : Int} (h : zz_nmI us b i) (hv : zz_ncp us i v) (he : v = b) (hi : 0 ≤ i ∧ i ≤ 2) : zz_nmp us b i := by
  unfold zz_ncp at hv
  have h1 := zz_nc_cases (us := us) hi
  have h2 := zz_nme_cases us b
  unfold zz_nmp
  rcases h1 with ⟨u, h1⟩ | ⟨u, h1⟩
  · rcases h2 with ⟨-, h2⟩ | ⟨u2, -⟩
    · rcases h1 with ⟨q, h1⟩ | ⟨q, h1⟩ | ⟨q, h1⟩ <;> omega
    · exact absurd u u2
  · rcases h2 with ⟨u2, -⟩ | ⟨-, h2⟩
    · exact absurd u2 u
    · rcases h1 with ⟨q, h1⟩ | ⟨q, h1⟩ | ⟨q, h1⟩ <;> omega
theorem zz_nmI.none {us b i r : Int} (h : zz_nmI us b i) (hi : 3 ≤ i) (hr : r = -1) : zz_nmp us b r := by
  have a0 := h 0 (by omega) (by omega)
  have a1 := h 1 (by omega) (by omega)
  have a2 := h 2 (by omega) (by omega)
  have h2 := zz_nme_cases us b
  have c0 := zz_nc_cases (us := us) (j := 0) (by decide)
  have c1 := zz_nc_cases (us := us) (j := 1) (by decide)
  have c2 := zz_nc_cases (us := us) (j := 2) (by decide)
  unfold zz_nmp
  by_cases u : us = 0
  · have e0 : zz_nc us 0 = 103 := by omega
    have e1 : zz_nc us 1 = 104 := by omega
    have e2 : zz_nc us 2 = 110 := by omega
    rw [e0] at a0; rw [e1] at a1; rw [e2] at a2
    clear c0 c1 c2 h
    omega
  · have e0 : zz_nc us 0 = 107 := by omega
    have e1 : zz_nc us 1 = 109 := by omega
    have e2 : zz_nc us 2 = 100 := by omega
    rw [e0] at a0; rw [e1] at a1; rw [e2] at a2
    clear c0 c1 c2 h
    omega
theorem zz_nmp.low {us b r : Int} (h : zz_nmp us b r) (hr : 0 ≤ r) : 100 ≤ b ∧ b ≤ 110 := by
  have h2 := zz_nme_cases us b
  unfold zz_nmp at h
  omega
theorem zz_nmp0 {us b r : Int} (hu : us = 0) (h : (b = 103 ∧ r = 0) ∨ (b = 104 ∧ r = 1) ∨ (b = 110 ∧ r = 2)) : zz_nmp us b r := by
  have h2 := zz_nme_cases us b
  unfold zz_nmp
  omega
theorem zz_nmp1 {us b r : Int} (hu : us = 1) (h : (b = 107 ∧ r = 0) ∨ (b = 109 ∧ r = 1) ∨ (b = 100 ∧ r = 2)) : zz_nmp us b r := by
  have h2 := zz_nme_cases us b
  unfold zz_nmp
  omega
theorem zz_nmp_o1 {us b r : Int} (hu : us = 1) (h : b = 103 ∨ b = 104 ∨ b = 110) (hr : r = -1) : zz_nmp us b r := by
  have h2 := zz_nme_cases us b
  unfold zz_nmp
  omega
theorem zz_nmp_o0 {us b r : Int} (hu : us = 0) (h : b = 107 ∨ b = 109 ∨ b = 100) (hr : r = -1) : zz_nmp us b r := by
  have h2 := zz_nme_cases us b
  unfold zz_nmp
  omega
theorem zz_nmp_no {us b r : Int} (hr : r = -1) (h : b ≠ 103 ∧ b ≠ 104 ∧ b ≠ 110 ∧ b ≠ 107 ∧ b ≠ 109 ∧ b ≠ 100) : zz_nmp us b r := by
  have h2 := zz_nme_cases us b
  unfold zz_nmp
  omega
/-- what a rule of the class's reader did -/
def zz_q7 (σ σ1 : zz_S) (h0 : Nat) (r : Int) (R : zz_R3) : Prop := r = R.1 ∧ (σ1 h0 0).toInt = R.2.1 ∧ (R.1 = 1 → zz_tq σ σ1 (h0 + 1) h0 1 (R.2.2.map zz_enc))
theorem zz_q7.one {σ σ1 : zz_S} {h0 : Nat} {r r0 : Int} {R : zz_R3} (h : zz_q7 σ σ1 h0 r R) (hr : r = r0) : zz_q7 σ σ1 h0 r0 R := hr ▸ h
/-- a failed one -/
theorem zz_q7.no {σ σ1 : zz_S} {h0 : Nat} {r0 p : Int} {R : zz_R3} (hR : R = (0, p, [])) (hp : (σ1 h0 0).toInt = p) (h0r : r0 = 0) : zz_q7 σ σ1 h0 r0 R := by
  subst hR
  exact ⟨h0r, hp, fun q => absurd (show (0 : Int) = 1 from q) (by decide)⟩
theorem zz_q7.yes {σ σ1 : zz_S} {h0 : Nat} {r0 p : Int} {R : zz_R3} {l : List (Int × Int)} (hR : R = (1, p, l)) (hp : (σ1 h0 0).toInt = p) (h1 : r0 = 1) (ht : zz_tq σ σ1 (h0 + 1) h0 1 (l.map zz_enc)) : zz_q7 σ σ1 h0 r0 R := by
  subst hR
  exact ⟨h1, hp, fun _ => ht⟩
/-- the state of a number -/
def zz_n7 (T : Int → Int) (fu : Nat) (σ1 : zz_S) (h0 : Nat) (p nu : Int) : Prop := zz_nmv T fu (σ1 h0 0).toInt nu = zz_nmv T 4 p 0
theorem zz_n7.rf {T : Int → Int} {fu : Nat} {σ : zz_S} {h0 : Nat} {nu : Int} (hf : fu = 4) (hn : nu = 0) : zz_n7 T fu σ h0 (σ h0 0).toInt nu := by
  subst hf; subst hn
  exact rfl
theorem zz_n7.go {T : Int → Int} {fu fv : Nat} {σa σb : zz_S} {h0 : Nat} {p nu nv : Int} (h : zz_n7 T fu σa h0 p nu) (hf : fu = fv + 1) (hd : 48 ≤ T (σa h0 0).toInt ∧ T (σa h0 0).toInt ≤ 57) (hp : (σb h0 0).toInt = (σa h0 0).toInt + 1) (hn : nv = nu * 10 + T (σa h0 0).toInt - 48) : zz_n7 T fv σb h0 p nv := by
  unfold zz_n7 at *
  rw [hp, hn, ← h]
  exact (zz_nmv_go hf hd).symm
theorem zz_q7.num {T : Int → Int} {fu : Nat} {σ σa σb : zz_S} {h0 : Nat} {p nu : Int} (h : zz_n7 T fu σa h0 p nu) (hs : fu = 0 ∨ ¬ (48 ≤ T (σa h0 0).toInt ∧ T (σa h0 0).toInt ≤ 57)) (hk : ∀ k : Nat, σa (h0 + 1) k = σ (h0 + 1) k) (hl : σa h0 1 = σ h0 1) (ht : zz_tq σa σb (h0 + 1) h0 1 [nu]) (hp : σb h0 0 = σa h0 0) : zz_q7 σ σb h0 1 (1, (zz_nmv T 4 p 0).1, [(1, (zz_nmv T 4 p 0).2)]) := by
  have e : zz_nmv T 4 p 0 = ((σa h0 0).toInt, nu) := h.symm.trans (zz_nmv_stop hs)
  rw [e]
  exact ⟨rfl, congrArg Int32.toInt hp, fun _ => ht.inn (fun k _ => hk k) hl⟩
theorem zz_q7.unum {T : Int → Int} {us : Int} {n : Nat} {σ σ1 : zz_S} {h0 : Nat} {p r0 : Int} (h : zz_q7 σ σ1 h0 1 (1, (zz_nmv T 4 p 0).1, [(1, (zz_nmv T 4 p 0).2)])) (hd : 48 ≤ T p ∧ T p ≤ 57) (h1 : r0 = 1) : zz_q7 σ σ1 h0 r0 (zz_uq T us n p) := by
  rw [zz_uq_num (zz_nme_low (by omega)) (by omega) (by omega), show zz_nr T p = (1, (zz_nmv T 4 p 0).1, [(1, (zz_nmv T 4 p 0).2)]) from if_pos hd, h1]
  exact h
theorem zz_q7.uname {T : Int → Int} {us : Int} {N : Nat} {σ σ1 σ2 : zz_S} {h0 : Nat} {r r0 b cd : Int} {n : Int32} (hm : zz_nmp us b r) (hb : b = T (σ h0 0).toInt) (hr : 0 ≤ r) (w : σ1 = zz_u σ h0 0 n) (hn : n.toInt = (σ h0 0).toInt + 1) (ht : zz_tq σ1 σ2 (h0 + 1) h0 1 [cd]) (hcd : cd = 10000 + r) (hp : σ2 h0 0 = σ1 h0 0) (h1 : r0 = 1) : zz_q7 σ σ2 h0 r0 (zz_uq T us N (σ h0 0).toInt) := by
  unfold zz_nmp at hm
  rw [hb] at hm
  refine zz_q7.yes (zz_uq_name (by rw [← hm]; exact hr)) (by rw [hp, zz_uT w, hn]) h1 ?_
  rw [← hm]
  show zz_tq σ σ2 (h0 + 1) h0 1 [zz_enc (2, r)]
  rw [show zz_enc (2, r) = cd from hcd.symm]
  exact ht.inn (fun k _ => by rw [w, zz_un (fun q => absurd q.1 (by omega))]) (by rw [w, zz_un (fun q => absurd q.2 (by decide))])
theorem zz_q7.unone {T : Int → Int} {us : Int} {N : Nat} {σ : zz_S} {h0 : Nat} {r r0 b : Int} (hm : zz_nmp us b r) (hb : b = T (σ h0 0).toInt) (hr : r < 0) (hd : ¬ (48 ≤ b ∧ b ≤ 57)) (hx : N = 0 ∨ (b ≠ 33 ∧ b ≠ 40)) (h0r : r0 = 0) : zz_q7 σ σ h0 r0 (zz_uq T us N (σ h0 0).toInt) := by
  unfold zz_nmp at hm
  rw [hb] at hm hd hx
  have hm2 : ¬ 0 ≤ zz_nme us (T (σ h0 0).toInt) := by omega
  by_cases q : T (σ h0 0).toInt = 33 ∨ T (σ h0 0).toInt = 40
  · exact zz_q7.no (zz_uq_full (hx.resolve_right (fun z => q.elim z.1 z.2)) hm2 q) rfl h0r
  · exact zz_q7.no ((zz_uq_num hm2 (fun z => q (Or.inl z)) (fun z => q (Or.inr z))).trans (if_neg hd)) rfl h0r
theorem zz_q7.inn {σ σ1 σ2 : zz_S} {h0 : Nat} {r : Int} {R : zz_R3} {n : Int32} (h : zz_q7 σ1 σ2 h0 r R) (w : σ1 = zz_u σ h0 0 n) : zz_q7 σ σ2 h0 r R := ⟨h.1, h.2.1, fun q => (h.2.2 q).inn (fun k _ => by rw [w, zz_un (fun q => absurd q.1 (by omega))]) (by rw [w, zz_un (fun q => absurd q.2 (by decide))])⟩
theorem zz_q7.unot {T : Int → Int} {us : Int} {N m : Nat} {σ σ1 σ2 : zz_S} {h0 : Nat} {r b : Int} {n : Int32} (h : zz_q7 σ1 σ2 h0 r (zz_nt (fun q => zz_uq T us m q) (σ1 h0 0).toInt)) (w : σ1 = zz_u σ h0 0 n) (hn : n.toInt = (σ h0 0).toInt + 1) (hN : N = m + 1) (hb : b = T (σ h0 0).toInt) (h33 : b = 33) : zz_q7 σ σ2 h0 r (zz_uq T us N (σ h0 0).toInt) := by
  rw [zz_uq_not hN (zz_nme_low (by omega)) (by omega), ← hn, ← zz_uT w]
  exact h.inn w
theorem zz_q7.urest {T : Int → Int} {us : Int} {N m : Nat} {σ σ1 σ2 : zz_S} {h0 : Nat} {r b : Int} {n : Int32} (h : zz_q7 σ1 σ2 h0 r (zz_rs T (fun q => zz_uq T us m q) (σ1 h0 0).toInt)) (w : σ1 = zz_u σ h0 0 n) (hn : n.toInt = (σ h0 0).toInt + 1) (hN : N = m + 1) (hb : b = T (σ h0 0).toInt) (h40 : b = 40) : zz_q7 σ σ2 h0 r (zz_uq T us N (σ h0 0).toInt) := by
  rw [zz_uq_rest hN (zz_nme_low (by omega)) (by omega), ← hn, ← zz_uT w]
  exact h.inn w
theorem zz_q7.nfail {U : Int → zz_R3} {σ σ1 : zz_S} {h0 : Nat} {r r0 p : Int} (h : zz_q7 σ σ1 h0 r (U p)) (hr : r ≠ 1) (h0r : r0 = 0) : zz_q7 σ σ1 h0 r0 (zz_nt U p) :=
  zz_q7.no (if_neg (fun q => hr (h.1.trans q))) h.2.1 h0r
theorem zz_q7.nok {U : Int → zz_R3} {σ σ1 σ2 : zz_S} {h0 : Nat} {r r0 p cd : Int} (h : zz_q7 σ σ1 h0 r (U p)) (hr : r = 1) (ht : zz_tq σ1 σ2 (h0 + 1) h0 1 [cd]) (hcd : cd = 20033) (hp : σ2 h0 0 = σ1 h0 0) (h1 : r0 = 1) : zz_q7 σ σ2 h0 r0 (zz_nt U p) := by
  have e : (U p).1 = 1 := h.1.symm.trans hr
  refine zz_q7.yes (if_pos e) (by rw [hp]; exact h.2.1) h1 ?_
  rw [List.map_append]
  show zz_tq σ σ2 (h0 + 1) h0 1 ((U p).2.2.map zz_enc ++ [20033])
  rw [← hcd]
  exact (h.2.2 e).tr ht
theorem zz_q7.rfail {T : Int → Int} {U : Int → zz_R3} {σ σ1 : zz_S} {h0 : Nat} {r r0 p : Int} (h : zz_q7 σ σ1 h0 r (zz_lw T U 0 p)) (hx : r ≠ 1 ∨ T (σ1 h0 0).toInt ≠ 41) (h0r : r0 = 0) : zz_q7 σ σ1 h0 r0 (zz_rs T U p) :=
  zz_q7.no (if_neg (fun q => hx.elim (fun z => z (h.1.trans q.1)) (fun z => z (by rw [h.2.1]; exact q.2)))) h.2.1 h0r
theorem zz_q7.rok {T : Int → Int} {U : Int → zz_R3} {σ σ1 σ2 : zz_S} {h0 : Nat} {r r0 p : Int} {n : Int32} (h : zz_q7 σ σ1 h0 r (zz_lw T U 0 p)) (hr : r = 1) (h41 : T (σ1 h0 0).toInt = 41) (w : σ2 = zz_u σ1 h0 0 n) (hn : n.toInt = (σ1 h0 0).toInt + 1) (h1 : r0 = 1) : zz_q7 σ σ2 h0 r0 (zz_rs T U p) := by
  have e : (zz_lw T U 0 p).1 = 1 := h.1.symm.trans hr
  rw [h.2.1] at h41
  exact zz_q7.yes (if_pos ⟨e, h41⟩) (by rw [zz_uT w, hn, h.2.1]) h1 ((h.2.2 e).out (fun k _ => by rw [w, zz_un (fun q => absurd q.1 (by omega))]) (by rw [w, zz_un (fun q => absurd q.2 (by decide))]))
/-- a level: its first piece -/
theorem zz_q7.l5 {T : Int → Int} {U : Int → zz_R3} {w : Int} {σ σ1 : zz_S} {h0 : Nat} {r p : Int} (hw : w = 5) (h : zz_q7 σ σ1 h0 r (U p)) : zz_q7 σ σ1 h0 r (zz_lw T U w p) := by
  rw [zz_lw_5 hw]
  exact h
theorem zz_q7.lno {T : Int → Int} {U : Int → zz_R3} {w : Int} {σ σ1 : zz_S} {h0 : Nat} {r r0 p : Int} (h : zz_q7 σ σ1 h0 r (zz_lw T U (w + 1) p)) (hw : 0 ≤ w ∧ w < 5) (hr : r ≠ 1) (h0r : r0 = 0) : zz_q7 σ σ1 h0 r0 (zz_lw T U w p) :=
  zz_q7.no ((zz_lw_s (fu := if w = 2 then 1 else 60) p hw (by by_cases q : w = 2
                                                              · exact Or.inl ⟨q, if_pos q⟩
                                                              · exact Or.inr ⟨q, if_neg q⟩)).trans (zz_ls_no (fun q => hr (h.1.trans q)))) h.2.1 h0r
/-- the loop of a level -/
def zz_l7 (T : Int → Int) (U : Int → zz_R3) (w : Int) (fu : Nat) (σ σ1 : zz_S) (h0 : Nat) (R0 : zz_R3) : Prop := ∃ l : List (Int × Int), zz_lp T w (fun q => zz_lw T U (w + 1) q) fu (σ1 h0 0).toInt l = R0 ∧ zz_tq σ σ1 (h0 + 1) h0 1 (l.map zz_enc)
theorem zz_q7.l7 {T : Int → Int} {U : Int → zz_R3} {w : Int} {fu : Nat} {σ σ1 : zz_S} {h0 : Nat} {p : Int} (h : zz_q7 σ σ1 h0 1 (zz_lw T U (w + 1) p)) (hw : 0 ≤ w ∧ w < 5) (hf : (w = 2 ∧ fu = 1) ∨ (w ≠ 2 ∧ fu = 60)) : zz_l7 T U w fu σ σ1 h0 (zz_lw T U w p) :=
  ⟨(zz_lw T U (w + 1) p).2.2, by rw [zz_lw_s p hw hf, zz_ls_ok (sub := fun q => zz_lw T U (w + 1) q) h.1.symm, h.2.1], h.2.2 h.1.symm⟩
theorem zz_l7.stop {T : Int → Int} {U : Int → zz_R3} {w : Int} {fu : Nat} {σ σ1 : zz_S} {h0 : Nat} {R0 : zz_R3} {r0 : Int} (h : zz_l7 T U w fu σ σ1 h0 R0) (hs : fu = 0 ∨ zz_lvl (T (σ1 h0 0).toInt) ≠ w) (h1 : r0 = 1) : zz_q7 σ σ1 h0 r0 R0 := by
  obtain ⟨l, e, t⟩ := h
  rw [zz_lp_stop hs] at e
  exact zz_q7.yes e.symm rfl h1 t
theorem zz_l7.fail {T : Int → Int} {U : Int → zz_R3} {w : Int} {fu : Nat} {σ σa σb σc : zz_S} {h0 : Nat} {R0 : zz_R3} {r r0 : Int} {n : Int32} (h : zz_l7 T U w fu σ σa h0 R0) (hf : fu ≠ 0) (hl : zz_lvl (T (σa h0 0).toInt) = w) (w1 : σb = zz_u σa h0 0 n) (hn : n.toInt = (σa h0 0).toInt + 1) (hq : zz_q7 σb σc h0 r (zz_lw T U (w + 1) (σb h0 0).toInt)) (hr : r ≠ 1) (h0r : r0 = 0) : zz_q7 σ σc h0 r0 R0 := by
  obtain ⟨l, e, t⟩ := h
  rw [zz_uT w1, hn] at hq
  rw [zz_lp_fail hf hl (fun q => hr (hq.1.trans q))] at e
  exact zz_q7.no e.symm hq.2.1 h0r
theorem zz_enc_sg {b w : Int} (h : zz_lvl b = w) (hw : 0 ≤ w) : zz_enc (b, 0) = 20000 + b := by
  have h2 := zz_lvl_low h hw
  show (if b = 1 then 0 else if b = 2 then 10000 + 0 else if b = 3 then 20033 else 20000 + b) = 20000 + b
  rw [if_neg (by omega), if_neg (by omega), if_neg (by omega)]
theorem zz_l7.next {T : Int → Int} {U : Int → zz_R3} {w : Int} {fu fv : Nat} {σ σa σb σc σd : zz_S} {h0 : Nat} {R0 : zz_R3} {r cd : Int} {n : Int32} (h : zz_l7 T U w fu σ σa h0 R0) (hf : fu = fv + 1) (hw : 0 ≤ w) (hl : zz_lvl (T (σa h0 0).toInt) = w) (w1 : σb = zz_u σa h0 0 n) (hn : n.toInt = (σa h0 0).toInt + 1) (hq : zz_q7 σb σc h0 r (zz_lw T U (w + 1) (σb h0 0).toInt)) (hr : r = 1) (ht : zz_tq σc σd (h0 + 1) h0 1 [cd]) (hcd : cd = 20000 + T (σa h0 0).toInt) (hp : σd h0 0 = σc h0 0) : zz_l7 T U w fv σ σd h0 R0 := by
  obtain ⟨l, e, t⟩ := h
  have hi := hq.inn w1
  rw [zz_uT w1, hn] at hi
  have h1 : (zz_lw T U (w + 1) ((σa h0 0).toInt + 1)).1 = 1 := hi.1.symm.trans hr
  rw [zz_lp_go hf hl h1] at e
  refine ⟨l ++ (zz_lw T U (w + 1) ((σa h0 0).toInt + 1)).2.2 ++ [(T (σa h0 0).toInt, 0)], ?_, ?_⟩
  · rw [hp, hi.2.1]
    exact e
  · rw [List.map_append, List.map_append]
    show zz_tq σ σd (h0 + 1) h0 1 (l.map zz_enc ++ (zz_lw T U (w + 1) ((σa h0 0).toInt + 1)).2.2.map zz_enc ++ [zz_enc (T (σa h0 0).toInt, 0)])
    rw [zz_enc_sg hl hw, ← hcd]
    exact (t.tr (hi.2.2 h1)).tr ht
theorem zz_cpk {σ σ1 : zz_S} {a0 a k : Nat} {sp dp n : Int32} (w : σ1 = zz_cp σ a0 a sp.toNatClampNeg dp.toNatClampNeg n.toNatClampNeg) (hs : sp.toInt = 0) (hd : dp.toInt = 0) (hk : (k : Int) < n.toInt) : σ1 a k = σ a0 k := by
  have e1 : sp.toNatClampNeg = 0 := by show sp.toInt.toNat = 0; omega
  have e2 : dp.toNatClampNeg = 0 := by show dp.toInt.toNat = 0; omega
  rw [w, e1, e2, zz_cpa, pk_cpy_in (Nat.zero_le _) (by show k < 0 + n.toInt.toNat; omega), Nat.zero_add, Nat.sub_zero]
/-! ===== what lies on the tape; TEXTS ===== -/
def zz_Tp (σ : zz_S) (a : Nat) (c : Int) : Int → Int := fun p => if 0 ≤ p ∧ p < c then ((σ a p.toNat) &&& 255).toInt else -1
def zz_Tm (σ : zz_S) (a : Nat) : Int → Int := fun p => if 0 ≤ p ∧ p < (σ a 5).toInt then (σ a (73 + p.toNat)).toInt else -1
theorem zz_Tp.eq {σ σ1 : zz_S} {a b : Nat} {c c1 : Int} (hc : c1 = c) (hb : c ≤ 60) (h : ∀ k : Nat, k < 60 → σ1 b k = σ a k) : zz_Tp σ1 b c1 = zz_Tp σ a c := by
  funext p
  simp only [zz_Tp]
  rw [hc]
  by_cases q : 0 ≤ p ∧ p < c
  · rw [if_pos q, if_pos q, h _ (by omega)]
  · rw [if_neg q, if_neg q]
theorem zz_Tm.eq {σ σ1 : zz_S} {a b : Nat} (h5 : σ1 b 5 = σ a 5) (hb : (σ a 5).toInt ≤ 60) (h : ∀ k : Nat, k < 60 → σ1 b (73 + k) = σ a (73 + k)) : zz_Tm σ1 b = zz_Tm σ a := by
  funext p
  simp only [zz_Tm]
  rw [h5]
  by_cases q : 0 ≤ p ∧ p < (σ a 5).toInt
  · rw [if_pos q, if_pos q, h _ (by omega)]
  · rw [if_neg q, if_neg q]
theorem zz_Tp.z {σ : zz_S} {a : Nat} {c : Int} (hc : c = 0) : zz_Tp σ a c = fun _ => -1 := by
  funext p
  simp only [zz_Tp]
  exact if_neg (by omega)
theorem zz_Tm.z {σ : zz_S} {a : Nat} (hc : (σ a 5).toInt = 0) : zz_Tm σ a = fun _ => -1 := by
  funext p
  simp only [zz_Tm]
  exact if_neg (by omega)
theorem zz_aq_lt : ∀ (l : List Int) (V : Nat → Int) (n : Int) (k : Nat), (k : Int) < n → zz_aq l V n k = V k
  | [], V, n, k, h => rfl
  | b :: l, V, n, k, h => by
    show (if n < 60 then zz_aq l (zz_wn V n b) (n + 1) else zz_aq l V n) k = V k
    by_cases q : n < 60
    · rw [if_pos q, zz_aq_lt l _ _ k (by omega)]
      exact if_neg (by omega)
    · rw [if_neg q]
      exact zz_aq_lt l V n k h
theorem zz_aln_no : ∀ (l : List Int) (n : Int), ¬ n < 60 → zz_aln l n = n
  | [], n, h => rfl
  | b :: l, n, h => (if_neg h).trans (zz_aln_no l n h)
theorem zz_aln_b : ∀ (l : List Int) (n : Int), n ≤ 60 → n ≤ zz_aln l n ∧ zz_aln l n ≤ 60
  | [], n, h => ⟨Int.le_refl _, h⟩
  | b :: l, n, h => by
    show n ≤ (if n < 60 then zz_aln l (n + 1) else zz_aln l n) ∧ (if n < 60 then zz_aln l (n + 1) else zz_aln l n) ≤ 60
    by_cases q : n < 60
    · rw [if_pos q]
      have h2 := zz_aln_b l (n + 1) (by omega)
      omega
    · rw [if_neg q, zz_aln_no l n q]
      omega
theorem zz_aq_get : ∀ (l : List Int) (V : Nat → Int) (n : Int) (k : Nat), 0 ≤ n → n ≤ (k : Int) → (k : Int) < zz_aln l n → zz_aq l V n k = (l[k - n.toNat]?).getD 0
  | [], V, n, k, h0, h1, h2 => absurd h2 (by show ¬ (k : Int) < n; omega)
  | b :: l, V, n, k, h0, h1, h2 => by
    have h3 : (k : Int) < (if n < 60 then zz_aln l (n + 1) else zz_aln l n) := h2
    show (if n < 60 then zz_aq l (zz_wn V n b) (n + 1) else zz_aq l V n) k = _
    by_cases q : n < 60
    · rw [if_pos q] at h3
      rw [if_pos q]
      by_cases e : (k : Int) = n
      · rw [zz_aq_lt l _ _ k (by omega), show k - n.toNat = 0 from by omega]
        exact if_pos e
      · rw [zz_aq_get l _ (n + 1) k (by omega) (by omega) h3, show k - n.toNat = (k - (n + 1).toNat) + 1 from by omega, List.getElem?_cons_succ]
    · rw [if_neg q, zz_aln_no l n q] at h3
      omega
theorem zz_aln_len : ∀ (l1 l2 : List Int) (n : Int), l1.length = l2.length → zz_aln l1 n = zz_aln l2 n
  | [], [], n, h => rfl
  | a :: l1, b :: l2, n, h => by
    show (if n < 60 then zz_aln l1 (n + 1) else zz_aln l1 n) = (if n < 60 then zz_aln l2 (n + 1) else zz_aln l2 n)
    have h2 : l1.length = l2.length := Nat.succ.inj h
    rw [zz_aln_len l1 l2 (n + 1) h2, zz_aln_len l1 l2 n h2]
  | [], _ :: _, _, h => absurd h (by simp)
  | _ :: _, [], _, h => absurd h (by simp)
/-- a whole TEXT was read, or not -/
def zz_W7 (σ1 : zz_S) (h0 : Nat) (r c : Int) (R : zz_R3) : Prop := (σ1 h0 0).toInt = R.2.1 ∧ ((r = 1 ∧ R.1 = 1 ∧ R.2.1 = c ∧ (σ1 h0 1).toInt = zz_aln (R.2.2.map zz_enc) 0 ∧ ∀ k : Nat, (k : Int) < zz_aln (R.2.2.map zz_enc) 0 → (σ1 (h0 + 1) k).toInt = ((R.2.2.map zz_enc)[k]?).getD 0) ∨ (r = 0 ∧ ¬ (R.1 = 1 ∧ R.2.1 = c)))
theorem zz_q7.whole {σ σ1 : zz_S} {h0 : Nat} {r r0 c : Int} {R : zz_R3} (h : zz_q7 σ σ1 h0 r R) (h1 : (σ h0 1).toInt = 0) (hc : (r0 = 1 ∧ r = 1 ∧ (σ1 h0 0).toInt = c) ∨ (r0 = 0 ∧ r ≠ 1) ∨ (r0 = 0 ∧ r = 1 ∧ (σ1 h0 0).toInt ≠ c)) : zz_W7 σ1 h0 r0 c R := by
  refine ⟨h.2.1, ?_⟩
  rcases hc with ⟨a, b, d⟩ | ⟨a, b⟩ | ⟨a, b, d⟩
  · have e : R.1 = 1 := h.1.symm.trans b
    obtain ⟨t1, t2⟩ := h.2.2 e
    rw [h1] at t1 t2
    refine Or.inl ⟨a, e, h.2.1.symm.trans d, t2, fun k hk => ?_⟩
    have hb := (zz_aln_b (R.2.2.map zz_enc) 0 (by decide)).2
    have e2 : zz_KV σ1 (h0 + 1) k = (σ1 (h0 + 1) k).toInt := if_pos (by omega)
    rw [← e2, t1, zz_aq_get _ _ 0 k (Int.le_refl _) (by omega) hk]
    rfl
  · exact Or.inr ⟨a, fun q => b (h.1.trans q.1)⟩
  · exact Or.inr ⟨a, fun q => d (h.2.1.trans q.2)⟩
abbrev zz_X3 : Type := Int × Int × (Nat → Int)
abbrev zz_M3 : Type := Int × (Nat → Int) × (Nat → Int)
def zz_XC (σ : zz_S) (t : Nat) : Nat → Int := fun k => if (k : Int) < (σ t 1).toInt then (σ (t + 1) k).toInt else 0
def zz_XT (σ : zz_S) (r : Nat) : Nat → zz_X3 := fun u => if u < 2 then ((σ (r + 21 + 3 * u) 0).toInt, (σ (r + 21 + 3 * u) 1).toInt, zz_XC σ (r + 21 + 3 * u)) else (0, 0, fun _ => 0)
def zz_MC (σ : zz_S) (a b : Nat) (n : Int) : Nat → Int := fun k => if (k : Int) < n then (σ a (b + k)).toInt else 0
def zz_MT (σ : zz_S) (a : Nat) : Nat → zz_M3 := fun u => if u < 2 then ((σ a (157 + 121 * u)).toInt, zz_MC σ a (158 + 121 * u) (σ a (157 + 121 * u)).toInt, zz_MC σ a (218 + 121 * u) (σ a (157 + 121 * u)).toInt) else (0, fun _ => 0, fun _ => 0)
theorem zz_XC.eq {σ σ1 : zz_S} {t t1 : Nat} (h1 : σ1 t1 1 = σ t 1) (hc : ∀ k : Nat, (k : Int) < (σ t 1).toInt → σ1 (t1 + 1) k = σ (t + 1) k) : zz_XC σ1 t1 = zz_XC σ t := by
  funext k
  simp only [zz_XC]
  rw [h1]
  by_cases q : (k : Int) < (σ t 1).toInt
  · rw [if_pos q, if_pos q, hc k q]
  · rw [if_neg q, if_neg q]
theorem zz_XT.eq {σ σ1 : zz_S} {r r1 : Nat} (h0 : ∀ u : Nat, u < 2 → σ1 (r1 + 21 + 3 * u) 0 = σ (r + 21 + 3 * u) 0) (h1 : ∀ u : Nat, u < 2 → σ1 (r1 + 21 + 3 * u) 1 = σ (r + 21 + 3 * u) 1) (hc : ∀ u : Nat, u < 2 → ∀ k : Nat, (k : Int) < (σ (r + 21 + 3 * u) 1).toInt → σ1 (r1 + 21 + 3 * u + 1) k = σ (r + 21 + 3 * u + 1) k) : zz_XT σ1 r1 = zz_XT σ r := by
  funext u
  simp only [zz_XT]
  by_cases q : u < 2
  · rw [if_pos q, if_pos q, h0 u q, h1 u q, zz_XC.eq (h1 u q) (hc u q)]
  · rw [if_neg q, if_neg q]
theorem zz_MT.eq {σ σ1 : zz_S} {a b : Nat} (h : ∀ k : Nat, 157 ≤ k → k < 399 → σ1 b k = σ a k) (hl : ∀ u : Nat, u < 2 → (σ a (157 + 121 * u)).toInt ≤ 60) : zz_MT σ1 b = zz_MT σ a := by
  funext u
  simp only [zz_MT]
  by_cases q : u < 2
  · rw [if_pos q, if_pos q, h _ (by omega) (by omega)]
    have l9 := hl u q
    have e : ∀ c : Nat, (c = 158 + 121 * u ∨ c = 218 + 121 * u) → zz_MC σ1 b c (σ a (157 + 121 * u)).toInt = zz_MC σ a c (σ a (157 + 121 * u)).toInt := by
      intro c hc
      funext k
      simp only [zz_MC]
      by_cases p : (k : Int) < (σ a (157 + 121 * u)).toInt
      · rw [if_pos p, if_pos p, h _ (by omega) (by omega)]
      · rw [if_neg p, if_neg p]
    rw [e _ (Or.inl rfl), e _ (Or.inr rfl)]
  · rw [if_neg q, if_neg q]
def zz_xw (X : Nat → zz_X3) (d : Int) (q : zz_X3) : Nat → zz_X3 := fun u => if (u : Int) = d then q else X u
def zz_mw (M : Nat → zz_M3) (d : Int) (q : zz_M3) : Nat → zz_M3 := fun u => if (u : Int) = d then q else M u
/-- a list as the cells of a row -/
def zz_lk (l : List Int) (n : Int) : Nat → Int := fun k => if (k : Int) < n then (l[k]?).getD 0 else 0
def zz_nx (l : List (Int × Int)) : zz_X3 := (1, zz_aln (l.map zz_enc) 0, zz_lk (l.map zz_enc) (zz_aln (l.map zz_enc) 0))
def zz_nm (l : List (Int × Int)) : zz_M3 := (zz_aln (l.map Prod.fst) 0, zz_lk (l.map Prod.fst) (zz_aln (l.map Prod.fst) 0), zz_lk (l.map Prod.snd) (zz_aln (l.map Prod.fst) 0))
/-- what text() does with TEXTS, on both sides -/
def zz_tx (R : zz_R3) (c r : Int) (X X1 : Nat → zz_X3) (us : Int) : Prop := (R.1 = 1 ∧ R.2.1 = c ∧ r = 1 ∧ X1 = zz_xw X us (zz_nx R.2.2)) ∨ (¬ (R.1 = 1 ∧ R.2.1 = c) ∧ r = -10 - R.2.1 ∧ X1 = X)
def zz_tm (R : zz_R3) (c r : Int) (M M1 : Nat → zz_M3) (us : Int) : Prop := (R.1 = 1 ∧ R.2.1 = c ∧ r = 1 ∧ M1 = zz_mw M us (zz_nm R.2.2)) ∨ (¬ (R.1 = 1 ∧ R.2.1 = c) ∧ r = -10 - R.2.1 ∧ M1 = M)
/-- a new TEXT, the class's view -/
theorem zz_XT.new {σ σ1 : zz_S} {r t u : Nat} {d : Int} {l : List (Int × Int)} (hd : (u : Int) = d) (hu : u < 2) (ht : t = r + 21 + 3 * u) (h0 : (σ1 t 0).toInt = 1) (h1 : (σ1 t 1).toInt = zz_aln (l.map zz_enc) 0) (hc : ∀ k : Nat, (k : Int) < zz_aln (l.map zz_enc) 0 → (σ1 (t + 1) k).toInt = ((l.map zz_enc)[k]?).getD 0) (ho : ∀ v : Nat, v < 2 → v ≠ u → (∀ k : Nat, σ1 (r + 21 + 3 * v) k = σ (r + 21 + 3 * v) k) ∧ ∀ k : Nat, σ1 (r + 21 + 3 * v + 1) k = σ (r + 21 + 3 * v + 1) k) : zz_XT σ1 r = zz_xw (zz_XT σ r) d (zz_nx l) := by
  subst ht
  funext v
  simp only [zz_XT, zz_xw]
  by_cases e : v = u
  · subst e
    rw [if_pos hu, if_pos hd, h0, h1]
    have e2 : zz_XC σ1 (r + 21 + 3 * v) = zz_lk (l.map zz_enc) (zz_aln (l.map zz_enc) 0) := by
      funext k
      simp only [zz_XC, zz_lk]
      rw [h1]
      by_cases p : (k : Int) < zz_aln (l.map zz_enc) 0
      · rw [if_pos p, if_pos p, hc k p]
      · rw [if_neg p, if_neg p]
    rw [e2]
    rfl
  · rw [if_neg (show ¬ (v : Int) = d by omega)]
    by_cases q : v < 2
    · obtain ⟨a1, a2⟩ := ho v q e
      rw [if_pos q, if_pos q, a1 0, a1 1, zz_XC.eq (a1 1) (fun k _ => a2 k)]
    · rw [if_neg q, if_neg q]
/-- only whether it stands -/
theorem zz_XT.std {σ σ1 : zz_S} {r t u : Nat} {d : Int} {v : Int32} (w : σ1 = zz_u σ t 0 v) (hd : (u : Int) = d) (hu : u < 2) (ht : t = r + 21 + 3 * u) : zz_XT σ1 r = zz_xw (zz_XT σ r) d (v.toInt, (zz_XT σ r u).2) := by
  subst ht
  funext j
  simp only [zz_XT, zz_xw]
  by_cases e : j = u
  · subst e
    rw [if_pos hu, if_pos hd, w, zz_us, zz_un (fun q => absurd q.2 (by decide))]
    rw [show zz_XC (zz_u σ (r + 21 + 3 * j) 0 v) (r + 21 + 3 * j) = zz_XC σ (r + 21 + 3 * j) from zz_XC.eq (zz_un (fun q => absurd q.2 (by decide))) (fun k _ => zz_un (fun q => absurd q.1 (by omega)))]
    rw [if_pos hu]
  · rw [if_neg (show ¬ (j : Int) = d by omega)]
    by_cases q : j < 2
    · rw [if_pos q, if_pos q, w, zz_un (fun z => absurd z.1 (by omega)), zz_un (fun z => absurd z.1 (by omega)), zz_XC.eq (zz_un (fun z => absurd z.1 (by omega))) (fun k _ => zz_un (fun z => absurd z.1 (by omega)))]
    · rw [if_neg q, if_neg q]
/-- a new TEXT, the reference's view -/
theorem zz_MT.new {σ σ1 : zz_S} {a u : Nat} {d : Int} {l : List (Int × Int)} (hd : (u : Int) = d) (hu : u < 2) (h1 : (σ1 a (157 + 121 * u)).toInt = zz_aln (l.map Prod.fst) 0) (hc : ∀ k : Nat, (k : Int) < zz_aln (l.map Prod.fst) 0 → (σ1 a (158 + 121 * u + k)).toInt = ((l.map Prod.fst)[k]?).getD 0) (hw : ∀ k : Nat, (k : Int) < zz_aln (l.map Prod.fst) 0 → (σ1 a (218 + 121 * u + k)).toInt = ((l.map Prod.snd)[k]?).getD 0) (hl : ∀ v : Nat, v < 2 → (σ a (157 + 121 * v)).toInt ≤ 60) (ho : ∀ k : Nat, 157 ≤ k → (k < 157 + 121 * u ∨ 278 + 121 * u ≤ k) → σ1 a k = σ a k) : zz_MT σ1 a = zz_mw (zz_MT σ a) d (zz_nm l) := by
  funext v
  simp only [zz_MT, zz_mw]
  by_cases e : v = u
  · subst e
    rw [if_pos hu, if_pos hd, h1]
    have e1 : zz_MC σ1 a (158 + 121 * v) (zz_aln (l.map Prod.fst) 0) = zz_lk (l.map Prod.fst) (zz_aln (l.map Prod.fst) 0) := by
      funext k
      simp only [zz_MC, zz_lk]
      by_cases p : (k : Int) < zz_aln (l.map Prod.fst) 0
      · rw [if_pos p, if_pos p, hc k p]
      · rw [if_neg p, if_neg p]
    have e2 : zz_MC σ1 a (218 + 121 * v) (zz_aln (l.map Prod.fst) 0) = zz_lk (l.map Prod.snd) (zz_aln (l.map Prod.fst) 0) := by
      funext k
      simp only [zz_MC, zz_lk]
      by_cases p : (k : Int) < zz_aln (l.map Prod.fst) 0
      · rw [if_pos p, if_pos p, hw k p]
      · rw [if_neg p, if_neg p]
    rw [e1, e2]
    rfl
  · rw [if_neg (show ¬ (v : Int) = d by omega)]
    by_cases q : v < 2
    · have l9 := hl v q
      have e1 : ∀ c : Nat, (c = 158 + 121 * v ∨ c = 218 + 121 * v) → zz_MC σ1 a c (σ a (157 + 121 * v)).toInt = zz_MC σ a c (σ a (157 + 121 * v)).toInt := by
        intro c hc
        funext k
        simp only [zz_MC]
        by_cases p : (k : Int) < (σ a (157 + 121 * v)).toInt
        · rw [if_pos p, if_pos p, ho _ (by omega) (by omega)]
        · rw [if_neg p, if_neg p]
      rw [if_pos q, if_pos q, ho _ (by omega) (by omega), e1 _ (Or.inl rfl), e1 _ (Or.inr rfl)]
    · rw [if_neg q, if_neg q]
/-! ===== bytes of a word ===== -/
def zz_by (w : Int64) (i : Int) : Int := w.toInt / ((2 ^ (8 * i.toNat) : Nat) : Int) % 256
def zz_fd (T : Int → Int) (c : Int) (w : Int64) (n : Int) : Int → Int := fun p => if c ≤ p ∧ p < c + n then zz_by w (p - c) else T p
theorem zz_fd_0 {T : Int → Int} {c n : Int} {w : Int64} (hn : n = 0) : zz_fd T c w n = T := by
  funext p
  exact if_neg (by omega)
theorem zz_fd_s {T T1 : Int → Int} {c n m v : Int} {w : Int64} (hm : m = n + 1) (h0 : 0 ≤ n) (hv : v = zz_by w n) (h : ∀ p : Int, T1 p = if p = c + n then v else zz_fd T c w n p) : T1 = zz_fd T c w m := by
  funext p
  rw [h p]
  simp only [zz_fd]
  by_cases e : p = c + n
  · rw [if_pos e, if_pos (by omega), hv, show p - c = n from by omega]
  · rw [if_neg e]
    by_cases q : c ≤ p ∧ p < c + n
    · rw [if_pos q, if_pos (by omega)]
    · rw [if_neg q, if_neg (by omega)]
theorem zz_Tp.more {σa σb σc : zz_S} {a r j : Nat} {v n : Int32} {T : Int → Int} {c0 c c2 i i2 : Int} {wd : Int64} (w1 : σb = zz_u σa a j v) (w2 : σc = zz_u σb r 9 n) (hra : ¬ a = r) (h : zz_Tp σa a c = zz_fd T c0 wd i) (hj : (j : Int) = c) (hc : c = c0 + i) (hi : 0 ≤ i) (hcc : c2 = c + 1) (hii : i2 = i + 1) (hv : (v &&& 255).toInt = zz_by wd i) : zz_Tp σc a c2 = zz_fd T c0 wd i2 := by
  refine zz_fd_s hii hi hv (fun p => ?_)
  rw [← h]
  simp only [zz_Tp]
  by_cases e : p = c0 + i
  · rw [if_pos e, if_pos (by omega), w2, zz_un (fun q => hra q.1), w1, show p.toNat = j from by omega, zz_us]
  · rw [if_neg e]
    by_cases q : 0 ≤ p ∧ p < c
    · rw [if_pos q, if_pos (by omega), w2, zz_un (fun q => hra q.1), w1, zz_un (fun z => by omega)]
    · rw [if_neg q, if_neg (by omega)]
theorem zz_lowb (x : BitVec 8) : ((x.signExtend 32) &&& 255#32).toNat = x.toNat := by
  have h : ∀ n : Fin (2 ^ 8), (((BitVec.ofFin n : BitVec 8).signExtend 32) &&& 255#32).toNat = n.val := by decide +kernel
  exact h x.toFin
theorem zz_b255 {n b : Int32} (e3 : b = n.toInt8.toInt32) : (b &&& 255).toInt = ((n.toBitVec.toNat % 256 : Nat) : Int) := by
  have h1 : (b &&& 255).toBitVec = (((n.toBitVec.signExtend 8).signExtend 32) &&& 255#32) := by rw [e3]; rfl
  have h2 : (b &&& 255).toBitVec.toNat = n.toBitVec.toNat % 256 := by rw [h1, zz_lowb, BitVec.signExtend_eq_setWidth_of_le _ (by decide), BitVec.toNat_setWidth]
  have h3 : (b &&& 255).toBitVec.toInt = (((b &&& 255).toBitVec.toNat : Nat) : Int) := BitVec.toInt_eq_toNat_of_lt (by rw [h2]; omega)
  rw [← h2]
  exact h3
theorem zz_w64 (w : Int64) : w.toInt = (w.toBitVec.toNat : Int) ∨ w.toInt = (w.toBitVec.toNat : Int) - 18446744073709551616 := by
  have h : w.toInt = if 2 * w.toBitVec.toNat < 2 ^ 64 then (w.toBitVec.toNat : Int) else (w.toBitVec.toNat : Int) - ((2 ^ 64 : Nat) : Int) := BitVec.toInt_eq_toNat_cond w.toBitVec
  by_cases q : 2 * w.toBitVec.toNat < 2 ^ 64
  · rw [if_pos q] at h; exact Or.inl h
  · rw [if_neg q] at h; exact Or.inr h
theorem zz_byE (w : Int64) (k : Nat) (h8 : k < 8) : ((w.toBitVec.toNat / 2 ^ (8 * k) % 2 ^ 32 % 256 : Nat) : Int) = zz_by w (k : Int) := by
  have h2 := zz_w64 w
  unfold zz_by
  rw [Int.toNat_natCast]
  have h3 : k = 0 ∨ k = 1 ∨ k = 2 ∨ k = 3 ∨ k = 4 ∨ k = 5 ∨ k = 6 ∨ k = 7 := by omega
  rcases h3 with rfl | rfl | rfl | rfl | rfl | rfl | rfl | rfl
  · show ((w.toBitVec.toNat / 1 % 4294967296 % 256 : Nat) : Int) = w.toInt / ((1 : Nat) : Int) % 256; omega
  · show ((w.toBitVec.toNat / 256 % 4294967296 % 256 : Nat) : Int) = w.toInt / ((256 : Nat) : Int) % 256; omega
  · show ((w.toBitVec.toNat / 65536 % 4294967296 % 256 : Nat) : Int) = w.toInt / ((65536 : Nat) : Int) % 256; omega
  · show ((w.toBitVec.toNat / 16777216 % 4294967296 % 256 : Nat) : Int) = w.toInt / ((16777216 : Nat) : Int) % 256; omega
  · show ((w.toBitVec.toNat / 4294967296 % 4294967296 % 256 : Nat) : Int) = w.toInt / ((4294967296 : Nat) : Int) % 256; omega
  · show ((w.toBitVec.toNat / 1099511627776 % 4294967296 % 256 : Nat) : Int) = w.toInt / ((1099511627776 : Nat) : Int) % 256; omega
  · show ((w.toBitVec.toNat / 281474976710656 % 4294967296 % 256 : Nat) : Int) = w.toInt / ((281474976710656 : Nat) : Int) % 256; omega
  · show ((w.toBitVec.toNat / 72057594037927936 % 4294967296 % 256 : Nat) : Int) = w.toInt / ((72057594037927936 : Nat) : Int) % 256; omega
theorem zz_byK {w : Int64} {n b : Int32} {s : UInt64} (k : Nat) (hk : s.toNat % 64 = 8 * k) (h8 : k < 8) (e2 : n = (w.toUInt64 >>> s).toInt64.toInt32) (e3 : b = n.toInt8.toInt32) : (b &&& 255).toInt = zz_by w (k : Int) := by
  rw [zz_b255 e3, e2, ← zz_byE w k h8]
  have h1 : (w.toUInt64 >>> s).toInt64.toInt32.toBitVec.toNat = (w.toUInt64 >>> s).toNat % 2 ^ 32 := by
    show ((w.toUInt64 >>> s).toBitVec.signExtend 32).toNat = _
    rw [BitVec.signExtend_eq_setWidth_of_le _ (by decide), BitVec.toNat_setWidth]
    rfl
  rw [h1, UInt64.toNat_shiftRight, hk, Nat.shiftRight_eq_div_pow]
  rfl
/-- which shift it is -/
theorem zz_sh8 {y : Int32} {i : Int} (hy : y.toInt = 8 * i ∧ 0 ≤ i ∧ i < 8) : (i = 0 ∧ y = 0) ∨ (i = 1 ∧ y = 8) ∨ (i = 2 ∧ y = 16) ∨ (i = 3 ∧ y = 24) ∨ (i = 4 ∧ y = 32) ∨ (i = 5 ∧ y = 40) ∨ (i = 6 ∧ y = 48) ∨ (i = 7 ∧ y = 56) := by
  obtain ⟨h, h0, h8⟩ := hy
  have hc : i = 0 ∨ i = 1 ∨ i = 2 ∨ i = 3 ∨ i = 4 ∨ i = 5 ∨ i = 6 ∨ i = 7 := by omega
  rcases hc with rfl | rfl | rfl | rfl | rfl | rfl | rfl | rfl
  · exact Or.inl ⟨rfl, zz_ext (h.trans (by decide))⟩
  · exact Or.inr (Or.inl ⟨rfl, zz_ext (h.trans (by decide))⟩)
  · exact Or.inr (Or.inr (Or.inl ⟨rfl, zz_ext (h.trans (by decide))⟩))
  · exact Or.inr (Or.inr (Or.inr (Or.inl ⟨rfl, zz_ext (h.trans (by decide))⟩)))
  · exact Or.inr (Or.inr (Or.inr (Or.inr (Or.inl ⟨rfl, zz_ext (h.trans (by decide))⟩))))
  · exact Or.inr (Or.inr (Or.inr (Or.inr (Or.inr (Or.inl ⟨rfl, zz_ext (h.trans (by decide))⟩)))))
  · exact Or.inr (Or.inr (Or.inr (Or.inr (Or.inr (Or.inr (Or.inl ⟨rfl, zz_ext (h.trans (by decide))⟩))))))
  · exact Or.inr (Or.inr (Or.inr (Or.inr (Or.inr (Or.inr (Or.inr ⟨rfl, zz_ext (h.trans (by decide))⟩))))))
theorem zz_byX {w v : Int64} {y n b : Int32} {i : Int} (e1 : v = (w.toUInt64 >>> (y.toInt64.toUInt64 &&& Int64.toUInt64 63)).toInt64) (e2 : n = v.toInt32) (e3 : b = n.toInt8.toInt32) (hy : y.toInt = 8 * i ∧ 0 ≤ i ∧ i < 8) : (b &&& 255).toInt = zz_by w i := by
  rw [e1] at e2
  rcases zz_sh8 hy with ⟨rfl, rfl⟩ | ⟨rfl, rfl⟩ | ⟨rfl, rfl⟩ | ⟨rfl, rfl⟩ | ⟨rfl, rfl⟩ | ⟨rfl, rfl⟩ | ⟨rfl, rfl⟩ | ⟨rfl, rfl⟩
  · exact zz_byK 0 (by decide) (by decide) e2 e3
  · exact zz_byK 1 (by decide) (by decide) e2 e3
  · exact zz_byK 2 (by decide) (by decide) e2 e3
  · exact zz_byK 3 (by decide) (by decide) e2 e3
  · exact zz_byK 4 (by decide) (by decide) e2 e3
  · exact zz_byK 5 (by decide) (by decide) e2 e3
  · exact zz_byK 6 (by decide) (by decide) e2 e3
  · exact zz_byK 7 (by decide) (by decide) e2 e3
theorem zz_byN {w v u : Int64} {n : Int32} {s : Int64} (k : Nat) (hs : (s.toBitVec.smod 64#64).toNat = 8 * k) (h8 : k < 8) (e1 : v = w >>> s) (e2 : u = v &&& 255) (e3 : n = u.toInt32) : n.toInt = zz_by w (k : Int) := by
  have hv : v.toBitVec = w.toBitVec.sshiftRight (s.toBitVec.smod 64#64).toNat := by rw [e1]; rfl
  rw [hs] at hv
  have hvi : v.toInt = w.toInt / ((2 ^ (8 * k) : Nat) : Int) := by
    show v.toBitVec.toInt = w.toBitVec.toInt / ((2 ^ (8 * k) : Nat) : Int)
    rw [hv, BitVec.toInt_sshiftRight, Int.shiftRight_eq_div_pow]
  have hu : u.toBitVec.toNat = v.toBitVec.toNat % 256 := by
    have h1 : u.toBitVec = v.toBitVec &&& 255#64 := by rw [e2]; rfl
    rw [h1, BitVec.toNat_and]
    exact Nat.and_two_pow_sub_one_eq_mod v.toBitVec.toNat 8
  have hn : n.toBitVec.toNat = u.toBitVec.toNat % 2 ^ 32 := by
    have h1 : n.toBitVec = u.toBitVec.signExtend 32 := by rw [e3]; rfl
    rw [h1, BitVec.signExtend_eq_setWidth_of_le _ (by decide), BitVec.toNat_setWidth]
  have h3 : n.toBitVec.toInt = ((n.toBitVec.toNat : Nat) : Int) := BitVec.toInt_eq_toNat_of_lt (by rw [hn, hu]; omega)
  have h4 : n.toInt = ((n.toBitVec.toNat : Nat) : Int) := h3
  unfold zz_by
  rw [h4, hn, hu, Int.toNat_natCast, ← hvi]
  rcases zz_w64 v with q | q <;> omega
theorem zz_byM {w v u : Int64} {y n : Int32} {i : Int} (e1 : v = w >>> (y.toInt64 &&& 63)) (e2 : u = v &&& 255) (e3 : n = u.toInt32) (hy : y.toInt = 8 * i ∧ 0 ≤ i ∧ i < 8) : n.toInt = zz_by w i := by
  rcases zz_sh8 hy with ⟨rfl, rfl⟩ | ⟨rfl, rfl⟩ | ⟨rfl, rfl⟩ | ⟨rfl, rfl⟩ | ⟨rfl, rfl⟩ | ⟨rfl, rfl⟩ | ⟨rfl, rfl⟩ | ⟨rfl, rfl⟩
  · exact zz_byN 0 (by decide) (by decide) e1 e2 e3
  · exact zz_byN 1 (by decide) (by decide) e1 e2 e3
  · exact zz_byN 2 (by decide) (by decide) e1 e2 e3
  · exact zz_byN 3 (by decide) (by decide) e1 e2 e3
  · exact zz_byN 4 (by decide) (by decide) e1 e2 e3
  · exact zz_byN 5 (by decide) (by decide) e1 e2 e3
  · exact zz_byN 6 (by decide) (by decide) e1 e2 e3
  · exact zz_byN 7 (by decide) (by decide) e1 e2 e3
