/-! ===== the reference's parser: what a step adds ===== -/
theorem zz_push {c w c' w' : Nat → Int32} {n : Nat} {a v : Int32} (h : zz_wf c w n) (hc : c' n = a) (hw : w' n = v) (hc0 : ∀ k, k ≠ n → c' k = c k) (hw0 : ∀ k, k ≠ n → w' k = w k) (h2 : a.toInt = 2 → 0 ≤ v.toInt ∧ v.toInt ≤ 2) (h3 : a.toInt = 3 → 1 ≤ zz_dep c n) (h4 : a.toInt ≠ 1 → a.toInt ≠ 2 → a.toInt ≠ 3 → 2 ≤ zz_dep c n) :
    zz_wf c' w' (n + 1) ∧ zz_dep c' (n + 1) = (if a.toInt = 1 ∨ a.toInt = 2 then zz_dep c n + 1 else if a.toInt = 3 then zz_dep c n else zz_dep c n - 1) := by
  have e : ∀ k, k ≤ n → zz_dep c' k = zz_dep c k := fun k hk => zz_dep_eq (fun j hj => hc0 j (by omega))
  refine ⟨fun k hk => ?_, ?_⟩
  · by_cases hkn : k = n
    · subst hkn
      rw [hc, hw, e k (Nat.le_refl k)]
      exact ⟨h2, h3, h4⟩
    · have hlt : k < n := by omega
      rw [hc0 k hkn, hw0 k hkn, e k (Nat.le_of_lt hlt)]
      exact h k hlt
  · simp only [zz_dep]
    rw [hc, e n (Nat.le_refl n)]
/-- the byte that is looked at -/
def zz_look (σ : zz_S) (y : Nat) : Int32 := if (σ y 12).toInt < (σ (y + 1) 5).toInt then σ (y + 1) (73 + (σ y 12).toInt.toNat) else -1
/-- a step is laid -/
def zz_ST (σ σ1 : zz_S) (y : Nat) (wh v : Int32) : Prop := ((σ y 11).toInt = 60 ∧ ∀ a k, σ1 a k = σ a k) ∨ ((σ y 11).toInt < 60 ∧ (σ1 y 11).toInt = (σ y 11).toInt + 1 ∧ σ1 (y + 7) (σ y 11).toInt.toNat = wh ∧ σ1 (y + 8) (σ y 11).toInt.toNat = v ∧ (∀ k, k ≠ (σ y 11).toInt.toNat → σ1 (y + 7) k = σ (y + 7) k) ∧ (∀ k, k ≠ (σ y 11).toInt.toNat → σ1 (y + 8) k = σ (y + 8) k) ∧ (∀ k, k ≠ 11 → σ1 y k = σ y k) ∧ (∀ k, σ1 (y + 1) k = σ (y + 1) k))
theorem zz_ST.same {σ σ1 : zz_S} {y : Nat} {wh v : Int32} (h : zz_ST σ σ1 y wh v) : σ1 y 12 = σ y 12 ∧ σ1 y 13 = σ y 13 ∧ σ1 y 14 = σ y 14 ∧ σ1 (y + 1) 5 = σ (y + 1) 5 ∧ (0 ≤ (σ y 11).toInt ∧ (σ y 11).toInt ≤ 60 → 0 ≤ (σ1 y 11).toInt ∧ (σ1 y 11).toInt ≤ 60) := by
  rcases h with ⟨h1, h2⟩ | ⟨h1, h2, -, -, -, -, h3, h4⟩
  · exact ⟨h2 _ _, h2 _ _, h2 _ _, h2 _ _, fun q => by rw [h2 y 11]; exact q⟩
  · exact ⟨h3 _ (by omega), h3 _ (by omega), h3 _ (by omega), h4 _, fun q => by omega⟩
theorem zz_ST.push {σ σ1 : zz_S} {y : Nat} {wh v : Int32} (h : zz_ST σ σ1 y wh v) (hl : 0 ≤ (σ y 11).toInt ∧ (σ y 11).toInt < 60) (hw : zz_wf (σ (y + 7)) (σ (y + 8)) (σ y 11).toInt.toNat) (h2 : wh.toInt = 2 → 0 ≤ v.toInt ∧ v.toInt ≤ 2) (h3 : wh.toInt = 3 → 1 ≤ zz_dep (σ (y + 7)) (σ y 11).toInt.toNat) (h4 : wh.toInt ≠ 1 → wh.toInt ≠ 2 → wh.toInt ≠ 3 → 2 ≤ zz_dep (σ (y + 7)) (σ y 11).toInt.toNat) :
    (σ1 y 11).toInt = (σ y 11).toInt + 1 ∧ zz_wf (σ1 (y + 7)) (σ1 (y + 8)) (σ1 y 11).toInt.toNat ∧ zz_dep (σ1 (y + 7)) (σ1 y 11).toInt.toNat = (if wh.toInt = 1 ∨ wh.toInt = 2 then zz_dep (σ (y + 7)) (σ y 11).toInt.toNat + 1 else if wh.toInt = 3 then zz_dep (σ (y + 7)) (σ y 11).toInt.toNat else zz_dep (σ (y + 7)) (σ y 11).toInt.toNat - 1) := by
  rcases h with ⟨h1, -⟩ | ⟨h1, e, ea, ew, eb, ec, -, -⟩
  · omega
  · have hn : (σ1 y 11).toInt.toNat = (σ y 11).toInt.toNat + 1 := by omega
    rw [hn]
    exact ⟨e, zz_push hw ea ew eb ec h2 h3 h4⟩
/-- what a piece of a text does: bad, or its steps lift the pile by one and are no more than the bytes that it took -/
def zz_PP (σ σ1 : zz_S) (y : Nat) : Prop :=
  ((σ1 y 14).toInt = 0 ∨ (σ1 y 14).toInt = 1) ∧ (σ1 y 13).toInt = (σ y 13).toInt ∧ ((σ y 12).toInt ≤ (σ1 y 12).toInt ∧ (σ1 y 12).toInt ≤ (σ1 (y + 1) 5).toInt) ∧ (0 ≤ (σ1 y 11).toInt ∧ (σ1 y 11).toInt ≤ 60) ∧ (σ1 (y + 1) 5).toInt = (σ (y + 1) 5).toInt ∧
  ((σ1 y 14).toInt = 0 → (σ1 y 11).toInt - (σ y 11).toInt ≤ (σ1 y 12).toInt - (σ y 12).toInt ∧ zz_wf (σ1 (y + 7)) (σ1 (y + 8)) (σ1 y 11).toInt.toNat ∧ zz_dep (σ1 (y + 7)) (σ1 y 11).toInt.toNat = zz_dep (σ (y + 7)) (σ y 11).toInt.toNat + 1)
/-- what a piece may count on -/
def zz_PG (σ : zz_S) (y : Nat) : Prop := (σ y 14).toInt = 0 ∧ (0 ≤ (σ y 11).toInt ∧ (σ y 11).toInt ≤ (σ y 12).toInt ∧ (σ y 12).toInt ≤ (σ (y + 1) 5).toInt) ∧ (σ (y + 1) 5).toInt ≤ 60 ∧ zz_wf (σ (y + 7)) (σ (y + 8)) (σ y 11).toInt.toNat ∧ 0 ≤ zz_dep (σ (y + 7)) (σ y 11).toInt.toNat
theorem zz_PG.nums {σ : zz_S} {y : Nat} (h : zz_PG σ y) : (σ y 14).toInt = 0 ∧ 0 ≤ (σ y 11).toInt ∧ (σ y 11).toInt ≤ (σ y 12).toInt ∧ (σ y 12).toInt ≤ (σ (y + 1) 5).toInt ∧ (σ (y + 1) 5).toInt ≤ 60 := ⟨h.1, h.2.1.1, h.2.1.2.1, h.2.1.2.2, h.2.2.1⟩
theorem zz_PP.nums {σ σ1 : zz_S} {y : Nat} (h : zz_PP σ σ1 y) : ((σ1 y 14).toInt = 0 ∨ (σ1 y 14).toInt = 1) ∧ (σ1 y 13).toInt = (σ y 13).toInt ∧ (σ y 12).toInt ≤ (σ1 y 12).toInt ∧ (σ1 y 12).toInt ≤ (σ1 (y + 1) 5).toInt ∧ 0 ≤ (σ1 y 11).toInt ∧ (σ1 y 11).toInt ≤ 60 ∧ (σ1 (y + 1) 5).toInt = (σ (y + 1) 5).toInt := ⟨h.1, h.2.1, h.2.2.1.1, h.2.2.1.2, h.2.2.2.1.1, h.2.2.2.1.2, h.2.2.2.2.1⟩
theorem zz_PG.start {σ : zz_S} {y : Nat} (h11 : (σ y 11).toInt = 0) (h12 : (σ y 12).toInt = 0) (h14 : (σ y 14).toInt = 0) (h5 : 0 ≤ (σ (y + 1) 5).toInt ∧ (σ (y + 1) 5).toInt ≤ 60) : zz_PG σ y := by
  unfold zz_PG
  rw [h11, h12, h14]
  exact ⟨rfl, ⟨by omega, by omega, h5.1⟩, h5.2, fun k hk => absurd hk (by simp), by simp [zz_dep]⟩
theorem zz_PG.sign {σ σa σb : zz_S} {y : Nat} {n : Int32} (hG : zz_PG σ y) (hP : zz_PP σ σa y) (hb : (σa y 14).toInt = 0) (hlt : (σa y 12).toInt < (σa (y + 1) 5).toInt) (w : σb = zz_u σa y 12 n) (hn : n.toInt = (σa y 12).toInt + 1) : zz_PG σb y := by
  obtain ⟨g1, ⟨g2, g3, g4⟩, g5, g6, g7⟩ := hG
  obtain ⟨p1, p2, ⟨p3, p3'⟩, p4, p5, p6⟩ := hP
  obtain ⟨q1, q2, q3⟩ := p6 hb
  have e7 : σb (y + 7) = σa (y + 7) := by rw [w]; exact zz_ub (by omega)
  have e8 : σb (y + 8) = σa (y + 8) := by rw [w]; exact zz_ub (by omega)
  have e1 : σb (y + 1) = σa (y + 1) := by rw [w]; exact zz_ub (by omega)
  have f11 : σb y 11 = σa y 11 := by rw [w]; exact zz_un (by omega)
  have f14 : σb y 14 = σa y 14 := by rw [w]; exact zz_un (by omega)
  have f12 : σb y 12 = n := by rw [w]; exact zz_us _ _ _ _
  unfold zz_PG
  rw [e7, e8, e1, f11, f14, f12]
  exact ⟨hb, ⟨p4.1, by omega, by omega⟩, by omega, q2, by omega⟩
/-- a piece, a sign, a piece, the sign's step -/
theorem zz_PP.bin {σ σa σb σc σd : zz_S} {y : Nat} {n sg v : Int32} (hG : zz_PG σ y) (hP : zz_PP σ σa y) (hb : (σa y 14).toInt = 0) (w : σb = zz_u σa y 12 n) (hn : n.toInt = (σa y 12).toInt + 1) (hP2 : zz_PP σb σc y) (hS : zz_ST σc σd y sg v) (h3 : 3 < sg.toInt) : zz_PP σ σd y := by
  obtain ⟨g1, ⟨g2, g3, g4⟩, g5, g6, g7⟩ := hG
  obtain ⟨p1, p2, ⟨p3, p3'⟩, p4, p5, p6⟩ := hP
  obtain ⟨r1, r2, ⟨r3, r3'⟩, r4, r5, r6⟩ := hP2
  obtain ⟨s12, s13, s14, s5, s11⟩ := hS.same
  have e7 : σb (y + 7) = σa (y + 7) := by rw [w]; exact zz_ub (by omega)
  have e1 : σb (y + 1) 5 = σa (y + 1) 5 := by rw [w]; exact zz_un (by omega)
  have f11 : σb y 11 = σa y 11 := by rw [w]; exact zz_un (by omega)
  have f13 : σb y 13 = σa y 13 := by rw [w]; exact zz_un (by omega)
  have f12 : σb y 12 = n := by rw [w]; exact zz_us _ _ _ _
  rw [e1] at r5; rw [f12] at r3; rw [f13] at r2; rw [f11, f12, e7] at r6
  refine ⟨by rw [s14]; exact r1, by rw [s13]; omega, by rw [s12, s5]; omega, s11 r4, by rw [s5]; omega, fun h0 => ?_⟩
  rw [s14] at h0
  obtain ⟨q1, q2, q3⟩ := p6 hb
  obtain ⟨u1, u2, u3⟩ := r6 h0
  obtain ⟨v1, v2, v3⟩ := hS.push ⟨r4.1, by omega⟩ u2 (fun h => by omega) (fun h => by omega) (fun _ _ _ => by omega)
  refine ⟨by rw [s12]; omega, v2, ?_⟩
  rw [v3, if_neg (by omega), if_neg (by omega)]
  omega
/-- a NAME -/
theorem zz_PP.name {σ σb σc : zz_S} {y : Nat} {n sg v : Int32} (hG : zz_PG σ y) (hlt : (σ y 12).toInt < (σ (y + 1) 5).toInt) (w : σb = zz_u σ y 12 n) (hn : n.toInt = (σ y 12).toInt + 1) (hS : zz_ST σb σc y sg v) (h2 : sg.toInt = 2) (hv : 0 ≤ v.toInt ∧ v.toInt ≤ 2) : zz_PP σ σc y := by
  obtain ⟨g1, ⟨g2, g3, g4⟩, g5, g6, g7⟩ := hG
  obtain ⟨s12, s13, s14, s5, s11⟩ := hS.same
  have e7 : σb (y + 7) = σ (y + 7) := by rw [w]; exact zz_ub (by omega)
  have e8 : σb (y + 8) = σ (y + 8) := by rw [w]; exact zz_ub (by omega)
  have e1 : σb (y + 1) 5 = σ (y + 1) 5 := by rw [w]; exact zz_un (by omega)
  have f11 : σb y 11 = σ y 11 := by rw [w]; exact zz_un (by omega)
  have f13 : σb y 13 = σ y 13 := by rw [w]; exact zz_un (by omega)
  have f14 : σb y 14 = σ y 14 := by rw [w]; exact zz_un (by omega)
  have f12 : σb y 12 = n := by rw [w]; exact zz_us _ _ _ _
  have hp := hS.push (by rw [f11]; omega) (by rw [e7, e8, f11]; exact g6) (fun _ => hv) (fun h => by omega) (fun _ h => absurd h2 h)
  rw [f11, e7, if_pos (Or.inr h2)] at hp
  rw [f12] at s12; rw [f13] at s13; rw [f14] at s14; rw [e1] at s5; rw [f11] at s11
  exact ⟨by rw [s14]; exact Or.inl g1, by rw [s13], by rw [s12, s5]; omega, s11 (by omega), by rw [s5], fun _ => ⟨by rw [s12]; omega, hp.2.1, hp.2.2⟩⟩
/-- a number, or what is none -/
theorem zz_PP.num {σ σa σb σc : zz_S} {y : Nat} {bv sg v : Int32} (m : Int) (hG : zz_PG σ y) (hs : ∀ a k : Nat, ¬ (a = y ∧ k = 12) → σa a k = σ a k) (hm : 0 ≤ m) (hh : (σa y 12).toInt = (σ y 12).toInt + m) (hle : (σa y 12).toInt ≤ (σ (y + 1) 5).toInt) (w : σb = zz_u σa y 14 bv) (hbv : (bv.toInt = 0 ∧ 1 ≤ m) ∨ bv.toInt = 1) (hS : zz_ST σb σc y sg v) (h1 : sg.toInt = 1) : zz_PP σ σc y := by
  obtain ⟨g1, ⟨g2, g3, g4⟩, g5, g6, g7⟩ := hG
  obtain ⟨s12, s13, s14, s5, s11⟩ := hS.same
  have e7 : σb (y + 7) = σ (y + 7) := by rw [w, zz_ub (by omega)]; funext k; exact hs _ _ (by omega)
  have e8 : σb (y + 8) = σ (y + 8) := by rw [w, zz_ub (by omega)]; funext k; exact hs _ _ (by omega)
  have e1 : σb (y + 1) 5 = σ (y + 1) 5 := by rw [w, zz_un (by omega)]; exact hs _ _ (by omega)
  have f11 : σb y 11 = σ y 11 := by rw [w, zz_un (by omega)]; exact hs _ _ (by omega)
  have f13 : σb y 13 = σ y 13 := by rw [w, zz_un (by omega)]; exact hs _ _ (by omega)
  have f14 : σb y 14 = bv := by rw [w]; exact zz_us _ _ _ _
  have f12 : σb y 12 = σa y 12 := by rw [w]; exact zz_un (by omega)
  rw [f12] at s12; rw [f13] at s13; rw [f14] at s14; rw [e1] at s5; rw [f11] at s11
  refine ⟨by rw [s14]; omega, by rw [s13], by rw [s12, s5]; omega, s11 (by omega), by rw [s5], fun h0 => ?_⟩
  rw [s14] at h0
  have hp := hS.push (by rw [f11]; omega) (by rw [e7, e8, f11]; exact g6) (fun h => by omega) (fun h => by omega) (fun h => absurd h1 h)
  rw [f11, e7, if_pos (Or.inl h1)] at hp
  exact ⟨by rw [s12]; omega, hp.2.1, hp.2.2⟩
/-- too many brackets -/
theorem zz_PP.full {σ σ1 : zz_S} {y : Nat} {bv : Int32} (hG : zz_PG σ y) (w : σ1 = zz_u σ y 14 bv) (hb : bv.toInt = 1) : zz_PP σ σ1 y := by
  obtain ⟨g1, ⟨g2, g3, g4⟩, g5, g6, g7⟩ := hG
  have e1 : σ1 (y + 1) 5 = σ (y + 1) 5 := by rw [w]; exact zz_un (by omega)
  have f11 : σ1 y 11 = σ y 11 := by rw [w]; exact zz_un (by omega)
  have f12 : σ1 y 12 = σ y 12 := by rw [w]; exact zz_un (by omega)
  have f13 : σ1 y 13 = σ y 13 := by rw [w]; exact zz_un (by omega)
  have f14 : σ1 y 14 = bv := by rw [w]; exact zz_us _ _ _ _
  unfold zz_PP
  rw [e1, f11, f12, f13, f14]
  exact ⟨Or.inr hb, rfl, by omega, by omega, rfl, fun h => by omega⟩
/-- one bracket more, its sign taken -/
theorem zz_PG.opn {σ σ1 σ2 : zz_S} {y : Nat} {n1 n2 : Int32} (hG : zz_PG σ y) (hlt : (σ y 12).toInt < (σ (y + 1) 5).toInt) (w1 : σ1 = zz_u σ y 13 n1) (w2 : σ2 = zz_u σ1 y 12 n2) (hn : n2.toInt = (σ y 12).toInt + 1) : zz_PG σ2 y ∧ σ2 (y + 7) = σ (y + 7) ∧ σ2 y 11 = σ y 11 ∧ σ2 y 12 = n2 ∧ σ2 y 13 = n1 ∧ σ2 (y + 1) 5 = σ (y + 1) 5 := by
  obtain ⟨g1, ⟨g2, g3, g4⟩, g5, g6, g7⟩ := hG
  have e7 : σ2 (y + 7) = σ (y + 7) := by rw [w2, zz_ub (by omega), w1]; exact zz_ub (by omega)
  have e8 : σ2 (y + 8) = σ (y + 8) := by rw [w2, zz_ub (by omega), w1]; exact zz_ub (by omega)
  have e1 : σ2 (y + 1) 5 = σ (y + 1) 5 := by rw [w2, zz_un (by omega), w1]; exact zz_un (by omega)
  have f11 : σ2 y 11 = σ y 11 := by rw [w2, zz_un (by omega), w1]; exact zz_un (by omega)
  have f14 : σ2 y 14 = σ y 14 := by rw [w2, zz_un (by omega), w1]; exact zz_un (by omega)
  have f13 : σ2 y 13 = n1 := by rw [w2, zz_un (by omega), w1]; exact zz_us _ _ _ _
  have f12 : σ2 y 12 = n2 := by rw [w2]; exact zz_us _ _ _ _
  refine ⟨?_, e7, f11, f12, f13, e1⟩
  unfold zz_PG
  rw [e7, e8, e1, f11, f14, f12]
  exact ⟨g1, ⟨g2, by omega, by omega⟩, g5, g6, g7⟩
/-- '!' -/
theorem zz_PP.deny {σ σ1 σ2 σ3 σ4 σ5 : zz_S} {y : Nat} {n1 n2 n5 sg v : Int32} (hG : zz_PG σ y) (hlt : (σ y 12).toInt < (σ (y + 1) 5).toInt) (w1 : σ1 = zz_u σ y 13 n1) (w2 : σ2 = zz_u σ1 y 12 n2) (hn1 : n1.toInt = (σ y 13).toInt + 1) (hn : n2.toInt = (σ y 12).toInt + 1) (hP : zz_PP σ2 σ3 y) (hS : zz_ST σ3 σ4 y sg v) (h3 : sg.toInt = 3) (w5 : σ5 = zz_u σ4 y 13 n5) (hn5 : n5.toInt = (σ3 y 13).toInt - 1) : zz_PP σ σ5 y := by
  obtain ⟨hG2, e7, e11, e12, e13, e5⟩ := hG.opn hlt w1 w2 hn
  obtain ⟨g1, ⟨g2, g3, g4⟩, g5, g6, g7⟩ := hG
  obtain ⟨r1, r2, ⟨r3, r3'⟩, r4, r5, r6⟩ := hP
  obtain ⟨s12, s13, s14, s5, s11⟩ := hS.same
  rw [e13] at r2; rw [e12] at r3; rw [e5] at r5; rw [e7, e11, e12] at r6
  have d7 : σ5 (y + 7) = σ4 (y + 7) := by rw [w5]; exact zz_ub (by omega)
  have d8 : σ5 (y + 8) = σ4 (y + 8) := by rw [w5]; exact zz_ub (by omega)
  have d1 : σ5 (y + 1) 5 = σ4 (y + 1) 5 := by rw [w5]; exact zz_un (by omega)
  have d11 : σ5 y 11 = σ4 y 11 := by rw [w5]; exact zz_un (by omega)
  have d12 : σ5 y 12 = σ4 y 12 := by rw [w5]; exact zz_un (by omega)
  have d14 : σ5 y 14 = σ4 y 14 := by rw [w5]; exact zz_un (by omega)
  have d13 : σ5 y 13 = n5 := by rw [w5]; exact zz_us _ _ _ _
  unfold zz_PP
  rw [d7, d8, d1, d11, d12, d13, d14]
  refine ⟨by rw [s14]; exact r1, by omega, by rw [s12, s5]; omega, s11 r4, by rw [s5]; omega, fun h0 => ?_⟩
  rw [s14] at h0
  obtain ⟨u1, u2, u3⟩ := r6 h0
  obtain ⟨v1, v2, v3⟩ := hS.push ⟨r4.1, by omega⟩ u2 (fun h => by omega) (fun h => by omega) (fun _ _ h => absurd h3 h)
  refine ⟨by rw [s12]; omega, v2, ?_⟩
  rw [v3, if_neg (by omega), if_pos h3]
  exact u3
/-- brackets -/
theorem zz_PP.par {σ σ1 σ2 σ3 σ4 σ5 σ6 : zz_S} {y : Nat} {n1 n2 bv hv ov : Int32} (hG : zz_PG σ y) (hlt : (σ y 12).toInt < (σ (y + 1) 5).toInt) (w1 : σ1 = zz_u σ y 13 n1) (w2 : σ2 = zz_u σ1 y 12 n2) (hn1 : n1.toInt = (σ y 13).toInt + 1) (hn : n2.toInt = (σ y 12).toInt + 1) (hP : zz_PP σ2 σ3 y) (w4 : σ4 = zz_u σ3 y 14 bv) (w5 : σ5 = zz_u σ4 y 12 hv) (w6 : σ6 = zz_u σ5 y 13 ov) (hbv : (bv.toInt = 0 ∧ (σ3 y 14).toInt = 0 ∧ hv.toInt = (σ3 y 12).toInt + 1 ∧ (σ3 y 12).toInt < (σ3 (y + 1) 5).toInt) ∨ (bv.toInt = 1 ∧ hv.toInt = (σ3 y 12).toInt)) (hov : ov.toInt = (σ3 y 13).toInt - 1) : zz_PP σ σ6 y := by
  obtain ⟨hG2, e7, e11, e12, e13, e5⟩ := hG.opn hlt w1 w2 hn
  obtain ⟨g1, ⟨g2, g3, g4⟩, g5, g6, g7⟩ := hG
  obtain ⟨r1, r2, ⟨r3, r3'⟩, r4, r5, r6⟩ := hP
  rw [e13] at r2; rw [e12] at r3; rw [e5] at r5; rw [e7, e11, e12] at r6
  have d7 : σ6 (y + 7) = σ3 (y + 7) := by rw [w6, zz_ub (by omega), w5, zz_ub (by omega), w4]; exact zz_ub (by omega)
  have d8 : σ6 (y + 8) = σ3 (y + 8) := by rw [w6, zz_ub (by omega), w5, zz_ub (by omega), w4]; exact zz_ub (by omega)
  have d1 : σ6 (y + 1) 5 = σ3 (y + 1) 5 := by rw [w6, zz_un (by omega), w5, zz_un (by omega), w4]; exact zz_un (by omega)
  have d11 : σ6 y 11 = σ3 y 11 := by rw [w6, zz_un (by omega), w5, zz_un (by omega), w4]; exact zz_un (by omega)
  have d12 : σ6 y 12 = hv := by rw [w6, zz_un (by omega), w5]; exact zz_us _ _ _ _
  have d14 : σ6 y 14 = bv := by rw [w6, zz_un (by omega), w5, zz_un (by omega), w4]; exact zz_us _ _ _ _
  have d13 : σ6 y 13 = ov := by rw [w6]; exact zz_us _ _ _ _
  unfold zz_PP
  rw [d7, d8, d1, d11, d12, d13, d14]
  refine ⟨by omega, by omega, by omega, r4, r5, fun h0 => ?_⟩
  obtain ⟨u1, u2, u3⟩ := r6 (by omega)
  exact ⟨by omega, u2, u3⟩
/-- a TEXT is kept -/
theorem zz_IW.text {σ σ1 : zz_S} {a u : Nat} {c w : Nat → Int32} (h : zz_IW σ a) (hu : u < 2) (hlo : ∀ k : Nat, k < 157 → k ≠ 5 → σ1 a k = σ a k) (h5 : (σ1 a 5).toInt = 0) (hlen : 0 ≤ (σ1 a (157 + 121 * u)).toInt ∧ (σ1 a (157 + 121 * u)).toInt ≤ 60) (hwf : zz_wf c w (σ1 a (157 + 121 * u)).toInt.toNat) (hc : ∀ k : Nat, (k : Int) < (σ1 a (157 + 121 * u)).toInt → σ1 a (158 + 121 * u + k) = c k) (hw : ∀ k : Nat, (k : Int) < (σ1 a (157 + 121 * u)).toInt → σ1 a (218 + 121 * u + k) = w k) (ho : ∀ k : Nat, 157 ≤ k → (k < 157 + 121 * u ∨ 278 + 121 * u ≤ k) → σ1 a k = σ a k) : zz_IW σ1 a := by
  obtain ⟨h0, h1, h2, h3, h4, h6, hM, hT⟩ := h
  refine ⟨by rw [hlo 0 (by omega) (by omega)]; exact h0, by rw [hlo 4 (by omega) (by omega)]; exact h1, by rw [hlo 2 (by omega) (by omega)]; exact h2, by rw [hlo 3 (by omega) (by omega)]; exact h3, by omega, by rw [hlo 6 (by omega) (by omega)]; exact h6, fun j hj => by rw [hlo _ (by omega) (by omega)]; exact hM j hj, fun v hv => ?_⟩
  by_cases hvu : v = u
  · subst hvu
    exact ⟨hlen, zz_wf_eq hwf (fun j hj => hc j (by omega)) (fun j hj => hw j (by omega))⟩
  · obtain ⟨q1, q2⟩ := hT v hv
    unfold zz_IT
    rw [ho (157 + 121 * v) (by omega) (by omega)]
    exact ⟨q1, zz_wf_eq q2 (fun j hj => ho _ (by omega) (by omega)) (fun j hj => ho _ (by omega) (by omega))⟩
theorem zz_IM.text {σ σ1 : zz_S} {h0 : Nat} (h : zz_IM σ h0) (hW : zz_IW σ1 (h0 + 1)) (hC : zz_ch (fun a k => (a = h0 + 3 ∨ (h0 + 6 ≤ a ∧ a ≤ h0 + 12)) ∨ (a = h0 ∧ 11 ≤ k ∧ k ≤ 15) ∨ (a = h0 + 1 ∧ (k = 5 ∨ 157 ≤ k))) σ σ1) : zz_IM σ1 h0 :=
  ⟨hW, h.2.1.keep (fun k => hC _ _ (by dsimp only; omega)), fun j hj => by rw [hC _ _ (by dsimp only; omega)]; exact h.2.2.1 j hj, by rw [hC _ _ (by dsimp only; omega)]; exact h.2.2.2⟩
