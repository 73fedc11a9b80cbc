/-! ===== the reference's reader: what it read ===== -/
def zz_hM (σ : zz_S) (y : Nat) (T : Int → Int) : Prop := ∀ p : Int, T p = if 0 ≤ p ∧ p < (σ (y + 1) 5).toInt then (σ (y + 1) (73 + p.toNat)).toInt else -1
theorem zz_hM.keep {σ σ1 : zz_S} {y : Nat} {T : Int → Int} (h : zz_hM σ y T) (e : ∀ k : Nat, σ1 (y + 1) k = σ (y + 1) k) : zz_hM σ1 y T := fun p => by rw [e, e]; exact h p
theorem zz_look_T {σ : zz_S} {y : Nat} {T : Int → Int} {r : Int32} (hr : r = zz_look σ y) (hT : zz_hM σ y T) (h0 : 0 ≤ (σ y 12).toInt) : r.toInt = T (σ y 12).toInt := by
  rw [hr, hT]
  unfold zz_look
  by_cases q : (σ y 12).toInt < (σ (y + 1) 5).toInt
  · rw [if_pos q, if_pos ⟨h0, q⟩]
  · rw [if_neg q, if_neg (fun z => q z.2)]
    decide
def zz_t2 (σ σ1 : zz_S) (y : Nat) (l : List (Int × Int)) : Prop := zz_tq σ σ1 (y + 7) y 11 (l.map Prod.fst) ∧ zz_tq σ σ1 (y + 8) y 11 (l.map Prod.snd)
theorem zz_t2.tr {σ σ1 σ2 : zz_S} {y : Nat} {l1 l2 : List (Int × Int)} (h1 : zz_t2 σ σ1 y l1) (h2 : zz_t2 σ1 σ2 y l2) : zz_t2 σ σ2 y (l1 ++ l2) := by
  unfold zz_t2
  rw [List.map_append, List.map_append]
  exact ⟨h1.1.tr h2.1, h1.2.tr h2.2⟩
theorem zz_t2.out {σ σ1 σ2 : zz_S} {y : Nat} {l : List (Int × Int)} (h : zz_t2 σ σ1 y l) (e7 : ∀ k : Nat, σ2 (y + 7) k = σ1 (y + 7) k) (e8 : ∀ k : Nat, σ2 (y + 8) k = σ1 (y + 8) k) (e : σ2 y 11 = σ1 y 11) : zz_t2 σ σ2 y l := ⟨h.1.out (fun k _ => e7 k) e, h.2.out (fun k _ => e8 k) e⟩
theorem zz_t2.inn {σ σ1 σ2 : zz_S} {y : Nat} {l : List (Int × Int)} (h : zz_t2 σ1 σ2 y l) (e7 : ∀ k : Nat, σ1 (y + 7) k = σ (y + 7) k) (e8 : ∀ k : Nat, σ1 (y + 8) k = σ (y + 8) k) (e : σ1 y 11 = σ y 11) : zz_t2 σ σ2 y l := ⟨h.1.inn (fun k _ => e7 k) e, h.2.inn (fun k _ => e8 k) e⟩
/-- one cell of the reference's own numbers is written (here, opened, bad) -/
theorem zz_t2.inw {σ σ1 σ2 : zz_S} {y f : Nat} {n : Int32} {l : List (Int × Int)} (h : zz_t2 σ1 σ2 y l) (w : σ1 = zz_u σ y f n) (hf : f ≠ 11) : zz_t2 σ σ2 y l :=
  h.inn (fun k => by rw [w, zz_un (fun q => absurd q.1 (by omega))]) (fun k => by rw [w, zz_un (fun q => absurd q.1 (by omega))]) (by rw [w, zz_un (fun q => hf q.2.symm)])
theorem zz_t2.outw {σ σ1 σ2 : zz_S} {y f : Nat} {n : Int32} {l : List (Int × Int)} (h : zz_t2 σ σ1 y l) (w : σ2 = zz_u σ1 y f n) (hf : f ≠ 11) : zz_t2 σ σ2 y l :=
  h.out (fun k => by rw [w, zz_un (fun q => absurd q.1 (by omega))]) (fun k => by rw [w, zz_un (fun q => absurd q.1 (by omega))]) (by rw [w, zz_un (fun q => hf q.2.symm)])
theorem zz_ST.t2 {σ σ1 : zz_S} {y : Nat} {wh v : Int32} (h : zz_ST σ σ1 y wh v) (hl : 0 ≤ (σ y 11).toInt ∧ (σ y 11).toInt ≤ 60) : zz_t2 σ σ1 y [(wh.toInt, v.toInt)] := by
  show zz_tq σ σ1 (y + 7) y 11 [wh.toInt] ∧ zz_tq σ σ1 (y + 8) y 11 [v.toInt]
  rcases h with ⟨h1, h2⟩ | ⟨h1, e, ea, ew, eb, ec, -, -⟩
  · exact ⟨(zz_tq.full (σ := σ) (by omega)).out (fun k _ => h2 _ _) (h2 _ _), (zz_tq.full (σ := σ) (by omega)).out (fun k _ => h2 _ _) (h2 _ _)⟩
  · exact ⟨zz_tq.one (j := (σ y 11).toInt.toNat) (by omega) (by omega) (by rw [ea]) eb e, zz_tq.one (j := (σ y 11).toInt.toNat) (by omega) (by omega) (by rw [ew]) ec e⟩
/-- what a rule of the reference's reader did -/
def zz_q9 (σ σ1 : zz_S) (y : Nat) (R : zz_R3) : Prop := (σ1 y 12).toInt = R.2.1 ∧ ((R.1 = 1 ∧ (σ1 y 14).toInt = 0 ∧ zz_t2 σ σ1 y R.2.2) ∨ (R.1 = 0 ∧ (σ1 y 14).toInt = 1))
theorem zz_q9.no {σ σ1 : zz_S} {y : Nat} {p : Int} {R : zz_R3} (hR : R = (0, p, [])) (hp : (σ1 y 12).toInt = p) (hb : (σ1 y 14).toInt = 1) : zz_q9 σ σ1 y R := by
  subst hR
  exact ⟨hp, Or.inr ⟨rfl, hb⟩⟩
theorem zz_q9.yes {σ σ1 : zz_S} {y : Nat} {p : Int} {R : zz_R3} {l : List (Int × Int)} (hR : R = (1, p, l)) (hp : (σ1 y 12).toInt = p) (hb : (σ1 y 14).toInt = 0) (ht : zz_t2 σ σ1 y l) : zz_q9 σ σ1 y R := by
  subst hR
  exact ⟨hp, Or.inl ⟨rfl, hb, ht⟩⟩
theorem zz_q9.bad {σ σ1 : zz_S} {y : Nat} {R : zz_R3} (h : zz_q9 σ σ1 y R) : (R.1 = 1 ∧ (σ1 y 14).toInt = 0) ∨ (R.1 = 0 ∧ (σ1 y 14).toInt = 1) := h.2.elim (fun q => Or.inl ⟨q.1, q.2.1⟩) Or.inr
theorem zz_q9.ok {σ σ1 : zz_S} {y : Nat} {R : zz_R3} (h : zz_q9 σ σ1 y R) (hb : (σ1 y 14).toInt = 0) : R.1 = 1 ∧ zz_t2 σ σ1 y R.2.2 := h.2.elim (fun q => ⟨q.1, q.2.2⟩) (fun q => absurd (hb.symm.trans q.2) (by decide))
theorem zz_q9.ko {σ σ1 : zz_S} {y : Nat} {R : zz_R3} (h : zz_q9 σ σ1 y R) (hb : (σ1 y 14).toInt = 1) : R.1 = 0 := h.2.elim (fun q => absurd (hb.symm.trans q.2.1) (by decide)) (fun q => q.1)
/-- the state of a number -/
def zz_n9 (T : Int → Int) (fu : Nat) (σ1 : zz_S) (y : Nat) (p nu : Int) : Prop := zz_nmv T fu (σ1 y 12).toInt nu = zz_nmv T 4 p 0
theorem zz_n9.rf {T : Int → Int} {fu : Nat} {σ : zz_S} {y : Nat} {nu : Int} (hf : fu = 4) (hn : nu = 0) : zz_n9 T fu σ y (σ y 12).toInt nu := by
  subst hf; subst hn
  exact rfl
theorem zz_n9.go {T : Int → Int} {fu fv : Nat} {σa σb : zz_S} {y : Nat} {p nu nv : Int} (h : zz_n9 T fu σa y p nu) (hf : fu = fv + 1) (hd : 48 ≤ T (σa y 12).toInt ∧ T (σa y 12).toInt ≤ 57) (hp : (σb y 12).toInt = (σa y 12).toInt + 1) (hn : nv = nu * 10 + T (σa y 12).toInt - 48) : zz_n9 T fv σb y p nv := by
  unfold zz_n9 at *
  rw [hp, hn, ← h]
  exact (zz_nmv_go hf hd).symm
theorem zz_q9.num {T : Int → Int} {fu : Nat} {σ σa σb σc : zz_S} {y : Nat} {m nu : Int} {bv sg v : Int32} (h : zz_n9 T fu σa y (σ y 12).toInt nu) (hs : fu = 0 ∨ ¬ (48 ≤ T (σa y 12).toInt ∧ T (σa y 12).toInt ≤ 57)) (hf : fu = 0 → 1 ≤ m) (hm : 1 ≤ m → 48 ≤ T (σ y 12).toInt ∧ T (σ y 12).toInt ≤ 57) (hh : (σa y 12).toInt = (σ y 12).toInt + m) (hm0 : 0 ≤ m) (hc : ∀ a k : Nat, ¬ (a = y ∧ k = 12) → σa a k = σ a k) (w : σb = zz_u σa y 14 bv) (hbv : (bv.toInt = 0 ∧ 1 ≤ m) ∨ (bv.toInt = 1 ∧ m = 0)) (hl : 0 ≤ (σ y 11).toInt ∧ (σ y 11).toInt ≤ 60) (hS : zz_ST σb σc y sg v) (h1 : sg.toInt = 1) (hv : v.toInt = nu) : zz_q9 σ σc y (zz_nr T (σ y 12).toInt) := by
  have e : zz_nmv T 4 (σ y 12).toInt 0 = ((σa y 12).toInt, nu) := h.symm.trans (zz_nmv_stop hs)
  obtain ⟨s12, s13, s14, s5, s11⟩ := hS.same
  have f12 : σb y 12 = σa y 12 := by rw [w]; exact zz_un (by omega)
  have f14 : σb y 14 = bv := by rw [w]; exact zz_us _ _ _ _
  have f11 : σb y 11 = σ y 11 := by rw [w, zz_un (by omega)]; exact hc _ _ (by omega)
  by_cases q : 1 ≤ m
  · refine zz_q9.yes ((if_pos (hm q)).trans (by rw [e])) (by rw [s12, f12]) (by rw [s14, f14]; omega) ?_
    have ht := hS.t2 (by rw [f11]; exact hl)
    rw [h1, hv] at ht
    exact (ht.inw w (by decide)).inn (fun k => hc _ _ (by omega)) (fun k => hc _ _ (by omega)) (hc _ _ (by omega))
  · have hp : (σa y 12).toInt = (σ y 12).toInt := by omega
    refine zz_q9.no (if_neg (fun z => ?_)) (by rw [s12, f12]; exact hp) (by rw [s14, f14]; omega)
    rw [hp] at hs
    exact hs.elim (fun z2 => q (hf z2)) (fun z2 => z2 z)
theorem zz_q9.unum {T : Int → Int} {us : Int} {N : Nat} {σ σ1 : zz_S} {y : Nat} {p r b : Int} (h : zz_q9 σ σ1 y (zz_nr T p)) (hm : zz_nmp us b r) (hb : b = T p) (hr : r < 0) (h33 : b ≠ 33) (h40 : b ≠ 40) : zz_q9 σ σ1 y (zz_uq T us N p) := by
  unfold zz_nmp at hm
  rw [hb] at hm h33 h40
  rw [zz_uq_num (by omega) h33 h40]
  exact h
theorem zz_q9.name {T : Int → Int} {us : Int} {N : Nat} {σ σb σc : zz_S} {y : Nat} {r b : Int} {n sg v : Int32} (hm : zz_nmp us b r) (hb : b = T (σ y 12).toInt) (hr : 0 ≤ r) (w : σb = zz_u σ y 12 n) (hn : n.toInt = (σ y 12).toInt + 1) (hS : zz_ST σb σc y sg v) (h2 : sg.toInt = 2) (hv : v.toInt = r) (h14 : (σ y 14).toInt = 0) (hl : 0 ≤ (σ y 11).toInt ∧ (σ y 11).toInt ≤ 60) : zz_q9 σ σc y (zz_uq T us N (σ y 12).toInt) := by
  unfold zz_nmp at hm
  rw [hb] at hm
  obtain ⟨s12, s13, s14, s5, s11⟩ := hS.same
  have f14 : σb y 14 = σ y 14 := by rw [w]; exact zz_un (by omega)
  have f11 : σb y 11 = σ y 11 := by rw [w]; exact zz_un (by omega)
  refine zz_q9.yes (zz_uq_name (by rw [← hm]; exact hr)) (by rw [s12, zz_uT w, hn]) (by rw [s14, f14, h14]) ?_
  have ht := hS.t2 (by rw [f11]; exact hl)
  rw [h2, hv, hm] at ht
  exact ht.inw w (by decide)
theorem zz_q9.full {T : Int → Int} {us : Int} {N : Nat} {σ σ1 : zz_S} {y : Nat} {bv : Int32} (hN : N = 0) (hT : T (σ y 12).toInt = 33 ∨ T (σ y 12).toInt = 40) (w : σ1 = zz_u σ y 14 bv) (hb : bv.toInt = 1) : zz_q9 σ σ1 y (zz_uq T us N (σ y 12).toInt) :=
  zz_q9.no (zz_uq_full hN (zz_nme_low (by omega)) hT) (by rw [w, zz_un (by omega)]) (by rw [zz_uT w]; exact hb)
theorem zz_q9.deny {T : Int → Int} {us : Int} {N m : Nat} {σ σ1 σ2 σ3 σ4 σ5 : zz_S} {y : Nat} {n1 n2 n5 sg v : Int32} (hN : N = m + 1) (hT : T (σ y 12).toInt = 33) (w1 : σ1 = zz_u σ y 13 n1) (w2 : σ2 = zz_u σ1 y 12 n2) (hn : n2.toInt = (σ y 12).toInt + 1) (hq : zz_q9 σ2 σ3 y (zz_uq T us m (σ2 y 12).toInt)) (hl : 0 ≤ (σ3 y 11).toInt ∧ (σ3 y 11).toInt ≤ 60) (hS : zz_ST σ3 σ4 y sg v) (h3 : sg.toInt = 3) (hv : v.toInt = 0) (w5 : σ5 = zz_u σ4 y 13 n5) : zz_q9 σ σ5 y (zz_uq T us N (σ y 12).toInt) := by
  obtain ⟨s12, s13, s14, s5, s11⟩ := hS.same
  have d12 : σ5 y 12 = σ3 y 12 := by rw [w5, zz_un (by omega), s12]
  have d14 : σ5 y 14 = σ3 y 14 := by rw [w5, zz_un (by omega), s14]
  rw [zz_uT w2, hn] at hq
  rw [zz_uq_not hN (zz_nme_low (by omega)) hT]
  rcases hq.bad with ⟨h1, h14⟩ | ⟨h1, h14⟩
  · refine zz_q9.yes (if_pos h1) (by rw [d12]; exact hq.1) (by rw [d14]; exact h14) ?_
    have ht := hS.t2 hl
    rw [h3, hv] at ht
    exact ((((hq.ok h14).2.inw w2 (by decide)).inw w1 (by decide)).tr ht).outw w5 (by decide)
  · exact zz_q9.no (if_neg (fun z => by rw [h1] at z; exact absurd z (by decide))) (by rw [d12]; exact hq.1) (by rw [d14]; exact h14)
theorem zz_q9.par {T : Int → Int} {us : Int} {N m : Nat} {σ σ1 σ2 σ3 σ4 σ5 σ6 : zz_S} {y : Nat} {n1 n2 bv hv ov : Int32} (hN : N = m + 1) (hT : T (σ y 12).toInt = 40) (w1 : σ1 = zz_u σ y 13 n1) (w2 : σ2 = zz_u σ1 y 12 n2) (hn : n2.toInt = (σ y 12).toInt + 1) (hq : zz_q9 σ2 σ3 y (zz_lw T (fun q => zz_uq T us m q) 0 (σ2 y 12).toInt)) (w4 : σ4 = zz_u σ3 y 14 bv) (w5 : σ5 = zz_u σ4 y 12 hv) (w6 : σ6 = zz_u σ5 y 13 ov) (hc : (bv.toInt = 0 ∧ (σ3 y 14).toInt = 0 ∧ hv.toInt = (σ3 y 12).toInt + 1 ∧ T (σ3 y 12).toInt = 41) ∨ (bv.toInt = 1 ∧ hv.toInt = (σ3 y 12).toInt ∧ ((σ3 y 14).toInt = 1 ∨ T (σ3 y 12).toInt ≠ 41))) : zz_q9 σ σ6 y (zz_uq T us N (σ y 12).toInt) := by
  have d12 : (σ6 y 12).toInt = hv.toInt := by rw [w6, zz_un (by omega), zz_uT w5]
  have d14 : (σ6 y 14).toInt = bv.toInt := by rw [w6, zz_un (by omega), w5, zz_un (by omega), zz_uT w4]
  rw [zz_uT w2, hn] at hq
  rw [zz_uq_rest hN (zz_nme_low (by omega)) hT]
  rcases hc with ⟨b0, h14, hh, h41⟩ | ⟨b1, hh, hx⟩
  · have ho := hq.ok h14
    rw [hq.1] at h41 hh
    exact zz_q9.yes (if_pos ⟨ho.1, h41⟩) (by rw [d12, hh]) (by rw [d14, b0]) (((((ho.2.inw w2 (by decide)).inw w1 (by decide)).outw w4 (by decide)).outw w5 (by decide)).outw w6 (by decide))
  · refine zz_q9.no (if_neg (fun z => ?_)) (by rw [d12, hh]; exact hq.1) (by rw [d14, b1])
    rcases hx with x | x
    · have h0 := hq.ko x
      rw [h0] at z
      exact absurd z.1 (by decide)
    · exact x (by rw [hq.1]; exact z.2)
/-- the loop of a level -/
def zz_l9 (T : Int → Int) (U : Int → zz_R3) (w : Int) (σ σ1 : zz_S) (y : Nat) (R0 : zz_R3) : Prop := ((σ1 y 14).toInt = 0 ∧ ∃ (F : Nat) (l : List (Int × Int)), zz_lp T w (fun q => zz_lw T U (w + 1) q) F (σ1 y 12).toInt l = R0 ∧ zz_t2 σ σ1 y l ∧ 60 - (σ1 y 12).toInt ≤ (F : Int)) ∨ ((σ1 y 14).toInt = 1 ∧ R0.1 = 0 ∧ (σ1 y 12).toInt = R0.2.1)
theorem zz_q9.l9 {T : Int → Int} {U : Int → zz_R3} {w : Int} {σ σ1 : zz_S} {y : Nat} {p : Int} {R1 : zz_R3} (h : zz_q9 σ σ1 y R1) (hR : R1 = zz_lw T U (w + 1) p) (hw : (0 ≤ w ∧ w < 5) ∧ w ≠ 2) (hp : 0 ≤ (σ1 y 12).toInt) : zz_l9 T U w σ σ1 y (zz_lw T U w p) := by
  rw [hR] at h
  rw [zz_lw_s (fu := 60) p hw.1 (Or.inr ⟨hw.2, rfl⟩)]
  rcases h.bad with ⟨h1, h14⟩ | ⟨h1, h14⟩
  · refine Or.inl ⟨h14, 60, (zz_lw T U (w + 1) p).2.2, ?_, (h.ok h14).2, by omega⟩
    rw [zz_ls_ok (sub := fun q => zz_lw T U (w + 1) q) h1, h.1]
  · refine Or.inr ⟨h14, ?_, ?_⟩
    · rw [zz_ls_no (sub := fun q => zz_lw T U (w + 1) q) (fun z => by rw [h1] at z; exact absurd z (by decide))]
    · rw [zz_ls_no (sub := fun q => zz_lw T U (w + 1) q) (fun z => by rw [h1] at z; exact absurd z (by decide))]
      exact h.1
theorem zz_l9.stop {T : Int → Int} {U : Int → zz_R3} {w : Int} {σ σ1 : zz_S} {y : Nat} {R0 : zz_R3} (h : zz_l9 T U w σ σ1 y R0) (hs : (σ1 y 14).toInt ≠ 0 ∨ zz_lvl (T (σ1 y 12).toInt) ≠ w) : zz_q9 σ σ1 y R0 := by
  rcases h with ⟨h14, F, l, e, t, -⟩ | ⟨h14, h0, hp⟩
  · rw [zz_lp_stop (Or.inr (hs.resolve_left (fun z => z h14)))] at e
    exact zz_q9.yes e.symm rfl h14 t
  · exact ⟨hp, Or.inr ⟨h0, h14⟩⟩
theorem zz_l9.next {T : Int → Int} {U : Int → zz_R3} {w : Int} {σ σa σb σc σd : zz_S} {y : Nat} {R0 : zz_R3} {n sg v : Int32} (h : zz_l9 T U w σ σa y R0) (hb : (σa y 14).toInt = 0) (hl : zz_lvl (T (σa y 12).toInt) = w) (hlt : (σa y 12).toInt < 60) (w1 : σb = zz_u σa y 12 n) (hn : n.toInt = (σa y 12).toInt + 1) {R1 : zz_R3} (hq : zz_q9 σb σc y R1) (hR : R1 = zz_lw T U (w + 1) (σb y 12).toInt) (hmo : n.toInt ≤ (σc y 12).toInt) (hll : 0 ≤ (σc y 11).toInt ∧ (σc y 11).toInt ≤ 60) (hS : zz_ST σc σd y sg v) (hsg : sg.toInt = T (σa y 12).toInt) (hv : v.toInt = 0) : zz_l9 T U w σ σd y R0 := by
  obtain ⟨s12, s13, s14, s5, s11⟩ := hS.same
  rw [hR, zz_uT w1, hn] at hq
  rcases h with ⟨-, F, l, e, t, hF⟩ | ⟨h14, -⟩
  · obtain ⟨m, hm⟩ : ∃ m : Nat, F = m + 1 := ⟨F - 1, by omega⟩
    rcases hq.bad with ⟨h1, h14⟩ | ⟨h1, h14⟩
    · rw [zz_lp_go (sub := fun q => zz_lw T U (w + 1) q) hm hl h1] at e
      refine Or.inl ⟨by rw [s14]; exact h14, m, _, (by rw [s12, hq.1]; exact e), ?_, by rw [s12]; omega⟩
      have ht := hS.t2 hll
      rw [hsg, hv] at ht
      exact (t.tr ((hq.ok h14).2.inw w1 (by decide))).tr ht
    · rw [zz_lp_fail (sub := fun q => zz_lw T U (w + 1) q) (by omega) hl (fun z => by rw [h1] at z; exact absurd z (by decide))] at e
      refine Or.inr ⟨by rw [s14]; exact h14, by rw [← e], by rw [s12, ← e]; exact hq.1⟩
  · omega
theorem zz_lw_2 (T : Int → Int) (U : Int → zz_R3) (p : Int) : zz_lw T U 2 p = zz_ls T 2 (fun q => zz_lw T U 3 q) 1 p := by
  have h := zz_lw_s (T := T) (U := U) (w := 2) (fu := 1) p (by decide) (Or.inl ⟨rfl, rfl⟩)
  rw [show (2 + 1 : Int) = 3 from by decide] at h
  exact h
/-- a comparing -/
theorem zz_q9.cmp0 {T : Int → Int} {U : Int → zz_R3} {σ σ1 : zz_S} {y : Nat} {p : Int} (h : zz_q9 σ σ1 y (zz_lw T U 3 p)) (hs : (σ1 y 14).toInt ≠ 0 ∨ zz_lvl (T (σ1 y 12).toInt) ≠ 2) : zz_q9 σ σ1 y (zz_lw T U 2 p) := by
  rw [zz_lw_2]
  rcases h.bad with ⟨h1, h14⟩ | ⟨h1, h14⟩
  · rw [zz_ls_ok (sub := fun q => zz_lw T U 3 q) h1]
    refine zz_q9.yes (zz_lp_stop (Or.inr ?_)) h.1 h14 (h.ok h14).2
    have h2 := hs.resolve_left (fun z => z h14)
    rw [h.1] at h2
    exact h2
  · rw [zz_ls_no (sub := fun q => zz_lw T U 3 q) (fun z => absurd (h1.symm.trans z) (by decide))]
    exact zz_q9.no rfl h.1 h14
theorem zz_q9.cmp1 {T : Int → Int} {U : Int → zz_R3} {σ σa σb σc σd : zz_S} {y : Nat} {p : Int} {n sg v : Int32} (h : zz_q9 σ σa y (zz_lw T U 3 p)) (hb : (σa y 14).toInt = 0) (hl : zz_lvl (T (σa y 12).toInt) = 2) (w1 : σb = zz_u σa y 12 n) (hn : n.toInt = (σa y 12).toInt + 1) (hq : zz_q9 σb σc y (zz_lw T U 3 (σb y 12).toInt)) (hll : 0 ≤ (σc y 11).toInt ∧ (σc y 11).toInt ≤ 60) (hS : zz_ST σc σd y sg v) (hsg : sg.toInt = T (σa y 12).toInt) (hv : v.toInt = 0) : zz_q9 σ σd y (zz_lw T U 2 p) := by
  obtain ⟨s12, s13, s14, s5, s11⟩ := hS.same
  have ho := h.ok hb
  rw [zz_uT w1, hn] at hq
  rw [zz_lw_2, zz_ls_ok (sub := fun q => zz_lw T U 3 q) ho.1]
  have hl2 := hl
  rw [h.1] at hl2 hsg hq
  rcases hq.bad with ⟨h1, h14⟩ | ⟨h1, h14⟩
  · refine zz_q9.yes ((zz_lp_go (sub := fun q => zz_lw T U 3 q) (m := 0) rfl hl2 h1).trans rfl) (by rw [s12]; exact hq.1) (by rw [s14]; exact h14) ?_
    have ht := hS.t2 hll
    rw [hsg, hv] at ht
    exact (ho.2.tr ((hq.ok h14).2.inw w1 (by decide))).tr ht
  · exact zz_q9.no (zz_lp_fail (sub := fun q => zz_lw T U 3 q) (by decide) hl2 (fun z => absurd (h1.symm.trans z) (by decide))) (by rw [s12]; exact hq.1) (by rw [s14]; exact h14)
theorem zz_n9.dig {T : Int → Int} {p q m m2 : Int} (h : 1 ≤ m → 48 ≤ T p ∧ T p ≤ 57) (e : q = p + m) (hd : 48 ≤ T q ∧ T q ≤ 57) (hm : 0 ≤ m) : 1 ≤ m2 → 48 ≤ T p ∧ T p ≤ 57 := fun _ => by
  by_cases z : 1 ≤ m
  · exact h z
  · rw [show p = q from by omega]
    exact hd
theorem zz_lvl_n4 {b : Int} (h1 : b ≠ 42) (h2 : b ≠ 47) (h3 : b ≠ 37) : zz_lvl b ≠ 4 := by
  have h := zz_lvl_cases b
  omega
theorem zz_lvl_n3 {b : Int} (h1 : b ≠ 43) (h2 : b ≠ 45) : zz_lvl b ≠ 3 := by
  have h := zz_lvl_cases b
  omega
theorem zz_lvl_n2 {b : Int} (h1 : b ≠ 60) (h2 : b ≠ 61) (h3 : b ≠ 62) : zz_lvl b ≠ 2 := by
  have h := zz_lvl_cases b
  omega
theorem zz_lvl_n1 {b : Int} (h1 : b ≠ 38) : zz_lvl b ≠ 1 := by
  have h := zz_lvl_cases b
  omega
theorem zz_lvl_n0 {b : Int} (h1 : b ≠ 124) : zz_lvl b ≠ 0 := by
  have h := zz_lvl_cases b
  omega
theorem zz_lvl_y4 {b : Int} (h : b = 42 ∨ b = 47 ∨ b = 37) : zz_lvl b = 4 := by
  have h := zz_lvl_cases b
  omega
theorem zz_lvl_y3 {b : Int} (h : b = 43 ∨ b = 45) : zz_lvl b = 3 := by
  have h := zz_lvl_cases b
  omega
theorem zz_lvl_y2 {b : Int} (h : b = 60 ∨ b = 61 ∨ b = 62) : zz_lvl b = 2 := by
  have h := zz_lvl_cases b
  omega
theorem zz_lvl_y1 {b : Int} (h : b = 38) : zz_lvl b = 1 := by
  have h := zz_lvl_cases b
  omega
theorem zz_lvl_y0 {b : Int} (h : b = 124) : zz_lvl b = 0 := by
  have h := zz_lvl_cases b
  omega
theorem zz_hM.rf {σ : zz_S} {y : Nat} : zz_hM σ y (zz_Tm σ (y + 1)) := fun _ => rfl
theorem zz_t2.get {σ σ1 : zz_S} {y : Nat} {l : List (Int × Int)} (h : zz_t2 σ σ1 y l) (h0 : (σ y 11).toInt = 0) : (σ1 y 11).toInt = zz_aln (l.map Prod.fst) 0 ∧ (∀ k : Nat, (k : Int) < zz_aln (l.map Prod.fst) 0 → (σ1 (y + 7) k).toInt = ((l.map Prod.fst)[k]?).getD 0) ∧ (∀ k : Nat, (k : Int) < zz_aln (l.map Prod.fst) 0 → (σ1 (y + 8) k).toInt = ((l.map Prod.snd)[k]?).getD 0) := by
  obtain ⟨⟨a1, a2⟩, ⟨b1, b2⟩⟩ := h
  rw [h0] at a1 a2 b1 b2
  have hb := (zz_aln_b (l.map Prod.fst) 0 (by decide)).2
  have hl : zz_aln (l.map Prod.snd) 0 = zz_aln (l.map Prod.fst) 0 := zz_aln_len _ _ 0 (by rw [List.length_map, List.length_map])
  refine ⟨a2, fun k hk => ?_, fun k hk => ?_⟩
  · have e2 : zz_KV σ1 (y + 7) k = (σ1 (y + 7) k).toInt := if_pos (by omega)
    rw [← e2, a1, zz_aq_get _ _ 0 k (Int.le_refl _) (by omega) hk]
    rfl
  · have e2 : zz_KV σ1 (y + 8) k = (σ1 (y + 8) k).toInt := if_pos (by omega)
    rw [← e2, b1, zz_aq_get _ _ 0 k (Int.le_refl _) (by omega) (by rw [hl]; exact hk)]
    rfl
theorem zz_Tp.all {σ σ1 : zz_S} {a b : Nat} {c c1 : Int} (hc : c1 = c) (h : ∀ k : Nat, σ1 b k = σ a k) : zz_Tp σ1 b c1 = zz_Tp σ a c := by
  funext p
  simp only [zz_Tp]
  rw [hc, h]
theorem zz_XT.all {σ σ1 : zz_S} {r : Nat} (h : ∀ a : Nat, (a = r + 21 ∨ a = r + 22 ∨ a = r + 24 ∨ a = r + 25) → ∀ k : Nat, σ1 a k = σ a k) : zz_XT σ1 r = zz_XT σ r :=
  zz_XT.eq (fun u hu => h _ (by omega) _) (fun u hu => h _ (by omega) _) (fun u hu k _ => h _ (by omega) _)
def zz_gd (R : zz_R3) : Prop := R.1 = 1 → 1 ≤ R.2.2.length ∧ ∀ q ∈ R.2.2, zz_okp q
theorem zz_gd.no {p : Int} : zz_gd (0, p, []) := fun h => absurd (show (0 : Int) = 1 from h) (by decide)
theorem zz_gd_nr (T : Int → Int) (p : Int) : zz_gd (zz_nr T p) := by
  unfold zz_nr
  by_cases q : 48 ≤ T p ∧ T p ≤ 57
  · rw [if_pos q]
    refine fun _ => ⟨Nat.le_refl 1, fun z hz => ?_⟩
    rw [List.mem_singleton.mp hz]
    exact Or.inl ⟨rfl, zz_nmv_b4 T p⟩
  · rw [if_neg q]
    exact zz_gd.no
theorem zz_gd_nt {U : Int → zz_R3} (h : ∀ p, zz_gd (U p)) (p : Int) : zz_gd (zz_nt U p) := by
  unfold zz_nt
  by_cases q : (U p).1 = 1
  · rw [if_pos q]
    have h1 := h p q
    refine fun _ => ⟨by rw [List.length_append]; exact Nat.le_trans h1.1 (Nat.le_add_right _ _), fun z hz => ?_⟩
    rcases List.mem_append.mp hz with z1 | z1
    · exact h1.2 z z1
    · rw [List.mem_singleton.mp z1]
      exact Or.inr (Or.inr (Or.inl rfl))
  · rw [if_neg q]
    exact zz_gd.no
theorem zz_gd_lp {T : Int → Int} {lv : Int} {sub : Int → zz_R3} (hl : 0 ≤ lv) (h : ∀ p, zz_gd (sub p)) : ∀ (n : Nat) (p : Int) (l : List (Int × Int)), 1 ≤ l.length → (∀ q ∈ l, zz_okp q) → zz_gd (zz_lp T lv sub n p l)
  | 0, p, l, h1, h2 => fun _ => ⟨h1, h2⟩
  | n + 1, p, l, h1, h2 => by
    by_cases q : zz_lvl (T p) = lv
    · by_cases z : (sub (p + 1)).1 = 1
      · rw [zz_lp_go rfl q z]
        have h3 := h (p + 1) z
        refine zz_gd_lp hl h n _ _ (by rw [List.length_append, List.length_append]; omega) (fun x hx => ?_)
        rcases List.mem_append.mp hx with x1 | x1
        · rcases List.mem_append.mp x1 with x2 | x2
          · exact h2 x x2
          · exact h3.2 x x2
        · rw [List.mem_singleton.mp x1]
          exact Or.inr (Or.inr (Or.inr (by rw [q]; exact hl)))
      · rw [zz_lp_fail (Nat.succ_ne_zero n) q z]
        exact zz_gd.no
    · rw [zz_lp_stop (Or.inr q)]
      exact fun _ => ⟨h1, h2⟩
theorem zz_gd_ls {T : Int → Int} {lv : Int} {sub : Int → zz_R3} {fu : Nat} (hl : 0 ≤ lv) (h : ∀ p, zz_gd (sub p)) (p : Int) : zz_gd (zz_ls T lv sub fu p) := by
  by_cases q : (sub p).1 = 1
  · rw [zz_ls_ok q]
    exact zz_gd_lp hl h _ _ _ (h p q).1 (h p q).2
  · rw [zz_ls_no q]
    exact zz_gd.no
theorem zz_gd_lv {T : Int → Int} {U : Int → zz_R3} (h : ∀ p, zz_gd (U p)) : ∀ (j : Nat), j ≤ 5 → ∀ p : Int, zz_gd (zz_lv T U j p)
  | 0, _, p => h p
  | j + 1, hj, p => zz_gd_ls (by omega) (fun q => zz_gd_lv h j (by omega) q) p
theorem zz_gd_rs {T : Int → Int} {U : Int → zz_R3} (h : ∀ p, zz_gd (U p)) (p : Int) : zz_gd (zz_rs T U p) := by
  unfold zz_rs
  by_cases q : (zz_lw T U 0 p).1 = 1 ∧ T (zz_lw T U 0 p).2.1 = 41
  · rw [if_pos q]
    exact fun _ => zz_gd_lv h (5 - 0 : Int).toNat (by decide) p q.1
  · rw [if_neg q]
    exact zz_gd.no
theorem zz_gd_nm {us b p : Int} (h : 0 ≤ zz_nme us b) : zz_gd (1, p, [(2, zz_nme us b)]) := by
  refine fun _ => ⟨Nat.le_refl 1, fun z hz => ?_⟩
  rw [List.mem_singleton.mp hz]
  have h2 := zz_nme_cases us b
  exact Or.inr (Or.inl ⟨rfl, h, by show zz_nme us b ≤ 2; omega⟩)
theorem zz_gd_uq (T : Int → Int) (us : Int) : ∀ (n : Nat) (p : Int), zz_gd (zz_uq T us n p)
  | 0, p => by
    by_cases h : 0 ≤ zz_nme us (T p)
    · rw [zz_uq_name h]
      exact zz_gd_nm h
    · by_cases q : T p = 33 ∨ T p = 40
      · rw [zz_uq_full rfl h q]
        exact zz_gd.no
      · rw [zz_uq_num h (fun z => q (Or.inl z)) (fun z => q (Or.inr z))]
        exact zz_gd_nr T p
  | n + 1, p => by
    by_cases h : 0 ≤ zz_nme us (T p)
    · rw [zz_uq_name h]
      exact zz_gd_nm h
    · by_cases q : T p = 33
      · rw [zz_uq_not rfl h q]
        exact zz_gd_nt (fun z => zz_gd_uq T us n z) _
      · by_cases q2 : T p = 40
        · rw [zz_uq_rest rfl h q2]
          exact zz_gd_rs (fun z => zz_gd_uq T us n z) _
        · rw [zz_uq_num h q q2]
          exact zz_gd_nr T p
theorem zz_gd_PQ (T : Int → Int) (us p : Int) : zz_gd (zz_PQ T us p) := by
  rw [zz_PQ_eq]
  exact zz_gd_lv (fun z => zz_gd_uq T us 5 z) (5 - 0 : Int).toNat (by decide) p
theorem zz_aln_up : ∀ (l : List Int) (n : Int), zz_aln l n ≤ n + (l.length : Int)
  | [], n => by show n ≤ n + ((0 : Nat) : Int); omega
  | b :: l, n => by
    show (if n < 60 then zz_aln l (n + 1) else zz_aln l n) ≤ n + ((l.length + 1 : Nat) : Int)
    have h1 := zz_aln_up l (n + 1)
    have h2 := zz_aln_up l n
    by_cases q : n < 60
    · rw [if_pos q]; omega
    · rw [if_neg q]; omega
theorem zz_tt_new (l : List (Int × Int)) (h1 : 1 ≤ l.length) (hok : ∀ q ∈ l, zz_okp q) : zz_tt (zz_nx l) (zz_nm l) := by
  have hn : zz_aln (l.map zz_enc) 0 = zz_aln (l.map Prod.fst) 0 := zz_aln_len _ _ 0 (by rw [List.length_map, List.length_map])
  have hu := zz_aln_up (l.map Prod.fst) 0
  rw [List.length_map] at hu
  have hg : 1 ≤ zz_aln (l.map Prod.fst) 0 := by
    cases l with
    | nil => exact absurd h1 (by decide)
    | cons a l => exact (zz_aln_b (l.map Prod.fst) 1 (by decide)).1
  refine Or.inr ⟨rfl, hg, hn, fun k hk => ?_⟩
  have hk0 : (k : Int) < zz_aln (l.map Prod.fst) 0 := hk
  have hkl : k < l.length := by omega
  have e1 : (zz_nx l).2.2 k = zz_enc l[k] := by
    show (if (k : Int) < zz_aln (l.map zz_enc) 0 then ((l.map zz_enc)[k]?).getD 0 else 0) = zz_enc l[k]
    rw [if_pos (by rw [hn]; exact hk0), List.getElem?_map, List.getElem?_eq_getElem hkl]
    rfl
  have e2 : (zz_nm l).2.1 k = l[k].1 := by
    show (if (k : Int) < zz_aln (l.map Prod.fst) 0 then ((l.map Prod.fst)[k]?).getD 0 else 0) = l[k].1
    rw [if_pos hk0, List.getElem?_map, List.getElem?_eq_getElem hkl]
    rfl
  have e3 : (zz_nm l).2.2 k = l[k].2 := by
    show (if (k : Int) < zz_aln (l.map Prod.fst) 0 then ((l.map Prod.snd)[k]?).getD 0 else 0) = l[k].2
    rw [if_pos hk0, List.getElem?_map, List.getElem?_eq_getElem hkl]
    rfl
  rw [e1, e2, e3]
  exact ⟨rfl, hok _ (List.getElem_mem hkl)⟩
theorem zz_txm {T : Int → Int} {us c c2 r r2 u : Int} {X X1 : Nat → zz_X3} {M M1 : Nat → zz_M3} (hx : zz_tx (zz_PQ T us 0) c r X X1 u) (hm : zz_tm (zz_PQ T us 0) c2 r2 M M1 u) (hc : c2 = c) (ht : zz_tts X M) : r = r2 ∧ zz_tts X1 M1 := by
  subst hc
  rcases hx with ⟨a1, a2, a3, a4⟩ | ⟨a1, a2, a3⟩
  · rcases hm with ⟨b1, b2, b3, b4⟩ | ⟨b1, b2, b3⟩
    · refine ⟨a3.trans b3.symm, fun v hv => ?_⟩
      rw [a4, b4]
      simp only [zz_xw, zz_mw]
      by_cases q : (v : Int) = u
      · rw [if_pos q, if_pos q]
        have hg := zz_gd_PQ T us 0 a1
        exact zz_tt_new _ hg.1 hg.2
      · rw [if_neg q, if_neg q]
        exact ht v hv
    · exact absurd ⟨a1, a2⟩ b1
  · rcases hm with ⟨b1, b2, b3, b4⟩ | ⟨b1, b2, b3⟩
    · exact absurd ⟨b1, b2⟩ a1
    · exact ⟨a2.trans b2.symm, by rw [a3, b3]; exact ht⟩
theorem zz_unt {us r r2 : Int} {X X1 : Nat → zz_X3} {M M1 : Nat → zz_M3} (hu : 0 ≤ us ∧ us ≤ 1) (hr : r = (X us.toNat).1) (hx : X1 = zz_xw X us ((0 : Int32).toInt, (X us.toNat).2)) (hr2 : (0 < (M us.toNat).1 ∧ r2 = 1) ∨ ((M us.toNat).1 ≤ 0 ∧ r2 = 0)) (hm : M1 = zz_mw M us (0, (fun _ => 0), (fun _ => 0))) (ht : zz_tts X M) : r = r2 ∧ zz_tts X1 M1 := by
  have h9 := ht us.toNat (by omega)
  refine ⟨?_, fun v hv => ?_⟩
  · rcases h9 with ⟨a, b⟩ | ⟨a, b, -⟩ <;> omega
  · rw [hx, hm]
    simp only [zz_xw, zz_mw]
    by_cases q : (v : Int) = us
    · rw [if_pos q, if_pos q]
      exact Or.inl ⟨show (0 : Int32).toInt = 0 from by decide, rfl⟩
    · rw [if_neg q, if_neg q]
      exact ht v hv
