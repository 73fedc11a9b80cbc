/-! ===== what ties class and reference together between two calls ===== -/
def zz_RR (σ : zz_S) (r a : Nat) : Prop := (σ r 0).toInt = (σ a 0).toInt ∧ (σ r 1).toInt = (σ a 4).toInt ∧ (σ r 2).toInt = (σ a 1).toInt ∧ (σ r 4).toInt = (σ a 2).toInt ∧ (σ r 6).toInt = (σ a 3).toInt ∧ (σ r 9).toInt = (σ a 5).toInt ∧ (σ r 11).toInt = (σ a 6).toInt
def zz_RL (σ : zz_S) (x y : Nat) : Prop := zz_IX σ x ∧ zz_IM σ y ∧ zz_RR σ (x + 1) (y + 1) ∧ ((σ x 2).toInt = 0 ∨ zz_RR σ (x + 28) (y + 2)) ∧ (σ x 2).toInt = (σ y 2).toInt
theorem zz_RR.keep7 {σ σ1 : zz_S} {r a : Nat} (h : zz_RR σ r a) (e1 : ∀ k : Nat, k ≤ 11 → σ1 r k = σ r k) (e2 : ∀ k : Nat, k ≤ 6 → σ1 a k = σ a k) : zz_RR σ1 r a := by
  unfold zz_RR
  rw [e1 0 (by omega), e1 1 (by omega), e1 2 (by omega), e1 4 (by omega), e1 6 (by omega), e1 9 (by omega), e1 11 (by omega), e2 0 (by omega), e2 1 (by omega), e2 2 (by omega), e2 3 (by omega), e2 4 (by omega), e2 5 (by omega), e2 6 (by omega)]
  exact h
theorem zz_IX.far {σ σ1 : zz_S} {x : Nat} (h : zz_IX σ x) (e : ∀ a k : Nat, x ≤ a → a < x + 76 → σ1 a k = σ a k) : zz_IX σ1 x :=
  ⟨h.1.keep (fun k => e _ k (by omega) (by omega)) (fun k => e _ k (by omega) (by omega)) (fun j hj k => e _ k (by omega) (by omega)) (fun j hj f _ => e _ f (by omega) (by omega)), h.2.1.keep (fun k => e _ k (by omega) (by omega)) (fun k => e _ k (by omega) (by omega)) (fun j hj k => e _ k (by omega) (by omega)) (fun j hj f _ => e _ f (by omega) (by omega)), fun j hj => by rw [e _ 1 (by omega) (by omega)]; exact h.2.2.1 j hj, by rw [e _ 1 (by omega) (by omega)]; exact h.2.2.2⟩
theorem zz_IM.far {σ σ1 : zz_S} {y : Nat} (h : zz_IM σ y) (e : ∀ a k : Nat, y ≤ a → a ≤ y + 12 → σ1 a k = σ a k) : zz_IM σ1 y :=
  ⟨h.1.keep (fun k => e _ k (by omega) (by omega)), h.2.1.keep (fun k => e _ k (by omega) (by omega)), fun j hj => by rw [e _ j (by omega) (by omega)]; exact h.2.2.1 j hj, by rw [e _ 18 (by omega) (by omega)]; exact h.2.2.2⟩
/-- calls that change the realm's numbers on both sides alike -/
theorem zz_RL.real {σ σ1 σ2 : zz_S} {x y : Nat} (h : zz_RL σ x y) (i1 : zz_IX σ1 x) (i2 : zz_IM σ2 y) (A : ∀ a k : Nat, x ≤ a → a < x + 76 → σ2 a k = σ1 a k) (B : ∀ a k : Nat, y ≤ a → a ≤ y + 12 → σ1 a k = σ a k) (rr : zz_RR σ2 (x + 1) (y + 1)) (a28 : ∀ k, σ1 (x + 28) k = σ (x + 28) k) (a0 : σ1 x 2 = σ x 2) (b2 : ∀ k, σ2 (y + 2) k = σ1 (y + 2) k) (b0 : σ2 y 2 = σ1 y 2) : zz_RL σ2 x y := by
  obtain ⟨-, -, hr, hk, hm⟩ := h
  refine ⟨i1.far A, i2, rr, ?_, ?_⟩
  · rw [A x 2 (by omega) (by omega), a0]
    exact hk.imp id (fun q => q.keep7 (fun k _ => (A _ k (by omega) (by omega)).trans (a28 k)) (fun k _ => (b2 k).trans (B _ k (by omega) (by omega))))
  · rw [A x 2 (by omega) (by omega), a0, b0, B y 2 (by omega) (by omega)]
    exact hm
/-- calls that change none of them -/
theorem zz_RL.soft {σ σ1 σ2 : zz_S} {x y : Nat} (h : zz_RL σ x y) (i1 : zz_IX σ1 x) (i2 : zz_IM σ2 y) (A : ∀ a k : Nat, x ≤ a → a < x + 76 → σ2 a k = σ1 a k) (B : ∀ a k : Nat, y ≤ a → a ≤ y + 12 → σ1 a k = σ a k) (a1 : ∀ k, σ1 (x + 1) k = σ (x + 1) k) (b1 : ∀ k : Nat, k ≤ 6 → σ2 (y + 1) k = σ1 (y + 1) k) (a28 : ∀ k, σ1 (x + 28) k = σ (x + 28) k) (a0 : σ1 x 2 = σ x 2) (b2 : ∀ k, σ2 (y + 2) k = σ1 (y + 2) k) (b0 : σ2 y 2 = σ1 y 2) : zz_RL σ2 x y :=
  h.real i1 i2 A B (h.2.2.1.keep7 (fun k _ => (A _ k (by omega) (by omega)).trans (a1 k)) (fun k hk => (b1 k hk).trans (B _ k (by omega) (by omega)))) a28 a0 b2 b0
/-- what stays throughout the law -/
def zz_LA (p : Program) (s : State) (m : MethodId) (c : Code) (b L : Nat) (xs : Nat → Int32) (E : zz_E) (x y : Nat) : Prop := p.tables.exec = Jvm.exec ∧ c.code = code ∧ c.maxLocals = 4 ∧ s.vm.findClass RL = some m.cls ∧ (∀ w ∈ wsL_law, w.before #[Value.ref b] s = true) ∧ va_X b L xs s s.heap ∧ b < s.heap.size ∧ (∀ a : Nat, zz_A E a → s.heap.size ≤ a) ∧ L ≤ 3072 ∧ zz_L E x ∧ zz_M E y ∧ x + 76 ≤ y ∧ zz_Kn E s
/-- DREAMS, WONTS, the kept ones, SHEETS, THE TRACE, THE TAPE, TEXTS -/
def zz_RD (σ : zz_S) (x y : Nat) : Prop := zz_DX σ (x + 1) = zz_DM σ (y + 1) ∧ zz_PX 0 σ (x + 1) = zz_PM 0 σ (y + 1) ∧ ((σ x 2).toInt = 0 ∨ (zz_DX σ (x + 28) = zz_DM σ (y + 2) ∧ zz_PX 0 σ (x + 28) = zz_PM 0 σ (y + 2) ∧ zz_Tp σ (x + 28 + 4) (σ (x + 28) 9).toInt = zz_Tm σ (y + 2) ∧ zz_tts (zz_XT σ (x + 28)) (zz_MT σ (y + 2)) ∧ zz_PX 1 σ (x + 28) = zz_PM 1 σ (y + 2) ∧ zy_FB (zz_PM 1 σ (y + 2)) ∧ zy_wv σ (x + 28 + 5) 0 (σ (x + 28) 11).toInt = zy_wv σ (y + 2) 133 (σ (y + 2) 6).toInt)) ∧ zz_HX 0 σ x = zz_HM σ (y + 4) ∧ zz_HX 1 σ x = zz_HM σ (y + 5) ∧ zz_CX σ x = zz_CM σ (y + 6) ∧ (σ (x + 56) 1).toInt = (σ y 18).toInt ∧ zz_TV σ (x + 56 + 1) = zz_TV σ (y + 12) ∧ zz_Tp σ (x + 1 + 4) (σ (x + 1) 9).toInt = zz_Tm σ (y + 1) ∧ zz_tts (zz_XT σ (x + 1)) (zz_MT σ (y + 1)) ∧ zz_PX 1 σ (x + 1) = zz_PM 1 σ (y + 1) ∧ zy_FB (zz_PM 1 σ (y + 1)) ∧ zy_wv σ (x + 1 + 5) 0 (σ (x + 1) 11).toInt = zy_wv σ (y + 1) 133 (σ (y + 1) 6).toInt
theorem zz_aX {σ1 σ2 : zz_S} {x : Nat} (A : ∀ a k : Nat, x ≤ a → a < x + 76 → σ2 a k = σ1 a k) : zz_DX σ2 (x + 1) = zz_DX σ1 (x + 1) ∧ zz_PX 0 σ2 (x + 1) = zz_PX 0 σ1 (x + 1) ∧ zz_DX σ2 (x + 28) = zz_DX σ1 (x + 28) ∧ zz_PX 0 σ2 (x + 28) = zz_PX 0 σ1 (x + 28) ∧ zz_HX 0 σ2 x = zz_HX 0 σ1 x ∧ zz_HX 1 σ2 x = zz_HX 1 σ1 x ∧ zz_CX σ2 x = zz_CX σ1 x ∧ (σ2 (x + 56) 1).toInt = (σ1 (x + 56) 1).toInt ∧ zz_TV σ2 (x + 56 + 1) = zz_TV σ1 (x + 56 + 1) ∧ zz_Tp σ2 (x + 1 + 4) (σ2 (x + 1) 9).toInt = zz_Tp σ1 (x + 1 + 4) (σ1 (x + 1) 9).toInt ∧ zz_XT σ2 (x + 1) = zz_XT σ1 (x + 1) ∧ zz_Tp σ2 (x + 28 + 4) (σ2 (x + 28) 9).toInt = zz_Tp σ1 (x + 28 + 4) (σ1 (x + 28) 9).toInt ∧ zz_XT σ2 (x + 28) = zz_XT σ1 (x + 28) :=
  ⟨zz_DX.eq (fun j hj f _ => A _ f (by omega) (by omega)), zz_PX.eq (fun j hj => A _ 0 (by omega) (by omega)), zz_DX.eq (fun j hj f _ => A _ f (by omega) (by omega)), zz_PX.eq (fun j hj => A _ 0 (by omega) (by omega)), zz_HX.eq (fun j hj => A _ 0 (by omega) (by omega)), zz_HX.eq (fun j hj => A _ 1 (by omega) (by omega)), zz_CX.eq (fun j hj k _ => A _ k (by omega) (by omega)), congrArg Int32.toInt (A _ 1 (by omega) (by omega)), zz_TV.eq (fun k _ => A _ k (by omega) (by omega)), zz_Tp.all (congrArg Int32.toInt (A _ 9 (by omega) (by omega))) (fun k => A _ k (by omega) (by omega)), zz_XT.all (fun a ha k => A a k (by omega) (by omega)), zz_Tp.all (congrArg Int32.toInt (A _ 9 (by omega) (by omega))) (fun k => A _ k (by omega) (by omega)), zz_XT.all (fun a ha k => A a k (by omega) (by omega))⟩
theorem zz_bM {σ σ1 : zz_S} {y : Nat} (hM : zz_IM σ y) (B : ∀ a k : Nat, y ≤ a → a ≤ y + 12 → σ1 a k = σ a k) : zz_DM σ1 (y + 1) = zz_DM σ (y + 1) ∧ zz_PM 0 σ1 (y + 1) = zz_PM 0 σ (y + 1) ∧ zz_DM σ1 (y + 2) = zz_DM σ (y + 2) ∧ zz_PM 0 σ1 (y + 2) = zz_PM 0 σ (y + 2) ∧ zz_HM σ1 (y + 4) = zz_HM σ (y + 4) ∧ zz_HM σ1 (y + 5) = zz_HM σ (y + 5) ∧ zz_CM σ1 (y + 6) = zz_CM σ (y + 6) ∧ (σ1 y 18).toInt = (σ y 18).toInt ∧ zz_TV σ1 (y + 12) = zz_TV σ (y + 12) ∧ zz_Tm σ1 (y + 1) = zz_Tm σ (y + 1) ∧ zz_MT σ1 (y + 1) = zz_MT σ (y + 1) ∧ zz_Tm σ1 (y + 2) = zz_Tm σ (y + 2) ∧ zz_MT σ1 (y + 2) = zz_MT σ (y + 2) :=
  ⟨zz_DM.eq (fun k _ _ => B _ k (by omega) (by omega)), zz_PM.eq (fun j _ => B _ _ (by omega) (by omega)), zz_DM.eq (fun k _ _ => B _ k (by omega) (by omega)), zz_PM.eq (fun j _ => B _ _ (by omega) (by omega)), zz_HM.eq (fun j _ => B _ j (by omega) (by omega)), zz_HM.eq (fun j _ => B _ j (by omega) (by omega)), zz_CM.eq (fun k _ => B _ k (by omega) (by omega)), congrArg Int32.toInt (B _ 18 (by omega) (by omega)), zz_TV.eq (fun k _ => B _ k (by omega) (by omega)), zz_Tm.eq (B _ _ (by omega) (by omega)) hM.1.2.2.2.2.1.2 (fun k _ => B _ _ (by omega) (by omega)), zz_MT.hi (fun k _ => B _ k (by omega) (by omega)), zz_Tm.eq (B _ _ (by omega) (by omega)) hM.2.1.2.2.2.2.1.2 (fun k _ => B _ _ (by omega) (by omega)), zz_MT.hi (fun k _ => B _ k (by omega) (by omega))⟩
theorem zz_voice_eq {σ σ1 : zz_S} {x y : Nat} {dm vo x1 : Int32} (hD : zz_DX σ (x + 1) = zz_DM σ1 (y + 1)) (hid : zz_ID (zz_DX σ (x + 1))) (hd : 0 ≤ dm.toInt ∧ dm.toInt < 9) (hv : 0 ≤ vo.toInt ∧ vo.toInt ≤ 3) : zz_U20 (σ (x + 1 + 6 + 1 * dm.toInt.toNat) 0) (σ (x + 1 + 6 + 1 * dm.toInt.toNat) 1) dm vo (σ (x + 1 + 6 + 1 * dm.toInt.toNat) 0) x1 (0 : Int32).toInt = zz_V vo.toInt (zz_DM σ1 (y + 1) dm.toInt.toNat 0) (σ1 (y + 1) (7 + 6 * dm.toInt.toNat + 1)) dm x1 := by
  have h9 : dm.toInt.toNat < 9 := by omega
  have hk := (hid.cell h9).1
  have e0 : (σ (x + 1 + 6 + 1 * dm.toInt.toNat) 0).toInt = zz_DM σ1 (y + 1) dm.toInt.toNat 0 := by rw [← hD, zz_DX.at h9 (by decide)]
  have e1 : σ (x + 1 + 6 + 1 * dm.toInt.toNat) 1 = σ1 (y + 1) (7 + 6 * dm.toInt.toNat + 1) := zz_ext (by rw [← zz_DX.at h9 (by decide), hD, zz_DM.at h9 (by decide)])
  rw [zz_U20_V hk hv, e0, e1]
/-! ===== what the law goes by, for class and reference alike ===== -/
theorem zy_dep_run {c : Nat → Int32} {A V : Nat → Int} {n : Int} (hA : ∀ k : Nat, (k : Int) < n → A k = (c k).toInt) : ∀ k : Nat, (k : Int) ≤ n → zz_dep c k = (zz_run A V 0 0 0 k).1
  | 0, _ => rfl
  | k + 1, hk => by
    have ih := zy_dep_run (V := V) hA k (by omega)
    have e := hA k (by omega)
    show (if (c k).toInt = 1 ∨ (c k).toInt = 2 then zz_dep c k + 1 else if (c k).toInt = 3 then zz_dep c k else zz_dep c k - 1) = (zz_s1 (A k, V k) 0 0 0 (zz_run A V 0 0 0 k)).1
    unfold zz_s1
    rw [← e, ih]
    by_cases p : A k = 1 ∨ A k = 2
    · rw [if_pos p, if_pos p]
    · rw [if_neg p, if_neg p]
      by_cases d : A k = 3
      · rw [if_pos d, if_pos d]
      · rw [if_neg d, if_neg d]
theorem zy_wMof {σ : zz_S} {a : Nat} {X : Nat → zz_X3} (hI : zz_IW σ a) (ht : zz_tts X (zz_MT σ a)) : zz_wM (zz_MT σ a) := fun u hu => by
  obtain ⟨⟨h0, h60⟩, hwf⟩ := hI.2.2.2.2.2.2.2 u hu
  have g := ht u hu
  have e : zz_MT σ a u = ((σ a (157 + 121 * u)).toInt, zz_MC σ a (158 + 121 * u) (σ a (157 + 121 * u)).toInt, zz_MC σ a (218 + 121 * u) (σ a (157 + 121 * u)).toInt) := if_pos hu
  rw [e] at g ⊢
  unfold zz_tt at g
  dsimp only at g ⊢
  refine ⟨h60, fun k hk => ?_⟩
  have hA : ∀ j : Nat, (j : Int) < (σ a (157 + 121 * u)).toInt → zz_MC σ a (158 + 121 * u) (σ a (157 + 121 * u)).toInt j = (σ a (158 + 121 * u + j)).toInt := fun j hj => if_pos hj
  have w := hwf k (by omega)
  have d := zy_dep_run (c := fun k => σ a (158 + 121 * u + k)) (V := zz_MC σ a (218 + 121 * u) (σ a (157 + 121 * u)).toInt) hA k (by omega)
  have hc := hA k hk
  refine ⟨?_, fun h3 => ?_, fun h1 h2 h3 => ?_⟩
  · rcases g with ⟨-, g2⟩ | ⟨-, -, -, g4⟩
    · omega
    · exact (g4 k hk).2
  · rw [← d]
    exact w.2.1 (hc.symm.trans h3)
  · rw [← d]
    exact w.2.2 (fun q => h1 (hc.trans q)) (fun q => h2 (hc.trans q)) (fun q => h3 (hc.trans q))
def zy_KK (σ : zz_S) (x y : Nat) : zy_W := (zz_MT σ (y + 1), zz_DX σ (x + 1), (σ (x + 1) 4).toInt, (σ (x + 1) 1).toInt)
theorem zy_KX {σ : zz_S} {x y : Nat} (hR : zz_RL σ x y) (hQ : zz_RD σ x y) : zy_XW σ (x + 1) (zy_KK σ x y) := by
  have hs := hR.1.1.2.1
  exact ⟨rfl, rfl, rfl, hQ.2.2.2.2.2.2.2.2.2.1, zy_wMof hR.2.1.1 hQ.2.2.2.2.2.2.2.2.2.1, hR.1.1.2.2.2.2.2.2.2.2.2, hR.1.1.2.2.1, (show 0 ≤ (σ (x + 1) 1).toInt ∧ (σ (x + 1) 1).toInt ≤ 24 by omega)⟩
theorem zy_KY {σ σ1 : zz_S} {x y : Nat} (hR : zz_RL σ x y) (hQ : zz_RD σ x y) (B : ∀ a k : Nat, y ≤ a → a ≤ y + 12 → σ1 a k = σ a k) : zy_YW σ1 (y + 1) (zy_KK σ x y) := by
  obtain ⟨-, -, -, -, h5⟩ := zy_KX hR hQ
  refine ⟨?_, ?_, ?_, zz_MT.hi (fun k _ => B _ k (by omega) (by omega)), h5⟩
  · rw [zz_DM.eq (fun k _ _ => B _ k (by omega) (by omega))]
    exact hQ.1.symm
  · rw [B _ 2 (by omega) (by omega)]
    exact hR.2.2.1.2.2.2.1.symm
  · rw [B _ 4 (by omega) (by omega)]
    exact hR.2.2.1.2.1.symm
theorem zy_FBX {σ : zz_S} {x y : Nat} (hQ : zz_RD σ x y) : zy_FB (zz_PX 1 σ (x + 1)) := by
  rw [hQ.2.2.2.2.2.2.2.2.2.2.1]
  exact hQ.2.2.2.2.2.2.2.2.2.2.2.1
theorem zy_FBM {σ σ1 : zz_S} {x y : Nat} (hQ : zz_RD σ x y) (B : ∀ a k : Nat, y ≤ a → a ≤ y + 12 → σ1 a k = σ a k) : zy_FB (zz_PM 1 σ1 (y + 1)) := by
  rw [zz_PM.eq (fun j _ => B _ _ (by omega) (by omega))]
  exact hQ.2.2.2.2.2.2.2.2.2.2.2.1
theorem zy_aX2 {σ1 σ2 : zz_S} {x : Nat} (A : ∀ a k : Nat, x ≤ a → a < x + 76 → σ2 a k = σ1 a k) : zz_PX 1 σ2 (x + 1) = zz_PX 1 σ1 (x + 1) ∧ zz_PX 1 σ2 (x + 28) = zz_PX 1 σ1 (x + 28) ∧ zy_wv σ2 (x + 1 + 5) 0 (σ2 (x + 1) 11).toInt = zy_wv σ1 (x + 1 + 5) 0 (σ1 (x + 1) 11).toInt ∧ zy_wv σ2 (x + 28 + 5) 0 (σ2 (x + 28) 11).toInt = zy_wv σ1 (x + 28 + 5) 0 (σ1 (x + 28) 11).toInt :=
  ⟨zz_PX.eq (fun j hj => A _ 1 (by omega) (by omega)), zz_PX.eq (fun j hj => A _ 1 (by omega) (by omega)), zy_wv.eq (congrArg Int32.toInt (A _ 11 (by omega) (by omega))) (fun k hk => A _ _ (by omega) (by omega)), zy_wv.eq (congrArg Int32.toInt (A _ 11 (by omega) (by omega))) (fun k hk => A _ _ (by omega) (by omega))⟩
theorem zy_bM2 {σ σ1 : zz_S} {y : Nat} (B : ∀ a k : Nat, y ≤ a → a ≤ y + 12 → σ1 a k = σ a k) : zz_PM 1 σ1 (y + 1) = zz_PM 1 σ (y + 1) ∧ zz_PM 1 σ1 (y + 2) = zz_PM 1 σ (y + 2) ∧ zy_wv σ1 (y + 1) 133 (σ1 (y + 1) 6).toInt = zy_wv σ (y + 1) 133 (σ (y + 1) 6).toInt ∧ zy_wv σ1 (y + 2) 133 (σ1 (y + 2) 6).toInt = zy_wv σ (y + 2) 133 (σ (y + 2) 6).toInt :=
  ⟨zz_PM.eq (fun j _ => B _ _ (by omega) (by omega)), zz_PM.eq (fun j _ => B _ _ (by omega) (by omega)), zy_wv.eq (congrArg Int32.toInt (B _ 6 (by omega) (by omega))) (fun k _ => B _ _ (by omega) (by omega)), zy_wv.eq (congrArg Int32.toInt (B _ 6 (by omega) (by omega))) (fun k _ => B _ _ (by omega) (by omega))⟩
