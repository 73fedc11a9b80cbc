/-! ===== VOICES: THE TRACE, what is uttered ===== -/
def zz_TV (σ : zz_S) (a : Nat) : Nat → Int := fun k => if k < 30 then (σ a k).toInt else 0
def zz_ap : List Int → (Nat → Int) → Int → (Nat → Int)
  | [], T, _ => T
  | b :: l, T, n => if n < 30 then zz_ap l (zz_wn T n b) (n + 1) else zz_ap l T n
def zz_al : List Int → Int → Int
  | [], n => n
  | _ :: l, n => if n < 30 then zz_al l (n + 1) else zz_al l n
theorem zz_ap_app : ∀ (l1 l2 : List Int) (T : Nat → Int) (n : Int), zz_ap (l1 ++ l2) T n = zz_ap l2 (zz_ap l1 T n) (zz_al l1 n)
  | [], l2, T, n => rfl
  | b :: l, l2, T, n => by
    show (if n < 30 then zz_ap (l ++ l2) (zz_wn T n b) (n + 1) else zz_ap (l ++ l2) T n) = zz_ap l2 (if n < 30 then zz_ap l (zz_wn T n b) (n + 1) else zz_ap l T n) (if n < 30 then zz_al l (n + 1) else zz_al l n)
    by_cases h : n < 30
    · rw [if_pos h, if_pos h, if_pos h]
      exact zz_ap_app l l2 _ _
    · rw [if_neg h, if_neg h, if_neg h]
      exact zz_ap_app l l2 _ _
theorem zz_al_app : ∀ (l1 l2 : List Int) (n : Int), zz_al (l1 ++ l2) n = zz_al l2 (zz_al l1 n)
  | [], l2, n => rfl
  | b :: l, l2, n => by
    show (if n < 30 then zz_al (l ++ l2) (n + 1) else zz_al (l ++ l2) n) = zz_al l2 (if n < 30 then zz_al l (n + 1) else zz_al l n)
    by_cases h : n < 30
    · rw [if_pos h, if_pos h]
      exact zz_al_app l l2 _
    · rw [if_neg h, if_neg h]
      exact zz_al_app l l2 _
def zz_tg (σ σ1 : zz_S) (a o s : Nat) (l : List Int) : Prop := zz_TV σ1 a = zz_ap l (zz_TV σ a) (σ o s).toInt ∧ (σ1 o s).toInt = zz_al l (σ o s).toInt
theorem zz_tg.rf (σ : zz_S) (a o s : Nat) : zz_tg σ σ a o s [] := ⟨rfl, rfl⟩
theorem zz_tg.tr {σ σ1 σ2 : zz_S} {a o s : Nat} {l1 l2 : List Int} (h1 : zz_tg σ σ1 a o s l1) (h2 : zz_tg σ1 σ2 a o s l2) : zz_tg σ σ2 a o s (l1 ++ l2) := by
  constructor
  · rw [h2.1, h1.1, h1.2, zz_ap_app]
  · rw [h2.2, h1.2, zz_al_app]
theorem zz_TV.eq {σ σ1 : zz_S} {a b : Nat} (h : ∀ k : Nat, k < 30 → σ1 b k = σ a k) : zz_TV σ1 b = zz_TV σ a := by
  funext k
  simp only [zz_TV]
  by_cases q : k < 30
  · rw [if_pos q, if_pos q, h k q]
  · rw [if_neg q, if_neg q]
theorem zz_TV.at {σ : zz_S} {a k : Nat} (h : k < 30) : zz_TV σ a k = (σ a k).toInt := if_pos h
theorem zz_tg.out {σ σ1 σ2 : zz_S} {a o s : Nat} {l : List Int} (h : zz_tg σ σ1 a o s l) (e1 : ∀ k : Nat, k < 30 → σ2 a k = σ1 a k) (e2 : σ2 o s = σ1 o s) : zz_tg σ σ2 a o s l := ⟨(zz_TV.eq e1).trans h.1, by rw [e2]; exact h.2⟩
theorem zz_tg.inn {σ σ1 σ2 : zz_S} {a o s : Nat} {l : List Int} (h : zz_tg σ1 σ2 a o s l) (e1 : ∀ k : Nat, k < 30 → σ1 a k = σ a k) (e2 : σ1 o s = σ o s) : zz_tg σ σ2 a o s l := ⟨by rw [h.1, zz_TV.eq e1, e2], by rw [h.2, e2]⟩
theorem zz_tg.full {σ : zz_S} {a o s : Nat} {b : Int} (h : ¬ (σ o s).toInt < 30) : zz_tg σ σ a o s [b] := ⟨(if_neg h).symm, (if_neg h).symm⟩
theorem zz_tg.begin {σ σ1 σ2 : zz_S} {a o s j : Nat} {nu n : Int32} (w1 : σ1 = zz_u σ a j nu) (w2 : σ2 = zz_u σ1 o s n) (ha : a ≠ o) (hj : (j : Int) = (σ o s).toInt) (h30 : j < 30) (hn : n.toInt = (σ o s).toInt + 1) : zz_tg σ σ2 a o s [nu.toInt] := by
  have hlt : (σ o s).toInt < 30 := by omega
  constructor
  · show zz_TV σ2 a = (if (σ o s).toInt < 30 then zz_wn (zz_TV σ a) (σ o s).toInt nu.toInt else zz_TV σ a)
    rw [if_pos hlt]
    funext k
    simp only [zz_TV, zz_wn]
    by_cases q : (k : Int) = (σ o s).toInt
    · rw [if_pos q, if_pos (by omega), w2, zz_un (fun h => ha h.1), w1, show k = j from by omega, zz_us]
    · rw [if_neg q, w2]
      by_cases p : k < 30
      · rw [if_pos p, if_pos p, zz_un (fun h => ha h.1), w1, zz_un (fun h => q (by omega))]
      · rw [if_neg p, if_neg p]
  · show (σ2 o s).toInt = (if (σ o s).toInt < 30 then (σ o s).toInt + 1 else (σ o s).toInt)
    rw [if_pos hlt, w2, zz_us, hn]
/-- the class: the BODY of a KIND, the KIND that has one -/
def zz_ba (kd vo : Int32) : Int32 := if 0 ≤ (kd * 4 + vo).toInt ∧ (kd * 4 + vo).toInt < 28 then zz_vB (kd * 4 + vo).toNatClampNeg else 0
def zz_ow : Nat → Int32 → Int32 → Int32
  | 0, _, ow => ow
  | n + 1, vo, ow => if ow.toInt < 0 ∨ (zz_ba ow vo).toInt ≠ 0 then ow else zz_ow n vo (zz_ab ow)
theorem zz_ow_stop {vo ow : Int32} (h : ow.toInt < 0 ∨ (zz_ba ow vo).toInt ≠ 0) : ∀ n : Nat, zz_ow n vo ow = ow
  | 0 => rfl
  | n + 1 => if_pos h
theorem zz_ow_up {vo ow : Int32} {n m : Nat} (h : ¬ ow.toInt < 0) (h2 : (zz_ba ow vo).toInt = 0) (hn : n = m + 1) : zz_ow n vo ow = zz_ow m vo (zz_ab ow) := by
  subst hn
  exact if_neg (fun q => q.elim h (fun q => q h2))
abbrev zz_Q : Type := Int32 × List Int × Int
def zz_DB (U : Int32 → Int32 → Int32 → Int → zz_Q) (kd m k nu x : Int32) (pt : Int) : zz_Q :=
  if nu.toInt = 10 then (x + k, [], pt)
  else if nu.toInt = 11 then ((U 0 kd x pt).1 * 2, (U 0 kd x pt).2.1, (U 0 kd x pt).2.2)
  else if nu.toInt = 12 then ((U 1 kd x pt).1 - m, (U 1 kd x pt).2.1, (U 1 kd x pt).2.2)
  else if (m - k).toInt = 0 then (0, [], 1) else (x / (m - k), [], 0)
def zz_OB (U : Int32 → Int32 → Int32 → Int → zz_Q) (kd m k nu ab x : Int32) (pt : Int) : zz_Q :=
  if nu.toInt = 20 then ((U 0 ab x pt).1 - 4, (U 0 ab x pt).2.1, (U 0 ab x pt).2.2)
  else if nu.toInt = 21 then ((U 3 ab x pt).1 + (U 1 kd 1 (U 3 ab x pt).2.2).1, (U 3 ab x pt).2.1 ++ (U 1 kd 1 (U 3 ab x pt).2.2).2.1, (U 1 kd 1 (U 3 ab x pt).2.2).2.2)
  else if nu.toInt = 30 then (0 - (U 1 ab x pt).1, (U 1 ab x pt).2.1, (U 1 ab x pt).2.2)
  else if nu.toInt = 40 then U 2 ab (x / 2) pt
  else if nu.toInt = 50 then ((U 0 ab x pt).1 * 3, (U 0 ab x pt).2.1, (U 0 ab x pt).2.2)
  else if nu.toInt = 51 then ((U 2 ab x pt).1 ^^^ k, (U 2 ab x pt).2.1, (U 2 ab x pt).2.2)
  else if nu.toInt = 60 then U 1 ab (x + 1) pt
  else if nu.toInt = 70 then (9, [], pt)
  else ((U 1 ab x pt).1 + m, (U 1 ab x pt).2.1, (U 1 ab x pt).2.2)
def zz_U : Nat → Int32 → Int32 → Int32 → Int32 → Int32 → Int32 → Int → zz_Q
  | 0, _, _, _, _, _, _, pt => (0, [], pt)
  | n + 1, kd, m, k, vo, fr, x, pt =>
    if (zz_ow 7 vo fr).toInt < 0 ∨ pt ≠ 0 then (0, [], pt)
    else if (zz_ba (zz_ow 7 vo fr) vo).toInt < 20 then ((zz_DB (zz_U n kd m k) kd m k (zz_ba (zz_ow 7 vo fr) vo) x pt).1, (zz_ba (zz_ow 7 vo fr) vo).toInt :: (zz_DB (zz_U n kd m k) kd m k (zz_ba (zz_ow 7 vo fr) vo) x pt).2.1, (zz_DB (zz_U n kd m k) kd m k (zz_ba (zz_ow 7 vo fr) vo) x pt).2.2)
    else ((zz_OB (zz_U n kd m k) kd m k (zz_ba (zz_ow 7 vo fr) vo) (zz_ab (zz_ow 7 vo fr)) x pt).1, (zz_ba (zz_ow 7 vo fr) vo).toInt :: (zz_OB (zz_U n kd m k) kd m k (zz_ba (zz_ow 7 vo fr) vo) (zz_ab (zz_ow 7 vo fr)) x pt).2.1, (zz_OB (zz_U n kd m k) kd m k (zz_ba (zz_ow 7 vo fr) vo) (zz_ab (zz_ow 7 vo fr)) x pt).2.2)
/-- what a call of the class's Speaker leaves -/
def zz_vp (σ σ1 : zz_S) (h0 : Nat) (r : Int32) (q : zz_Q) : Prop := r = q.1 ∧ zz_tg σ σ1 (h0 + 1) h0 1 q.2.1 ∧ (σ1 h0 2).toInt = q.2.2
theorem zz_U_stop {n : Nat} {kd m k vo fr x : Int32} {pt : Int} (h : (zz_ow 7 vo fr).toInt < 0 ∨ pt ≠ 0 ∨ n = 0) : zz_U n kd m k vo fr x pt = (0, [], pt) := by
  cases n with
  | zero => rfl
  | succ n =>
    have h2 : (zz_ow 7 vo fr).toInt < 0 ∨ pt ≠ 0 := h.elim Or.inl (fun q => q.elim Or.inr (fun q => absurd q (Nat.succ_ne_zero n)))
    exact if_pos h2
theorem zz_U_D {n n1 : Nat} {kd m k vo fr x b : Int32} {pt : Int} (hn : n = n1 + 1) (h1 : ¬ (zz_ow 7 vo fr).toInt < 0) (h2 : pt = 0) (hb : zz_ba (zz_ow 7 vo fr) vo = b) (h3 : b.toInt < 20) : zz_U n kd m k vo fr x pt = ((zz_DB (zz_U n1 kd m k) kd m k b x pt).1, b.toInt :: (zz_DB (zz_U n1 kd m k) kd m k b x pt).2.1, (zz_DB (zz_U n1 kd m k) kd m k b x pt).2.2) := by
  subst hn
  subst hb
  exact (if_neg (fun q => q.elim h1 (fun q => q h2))).trans (if_pos h3)
theorem zz_U_O {n n1 : Nat} {kd m k vo fr x b ab : Int32} {pt : Int} (hn : n = n1 + 1) (h1 : ¬ (zz_ow 7 vo fr).toInt < 0) (h2 : pt = 0) (hb : zz_ba (zz_ow 7 vo fr) vo = b) (h3 : ¬ b.toInt < 20) (ha : zz_ab (zz_ow 7 vo fr) = ab) : zz_U n kd m k vo fr x pt = ((zz_OB (zz_U n1 kd m k) kd m k b ab x pt).1, b.toInt :: (zz_OB (zz_U n1 kd m k) kd m k b ab x pt).2.1, (zz_OB (zz_U n1 kd m k) kd m k b ab x pt).2.2) := by
  subst hn
  subst hb
  subst ha
  exact (if_neg (fun q => q.elim h1 (fun q => q h2))).trans (if_neg h3)
/-- the reference's VOICES -/
def zz_mu (kd : Int) (k x : Int32) : Int32 × List Int := if kd = 1 then (x + k - 4, [20, 10]) else if kd = 4 then ((x + k - 4) * 3, [50, 20, 10]) else if kd = 6 then (9, [70]) else (x + k, [10])
def zz_sp (kd : Int) (k x : Int32) : Int32 × List Int := ((zz_mu kd k x).1 * 2, 11 :: (zz_mu kd k x).2)
def zz_si (kd : Int) (m k x : Int32) : Int32 × List Int := if kd = 2 then (-(zz_sp kd k x).1, 30 :: (zz_sp kd k x).2) else if kd = 5 then (-(zz_sp kd k (x + 1)).1, 60 :: 30 :: (zz_sp kd k (x + 1)).2) else if kd = 6 then ((zz_sp kd k x).1 + m, 71 :: (zz_sp kd k x).2) else zz_sp kd k x
def zz_np (kd : Int) (m k x : Int32) : Int32 × List Int := ((zz_si kd m k x).1 - m, 12 :: (zz_si kd m k x).2)
def zz_sn (kd : Int) (m k x : Int32) : Int32 × List Int := if kd = 3 then ((zz_np kd m k (x / 2)).1, 40 :: (zz_np kd m k (x / 2)).2) else if kd = 4 then ((zz_np kd m k x).1 ^^^ k, 51 :: (zz_np kd m k x).2) else zz_np kd m k x
def zz_pp (m k x : Int32) : zz_Q := if (m - k).toInt = 0 then (0, [13], 1) else (x / (m - k), [13], 0)
def zz_pa (kd : Int) (m k x : Int32) : zz_Q := if kd = 1 ∨ kd = 4 then (if (m - k).toInt = 0 then (0, [21, 13], 1) else (x / (m - k) + (zz_si kd m k 1).1, 21 :: 13 :: (zz_si kd m k 1).2, 0)) else zz_pp m k x
def zz_V (vo kd : Int) (m k x : Int32) : zz_Q := if vo = 0 then ((zz_mu kd k x).1, (zz_mu kd k x).2, 0) else if vo = 1 then ((zz_si kd m k x).1, (zz_si kd m k x).2, 0) else if vo = 2 then ((zz_sn kd m k x).1, (zz_sn kd m k x).2, 0) else zz_pa kd m k x
section VOI
variable {U : Int32 → Int32 → Int32 → Int → zz_Q} {kd m k ab x : Int32} {pt : Int}
theorem zz_DB_10 : zz_DB U kd m k 10 x pt = (x + k, [], pt) := if_pos (by decide +kernel)
theorem zz_DB_11 : zz_DB U kd m k 11 x pt = ((U 0 kd x pt).1 * 2, (U 0 kd x pt).2.1, (U 0 kd x pt).2.2) := (if_neg (by decide +kernel)).trans (if_pos (by decide +kernel))
theorem zz_DB_12 : zz_DB U kd m k 12 x pt = ((U 1 kd x pt).1 - m, (U 1 kd x pt).2.1, (U 1 kd x pt).2.2) := (if_neg (by decide +kernel)).trans ((if_neg (by decide +kernel)).trans (if_pos (by decide +kernel)))
theorem zz_DB_13 : zz_DB U kd m k 13 x pt = if (m - k).toInt = 0 then (0, [], 1) else (x / (m - k), [], 0) := (if_neg (by decide +kernel)).trans ((if_neg (by decide +kernel)).trans (if_neg (by decide +kernel)))
theorem zz_OB_20 : zz_OB U kd m k 20 ab x pt = ((U 0 ab x pt).1 - 4, (U 0 ab x pt).2.1, (U 0 ab x pt).2.2) := (if_pos (by decide +kernel))
theorem zz_OB_21 : zz_OB U kd m k 21 ab x pt = ((U 3 ab x pt).1 + (U 1 kd 1 (U 3 ab x pt).2.2).1, (U 3 ab x pt).2.1 ++ (U 1 kd 1 (U 3 ab x pt).2.2).2.1, (U 1 kd 1 (U 3 ab x pt).2.2).2.2) := ((if_neg (by decide +kernel)).trans (if_pos (by decide +kernel)))
theorem zz_OB_30 : zz_OB U kd m k 30 ab x pt = (0 - (U 1 ab x pt).1, (U 1 ab x pt).2.1, (U 1 ab x pt).2.2) := ((if_neg (by decide +kernel)).trans ((if_neg (by decide +kernel)).trans (if_pos (by decide +kernel))))
theorem zz_OB_40 : zz_OB U kd m k 40 ab x pt = U 2 ab (x / 2) pt := ((if_neg (by decide +kernel)).trans ((if_neg (by decide +kernel)).trans ((if_neg (by decide +kernel)).trans (if_pos (by decide +kernel)))))
theorem zz_OB_50 : zz_OB U kd m k 50 ab x pt = ((U 0 ab x pt).1 * 3, (U 0 ab x pt).2.1, (U 0 ab x pt).2.2) := ((if_neg (by decide +kernel)).trans ((if_neg (by decide +kernel)).trans ((if_neg (by decide +kernel)).trans ((if_neg (by decide +kernel)).trans (if_pos (by decide +kernel))))))
theorem zz_OB_51 : zz_OB U kd m k 51 ab x pt = ((U 2 ab x pt).1 ^^^ k, (U 2 ab x pt).2.1, (U 2 ab x pt).2.2) := ((if_neg (by decide +kernel)).trans ((if_neg (by decide +kernel)).trans ((if_neg (by decide +kernel)).trans ((if_neg (by decide +kernel)).trans ((if_neg (by decide +kernel)).trans (if_pos (by decide +kernel)))))))
theorem zz_OB_60 : zz_OB U kd m k 60 ab x pt = U 1 ab (x + 1) pt := ((if_neg (by decide +kernel)).trans ((if_neg (by decide +kernel)).trans ((if_neg (by decide +kernel)).trans ((if_neg (by decide +kernel)).trans ((if_neg (by decide +kernel)).trans ((if_neg (by decide +kernel)).trans (if_pos (by decide +kernel))))))))
theorem zz_OB_70 : zz_OB U kd m k 70 ab x pt = (9, [], pt) := ((if_neg (by decide +kernel)).trans ((if_neg (by decide +kernel)).trans ((if_neg (by decide +kernel)).trans ((if_neg (by decide +kernel)).trans ((if_neg (by decide +kernel)).trans ((if_neg (by decide +kernel)).trans ((if_neg (by decide +kernel)).trans (if_pos (by decide +kernel)))))))))
theorem zz_OB_71 : zz_OB U kd m k 71 ab x pt = ((U 1 ab x pt).1 + m, (U 1 ab x pt).2.1, (U 1 ab x pt).2.2) := ((if_neg (by decide +kernel)).trans ((if_neg (by decide +kernel)).trans ((if_neg (by decide +kernel)).trans ((if_neg (by decide +kernel)).trans ((if_neg (by decide +kernel)).trans ((if_neg (by decide +kernel)).trans ((if_neg (by decide +kernel)).trans (if_neg (by decide +kernel)))))))))
end VOI
section VOJ
variable {kd m k x : Int32}
theorem zz_s00 {n : Nat} : zz_U (n + 1) kd m k 0 0 x 0 = (x + k, [10], 0) := by
  rw [zz_U_D (n1 := n) (b := 10) rfl (by decide +kernel) rfl (by decide +kernel) (by decide +kernel), zz_DB_10, (show (10 : Int32).toInt = 10 by decide +kernel)]
theorem zz_s02 {n : Nat} : zz_U (n + 1) kd m k 0 2 x 0 = (x + k, [10], 0) := by
  rw [zz_U_D (n1 := n) (b := 10) rfl (by decide +kernel) rfl (by decide +kernel) (by decide +kernel), zz_DB_10, (show (10 : Int32).toInt = 10 by decide +kernel)]
theorem zz_s03 {n : Nat} : zz_U (n + 1) kd m k 0 3 x 0 = (x + k, [10], 0) := by
  rw [zz_U_D (n1 := n) (b := 10) rfl (by decide +kernel) rfl (by decide +kernel) (by decide +kernel), zz_DB_10, (show (10 : Int32).toInt = 10 by decide +kernel)]
theorem zz_s05 {n : Nat} : zz_U (n + 1) kd m k 0 5 x 0 = (x + k, [10], 0) := by
  rw [zz_U_D (n1 := n) (b := 10) rfl (by decide +kernel) rfl (by decide +kernel) (by decide +kernel), zz_DB_10, (show (10 : Int32).toInt = 10 by decide +kernel)]
theorem zz_s01 {n : Nat} : zz_U (n + 2) kd m k 0 1 x 0 = (x + k - 4, [20, 10], 0) := by
  rw [zz_U_O (n1 := n + 1) (b := 20) (ab := 0) rfl (by decide +kernel) rfl (by decide +kernel) (by decide +kernel) (by decide +kernel), zz_OB_20, zz_s00, (show (20 : Int32).toInt = 20 by decide +kernel)]
theorem zz_s04 {n : Nat} : zz_U (n + 3) kd m k 0 4 x 0 = ((x + k - 4) * 3, [50, 20, 10], 0) := by
  rw [zz_U_O (n1 := n + 2) (b := 50) (ab := 1) rfl (by decide +kernel) rfl (by decide +kernel) (by decide +kernel) (by decide +kernel), zz_OB_50, zz_s01, (show (50 : Int32).toInt = 50 by decide +kernel)]
theorem zz_s06 {n : Nat} : zz_U (n + 1) kd m k 0 6 x 0 = (9, [70], 0) := by
  rw [zz_U_O (n1 := n) (b := 70) (ab := 0) rfl (by decide +kernel) rfl (by decide +kernel) (by decide +kernel) (by decide +kernel), zz_OB_70, (show (70 : Int32).toInt = 70 by decide +kernel)]
theorem zz_kd7 (h : 0 ≤ kd.toInt ∧ kd.toInt ≤ 6) : kd = 0 ∨ kd = 1 ∨ kd = 2 ∨ kd = 3 ∨ kd = 4 ∨ kd = 5 ∨ kd = 6 := by
  rcases (show kd.toInt = 0 ∨ kd.toInt = 1 ∨ kd.toInt = 2 ∨ kd.toInt = 3 ∨ kd.toInt = 4 ∨ kd.toInt = 5 ∨ kd.toInt = 6 by omega) with q | q | q | q | q | q | q
  · exact Or.inl (zz_ext (by rw [q]; decide))
  · exact Or.inr (Or.inl (zz_ext (by rw [q]; decide)))
  · exact Or.inr (Or.inr (Or.inl (zz_ext (by rw [q]; decide))))
  · exact Or.inr (Or.inr (Or.inr (Or.inl (zz_ext (by rw [q]; decide)))))
  · exact Or.inr (Or.inr (Or.inr (Or.inr (Or.inl (zz_ext (by rw [q]; decide))))))
  · exact Or.inr (Or.inr (Or.inr (Or.inr (Or.inr (Or.inl (zz_ext (by rw [q]; decide)))))))
  · exact Or.inr (Or.inr (Or.inr (Or.inr (Or.inr (Or.inr (zz_ext (by rw [q]; decide)))))))
theorem zz_smu {n : Nat} (h : 0 ≤ kd.toInt ∧ kd.toInt ≤ 6) : zz_U (n + 3) kd m k 0 kd x 0 = ((zz_mu kd.toInt k x).1, (zz_mu kd.toInt k x).2, 0) := by
  rcases zz_kd7 h with rfl | rfl | rfl | rfl | rfl | rfl | rfl
  · unfold zz_mu; rw [zz_s00, if_neg (by decide +kernel), if_neg (by decide +kernel), if_neg (by decide +kernel)]
  · unfold zz_mu; rw [zz_s01, if_pos (by decide +kernel)]
  · unfold zz_mu; rw [zz_s02, if_neg (by decide +kernel), if_neg (by decide +kernel), if_neg (by decide +kernel)]
  · unfold zz_mu; rw [zz_s03, if_neg (by decide +kernel), if_neg (by decide +kernel), if_neg (by decide +kernel)]
  · unfold zz_mu; rw [zz_s04, if_neg (by decide +kernel), if_pos (by decide +kernel)]
  · unfold zz_mu; rw [zz_s05, if_neg (by decide +kernel), if_neg (by decide +kernel), if_neg (by decide +kernel)]
  · unfold zz_mu; rw [zz_s06, if_neg (by decide +kernel), if_neg (by decide +kernel), if_pos (by decide +kernel)]
theorem zz_s10 {n : Nat} (h : 0 ≤ kd.toInt ∧ kd.toInt ≤ 6) : zz_U (n + 4) kd m k 1 0 x 0 = ((zz_sp kd.toInt k x).1, (zz_sp kd.toInt k x).2, 0) := by
  rw [zz_U_D (n1 := n + 3) (b := 11) rfl (by decide +kernel) rfl (by decide +kernel) (by decide +kernel), zz_DB_11, zz_smu h, (show (11 : Int32).toInt = 11 by decide +kernel)]; rfl
theorem zz_s11 {n : Nat} (h : 0 ≤ kd.toInt ∧ kd.toInt ≤ 6) : zz_U (n + 4) kd m k 1 1 x 0 = ((zz_sp kd.toInt k x).1, (zz_sp kd.toInt k x).2, 0) := by
  rw [zz_U_D (n1 := n + 3) (b := 11) rfl (by decide +kernel) rfl (by decide +kernel) (by decide +kernel), zz_DB_11, zz_smu h, (show (11 : Int32).toInt = 11 by decide +kernel)]; rfl
theorem zz_s13 {n : Nat} (h : 0 ≤ kd.toInt ∧ kd.toInt ≤ 6) : zz_U (n + 4) kd m k 1 3 x 0 = ((zz_sp kd.toInt k x).1, (zz_sp kd.toInt k x).2, 0) := by
  rw [zz_U_D (n1 := n + 3) (b := 11) rfl (by decide +kernel) rfl (by decide +kernel) (by decide +kernel), zz_DB_11, zz_smu h, (show (11 : Int32).toInt = 11 by decide +kernel)]; rfl
theorem zz_s14 {n : Nat} (h : 0 ≤ kd.toInt ∧ kd.toInt ≤ 6) : zz_U (n + 4) kd m k 1 4 x 0 = ((zz_sp kd.toInt k x).1, (zz_sp kd.toInt k x).2, 0) := by
  rw [zz_U_D (n1 := n + 3) (b := 11) rfl (by decide +kernel) rfl (by decide +kernel) (by decide +kernel), zz_DB_11, zz_smu h, (show (11 : Int32).toInt = 11 by decide +kernel)]; rfl
theorem zz_0s (a : Int32) : 0 - a = -a := by rw [Int32.sub_eq_add_neg, Int32.zero_add]
theorem zz_s12 {n : Nat} (h : 0 ≤ kd.toInt ∧ kd.toInt ≤ 6) : zz_U (n + 5) kd m k 1 2 x 0 = (-(zz_sp kd.toInt k x).1, 30 :: (zz_sp kd.toInt k x).2, 0) := by
  rw [zz_U_O (n1 := n + 4) (b := 30) (ab := 0) rfl (by decide +kernel) rfl (by decide +kernel) (by decide +kernel) (by decide +kernel), zz_OB_30, zz_s10 h, (show (30 : Int32).toInt = 30 by decide +kernel), zz_0s]
theorem zz_s15 {n : Nat} (h : 0 ≤ kd.toInt ∧ kd.toInt ≤ 6) : zz_U (n + 6) kd m k 1 5 x 0 = (-(zz_sp kd.toInt k (x + 1)).1, 60 :: 30 :: (zz_sp kd.toInt k (x + 1)).2, 0) := by
  rw [zz_U_O (n1 := n + 5) (b := 60) (ab := 2) rfl (by decide +kernel) rfl (by decide +kernel) (by decide +kernel) (by decide +kernel), zz_OB_60, zz_s12 h, (show (60 : Int32).toInt = 60 by decide +kernel)]
theorem zz_s16 {n : Nat} (h : 0 ≤ kd.toInt ∧ kd.toInt ≤ 6) : zz_U (n + 5) kd m k 1 6 x 0 = ((zz_sp kd.toInt k x).1 + m, 71 :: (zz_sp kd.toInt k x).2, 0) := by
  rw [zz_U_O (n1 := n + 4) (b := 71) (ab := 0) rfl (by decide +kernel) rfl (by decide +kernel) (by decide +kernel) (by decide +kernel), zz_OB_71, zz_s10 h, (show (71 : Int32).toInt = 71 by decide +kernel)]
theorem zz_ssi {n : Nat} (h : 0 ≤ kd.toInt ∧ kd.toInt ≤ 6) : zz_U (n + 6) kd m k 1 kd x 0 = ((zz_si kd.toInt m k x).1, (zz_si kd.toInt m k x).2, 0) := by
  rcases zz_kd7 h with rfl | rfl | rfl | rfl | rfl | rfl | rfl
  · rw [zz_s10 h]; unfold zz_si; rw [if_neg (by decide +kernel), if_neg (by decide +kernel), if_neg (by decide +kernel)]
  · rw [zz_s11 h]; unfold zz_si; rw [if_neg (by decide +kernel), if_neg (by decide +kernel), if_neg (by decide +kernel)]
  · rw [zz_s12 h]; unfold zz_si; rw [if_pos (by decide +kernel)]
  · rw [zz_s13 h]; unfold zz_si; rw [if_neg (by decide +kernel), if_neg (by decide +kernel), if_neg (by decide +kernel)]
  · rw [zz_s14 h]; unfold zz_si; rw [if_neg (by decide +kernel), if_neg (by decide +kernel), if_neg (by decide +kernel)]
  · rw [zz_s15 h]; unfold zz_si; rw [if_neg (by decide +kernel), if_pos (by decide +kernel)]
  · rw [zz_s16 h]; unfold zz_si; rw [if_neg (by decide +kernel), if_neg (by decide +kernel), if_pos (by decide +kernel)]
theorem zz_s20 {n : Nat} (h : 0 ≤ kd.toInt ∧ kd.toInt ≤ 6) : zz_U (n + 7) kd m k 2 0 x 0 = ((zz_np kd.toInt m k x).1, (zz_np kd.toInt m k x).2, 0) := by
  rw [zz_U_D (n1 := n + 6) (b := 12) rfl (by decide +kernel) rfl (by decide +kernel) (by decide +kernel), zz_DB_12, zz_ssi h, (show (12 : Int32).toInt = 12 by decide +kernel)]; rfl
theorem zz_s21 {n : Nat} (h : 0 ≤ kd.toInt ∧ kd.toInt ≤ 6) : zz_U (n + 7) kd m k 2 1 x 0 = ((zz_np kd.toInt m k x).1, (zz_np kd.toInt m k x).2, 0) := by
  rw [zz_U_D (n1 := n + 6) (b := 12) rfl (by decide +kernel) rfl (by decide +kernel) (by decide +kernel), zz_DB_12, zz_ssi h, (show (12 : Int32).toInt = 12 by decide +kernel)]; rfl
theorem zz_s22 {n : Nat} (h : 0 ≤ kd.toInt ∧ kd.toInt ≤ 6) : zz_U (n + 7) kd m k 2 2 x 0 = ((zz_np kd.toInt m k x).1, (zz_np kd.toInt m k x).2, 0) := by
  rw [zz_U_D (n1 := n + 6) (b := 12) rfl (by decide +kernel) rfl (by decide +kernel) (by decide +kernel), zz_DB_12, zz_ssi h, (show (12 : Int32).toInt = 12 by decide +kernel)]; rfl
theorem zz_s25 {n : Nat} (h : 0 ≤ kd.toInt ∧ kd.toInt ≤ 6) : zz_U (n + 7) kd m k 2 5 x 0 = ((zz_np kd.toInt m k x).1, (zz_np kd.toInt m k x).2, 0) := by
  rw [zz_U_D (n1 := n + 6) (b := 12) rfl (by decide +kernel) rfl (by decide +kernel) (by decide +kernel), zz_DB_12, zz_ssi h, (show (12 : Int32).toInt = 12 by decide +kernel)]; rfl
theorem zz_s26 {n : Nat} (h : 0 ≤ kd.toInt ∧ kd.toInt ≤ 6) : zz_U (n + 7) kd m k 2 6 x 0 = ((zz_np kd.toInt m k x).1, (zz_np kd.toInt m k x).2, 0) := by
  rw [zz_U_D (n1 := n + 6) (b := 12) rfl (by decide +kernel) rfl (by decide +kernel) (by decide +kernel), zz_DB_12, zz_ssi h, (show (12 : Int32).toInt = 12 by decide +kernel)]; rfl
theorem zz_s23 {n : Nat} (h : 0 ≤ kd.toInt ∧ kd.toInt ≤ 6) : zz_U (n + 8) kd m k 2 3 x 0 = ((zz_np kd.toInt m k (x / 2)).1, 40 :: (zz_np kd.toInt m k (x / 2)).2, 0) := by
  rw [zz_U_O (n1 := n + 7) (b := 40) (ab := 0) rfl (by decide +kernel) rfl (by decide +kernel) (by decide +kernel) (by decide +kernel), zz_OB_40, zz_s20 h, (show (40 : Int32).toInt = 40 by decide +kernel)]
theorem zz_s24 {n : Nat} (h : 0 ≤ kd.toInt ∧ kd.toInt ≤ 6) : zz_U (n + 8) kd m k 2 4 x 0 = ((zz_np kd.toInt m k x).1 ^^^ k, 51 :: (zz_np kd.toInt m k x).2, 0) := by
  rw [zz_U_O (n1 := n + 7) (b := 51) (ab := 1) rfl (by decide +kernel) rfl (by decide +kernel) (by decide +kernel) (by decide +kernel), zz_OB_51, zz_s21 h, (show (51 : Int32).toInt = 51 by decide +kernel)]
theorem zz_ssn {n : Nat} (h : 0 ≤ kd.toInt ∧ kd.toInt ≤ 6) : zz_U (n + 8) kd m k 2 kd x 0 = ((zz_sn kd.toInt m k x).1, (zz_sn kd.toInt m k x).2, 0) := by
  rcases zz_kd7 h with rfl | rfl | rfl | rfl | rfl | rfl | rfl
  · rw [zz_s20 h]; unfold zz_sn; rw [if_neg (by decide +kernel), if_neg (by decide +kernel)]
  · rw [zz_s21 h]; unfold zz_sn; rw [if_neg (by decide +kernel), if_neg (by decide +kernel)]
  · rw [zz_s22 h]; unfold zz_sn; rw [if_neg (by decide +kernel), if_neg (by decide +kernel)]
  · rw [zz_s23 h]; unfold zz_sn; rw [if_pos (by decide +kernel)]
  · rw [zz_s24 h]; unfold zz_sn; rw [if_neg (by decide +kernel), if_pos (by decide +kernel)]
  · rw [zz_s25 h]; unfold zz_sn; rw [if_neg (by decide +kernel), if_neg (by decide +kernel)]
  · rw [zz_s26 h]; unfold zz_sn; rw [if_neg (by decide +kernel), if_neg (by decide +kernel)]
theorem zz_s30 {n : Nat} : zz_U (n + 1) kd m k 3 0 x 0 = zz_pp m k x := by
  rw [zz_U_D (n1 := n) (b := 13) rfl (by decide +kernel) rfl (by decide +kernel) (by decide +kernel), zz_DB_13, (show (13 : Int32).toInt = 13 by decide +kernel)]; unfold zz_pp; split <;> rfl
theorem zz_s32 {n : Nat} : zz_U (n + 1) kd m k 3 2 x 0 = zz_pp m k x := by
  rw [zz_U_D (n1 := n) (b := 13) rfl (by decide +kernel) rfl (by decide +kernel) (by decide +kernel), zz_DB_13, (show (13 : Int32).toInt = 13 by decide +kernel)]; unfold zz_pp; split <;> rfl
theorem zz_s33 {n : Nat} : zz_U (n + 1) kd m k 3 3 x 0 = zz_pp m k x := by
  rw [zz_U_D (n1 := n) (b := 13) rfl (by decide +kernel) rfl (by decide +kernel) (by decide +kernel), zz_DB_13, (show (13 : Int32).toInt = 13 by decide +kernel)]; unfold zz_pp; split <;> rfl
theorem zz_s35 {n : Nat} : zz_U (n + 1) kd m k 3 5 x 0 = zz_pp m k x := by
  rw [zz_U_D (n1 := n) (b := 13) rfl (by decide +kernel) rfl (by decide +kernel) (by decide +kernel), zz_DB_13, (show (13 : Int32).toInt = 13 by decide +kernel)]; unfold zz_pp; split <;> rfl
theorem zz_s36 {n : Nat} : zz_U (n + 1) kd m k 3 6 x 0 = zz_pp m k x := by
  rw [zz_U_D (n1 := n) (b := 13) rfl (by decide +kernel) rfl (by decide +kernel) (by decide +kernel), zz_DB_13, (show (13 : Int32).toInt = 13 by decide +kernel)]; unfold zz_pp; split <;> rfl
theorem zz_s31 {n : Nat} (h : 0 ≤ kd.toInt ∧ kd.toInt ≤ 6) : zz_U (n + 7) kd m k 3 1 x 0 = (if (m - k).toInt = 0 then (0, [21, 13], 1) else (x / (m - k) + (zz_si kd.toInt m k 1).1, 21 :: 13 :: (zz_si kd.toInt m k 1).2, 0)) := by
  rw [zz_U_O (n1 := n + 6) (b := 21) (ab := 0) rfl (by decide +kernel) rfl (by decide +kernel) (by decide +kernel) (by decide +kernel), zz_OB_21, zz_s30, (show (21 : Int32).toInt = 21 by decide +kernel)]
  simp only [zz_pp]
  by_cases q : (m - k).toInt = 0
  · rw [if_pos q, if_pos q, zz_U_stop (Or.inr (Or.inl (show (1 : Int) ≠ 0 by decide)))]
    rfl
  · rw [if_neg q, if_neg q, zz_ssi h]
    rfl
theorem zz_s34 {n : Nat} (h : 0 ≤ kd.toInt ∧ kd.toInt ≤ 6) : zz_U (n + 7) kd m k 3 4 x 0 = (if (m - k).toInt = 0 then (0, [21, 13], 1) else (x / (m - k) + (zz_si kd.toInt m k 1).1, 21 :: 13 :: (zz_si kd.toInt m k 1).2, 0)) := by
  rw [zz_U_O (n1 := n + 6) (b := 21) (ab := 0) rfl (by decide +kernel) rfl (by decide +kernel) (by decide +kernel) (by decide +kernel), zz_OB_21, zz_s30, (show (21 : Int32).toInt = 21 by decide +kernel)]
  simp only [zz_pp]
  by_cases q : (m - k).toInt = 0
  · rw [if_pos q, if_pos q, zz_U_stop (Or.inr (Or.inl (show (1 : Int) ≠ 0 by decide)))]
    rfl
  · rw [if_neg q, if_neg q, zz_ssi h]
    rfl
theorem zz_spa {n : Nat} (h : 0 ≤ kd.toInt ∧ kd.toInt ≤ 6) : zz_U (n + 8) kd m k 3 kd x 0 = zz_pa kd.toInt m k x := by
  rcases zz_kd7 h with rfl | rfl | rfl | rfl | rfl | rfl | rfl
  · rw [zz_s30]; unfold zz_pa; rw [if_neg (by decide +kernel)]
  · rw [zz_s31 h]; exact (if_pos (show Int32.toInt 1 = 1 ∨ Int32.toInt 1 = 4 by decide +kernel)).symm
  · rw [zz_s32]; unfold zz_pa; rw [if_neg (by decide +kernel)]
  · rw [zz_s33]; unfold zz_pa; rw [if_neg (by decide +kernel)]
  · rw [zz_s34 h]; exact (if_pos (show Int32.toInt 4 = 1 ∨ Int32.toInt 4 = 4 by decide +kernel)).symm
  · rw [zz_s35]; unfold zz_pa; rw [if_neg (by decide +kernel)]
  · rw [zz_s36]; unfold zz_pa; rw [if_neg (by decide +kernel)]
theorem zz_U_V {vo : Int32} (h : 0 ≤ kd.toInt ∧ kd.toInt ≤ 6) (hv : 0 ≤ vo.toInt ∧ vo.toInt ≤ 3) : zz_U 20 kd m k vo kd x 0 = zz_V vo.toInt kd.toInt m k x := by
  have e : vo = 0 ∨ vo = 1 ∨ vo = 2 ∨ vo = 3 := by
    rcases (show vo.toInt = 0 ∨ vo.toInt = 1 ∨ vo.toInt = 2 ∨ vo.toInt = 3 by omega) with q | q | q | q
    · exact Or.inl (zz_ext (by rw [q]; decide))
    · exact Or.inr (Or.inl (zz_ext (by rw [q]; decide)))
    · exact Or.inr (Or.inr (Or.inl (zz_ext (by rw [q]; decide))))
    · exact Or.inr (Or.inr (Or.inr (zz_ext (by rw [q]; decide))))
  simp only [zz_V]
  rcases e with rfl | rfl | rfl | rfl
  · rw [zz_smu (n := 17) h, if_pos (by decide +kernel)]
  · rw [zz_ssi (n := 14) h, if_neg (by decide +kernel), if_pos (by decide +kernel)]
  · rw [zz_ssn (n := 12) h, if_neg (by decide +kernel), if_neg (by decide +kernel), if_pos (by decide +kernel)]
  · rw [zz_spa (n := 12) h, if_neg (by decide +kernel), if_neg (by decide +kernel), if_neg (by decide +kernel)]
end VOJ
/-- what speaks() leaves; what voice() answers -/
def zz_vs (σ σ1 : zz_S) (h0 : Nat) (r : Int32) (q : zz_Q) : Prop := r = q.1 ∧ zz_TV σ1 (h0 + 1) = zz_ap q.2.1 (zz_TV σ (h0 + 1)) 0 ∧ (σ1 h0 1).toInt = zz_al q.2.1 0 ∧ (σ1 h0 2).toInt = q.2.2
theorem zz_vs.of {σ σ6 σ7 : zz_S} {h0 : Nat} {r : Int32} {q : zz_Q} (u0 : (σ6 h0 1).toInt = 0) (hT : zz_TV σ6 (h0 + 1) = zz_TV σ (h0 + 1)) (h : zz_vp σ6 σ7 h0 r q) : zz_vs σ σ7 h0 r q := by
  obtain ⟨h1, h2, h3⟩ := h
  obtain ⟨h4, h5⟩ := h2
  rw [u0, hT] at h4
  rw [u0] at h5
  exact ⟨h1, h4, h5, h3⟩
def zz_v8 (T T1 : Nat → Int) (n1 r : Int) (q : zz_Q) : Prop := (q.2.2 = 0 → r = q.1.toInt) ∧ (q.2.2 ≠ 0 → r = -1000000006) ∧ T1 = zz_ap q.2.1 T 0 ∧ n1 = zz_al q.2.1 0
theorem zz_v8.uniq {T T1 T2 : Nat → Int} {n1 n2 r1 r2 : Int} {q : zz_Q} (a : zz_v8 T T1 n1 r1 q) (b : zz_v8 T T2 n2 r2 q) : T1 = T2 ∧ n1 = n2 ∧ r1 = r2 := by
  obtain ⟨a1, a2, a3, a4⟩ := a
  obtain ⟨b1, b2, b3, b4⟩ := b
  refine ⟨a3.trans b3.symm, a4.trans b4.symm, ?_⟩
  by_cases h : q.2.2 = 0
  · exact (a1 h).trans (b1 h).symm
  · exact (a2 h).trans (b2 h).symm
theorem zz_vs.v8a {σ σ1 : zz_S} {h0 : Nat} {r : Int32} {q : zz_Q} (h : zz_vs σ σ1 h0 r q) (hp : (σ1 h0 2).toInt = 0) : zz_v8 (zz_TV σ (h0 + 1)) (zz_TV σ1 (h0 + 1)) (σ1 h0 1).toInt r.toInt q := by
  obtain ⟨h1, h2, h3, h4⟩ := h
  exact ⟨fun _ => by rw [h1], fun z => absurd (h4.symm.trans hp) z, h2, h3⟩
theorem zz_vs.v8b {σ σ1 σ2 : zz_S} {h0 : Nat} {r : Int32} {q : zz_Q} {r2 : Int} (h : zz_vs σ σ1 h0 r q) (hp : ¬ (σ1 h0 2).toInt = 0) (e : zz_TV σ2 (h0 + 1) = zz_TV σ1 (h0 + 1)) (e2 : (σ2 h0 1).toInt = (σ1 h0 1).toInt) (hr : r2 = -1000000006) : zz_v8 (zz_TV σ (h0 + 1)) (zz_TV σ2 (h0 + 1)) (σ2 h0 1).toInt r2 q := by
  obtain ⟨h1, h2, h3, h4⟩ := h
  exact ⟨fun z => absurd (h4.trans z) hp, fun _ => hr, e.trans h2, e2.trans h3⟩
theorem zz_vm8 {σ σ6 σ7 σ8 : zz_S} {h0 : Nat} {r2 : Int} {q : zz_Q} (u0 : (σ6 h0 18).toInt = 0) (hT : zz_TV σ6 (h0 + 12) = zz_TV σ (h0 + 12)) (h : zz_tg σ6 σ7 (h0 + 12) h0 18 q.2.1) (e : zz_TV σ8 (h0 + 12) = zz_TV σ7 (h0 + 12)) (e2 : (σ8 h0 18).toInt = (σ7 h0 18).toInt) (ha : q.2.2 = 0 → r2 = q.1.toInt) (hb : q.2.2 ≠ 0 → r2 = -1000000006) : zz_v8 (zz_TV σ (h0 + 12)) (zz_TV σ8 (h0 + 12)) (σ8 h0 18).toInt r2 q := by
  obtain ⟨h4, h5⟩ := h
  rw [u0, hT] at h4
  rw [u0] at h5
  exact ⟨ha, hb, e.trans h4, e2.trans h5⟩
/-- at depth 0, not to be unfolded -/
theorem zz_ex20 : ∃ f : Int32 → Int32 → Int32 → Int32 → Int32 → Int32 → Int → zz_Q, f = zz_U 20 := ⟨_, rfl⟩
noncomputable def zz_U20 : Int32 → Int32 → Int32 → Int32 → Int32 → Int32 → Int → zz_Q := Classical.choose zz_ex20
theorem zz_U20_eq : zz_U20 = zz_U 20 := Classical.choose_spec zz_ex20
theorem zz_U20_V {kd m k x vo : Int32} (h : 0 ≤ kd.toInt ∧ kd.toInt ≤ 6) (hv : 0 ≤ vo.toInt ∧ vo.toInt ≤ 3) : zz_U20 kd m k vo kd x (0 : Int32).toInt = zz_V vo.toInt kd.toInt m k x := by
  rw [zz_U20_eq, zk_0]
  exact zz_U_V h hv
