/-! ===== the world by addresses: what an address is never changes behind the constructors (E), its ints are σ ===== -/
abbrev zz_K : Type := (Nat × List (Option Value)) ⊕ (Nat × Nat × Option (Nat × Nat))
abbrev zz_S : Type := Nat → Nat → Int32
abbrev zz_E : Type := va_G × (Nat → ClassId) × (Nat → Option zz_K) × (Nat → Nat)
def zz_fs : List (Option Value) → Nat → (Nat → Int32) → List Value
  | [], _, _ => []
  | none :: t, k, f => .int (f k) :: zz_fs t (k + 1) f
  | some v :: t, k, f => v :: zz_fs t (k + 1) f
theorem zz_fs_at (f : Nat → Int32) : ∀ (t : List (Option Value)) (i k : Nat), (zz_fs t i f)[k]? = (t[k]?).map (fun o => o.getD (.int (f (i + k))))
  | [], i, k => by simp [zz_fs]
  | none :: t, i, 0 => by simp [zz_fs]
  | some v :: t, i, 0 => by simp [zz_fs]
  | none :: t, i, k + 1 => by
    rw [zz_fs, List.getElem?_cons_succ, List.getElem?_cons_succ, zz_fs_at f t (i + 1) k, Nat.add_assoc, Nat.add_comm 1 k]
  | some v :: t, i, k + 1 => by
    rw [zz_fs, List.getElem?_cons_succ, List.getElem?_cons_succ, zz_fs_at f t (i + 1) k, Nat.add_assoc, Nat.add_comm 1 k]
theorem zz_fs_len (f : Nat → Int32) : ∀ (t : List (Option Value)) (i : Nat), (zz_fs t i f).length = t.length
  | [], i => rfl
  | none :: t, i => by simp [zz_fs, zz_fs_len f t (i + 1)]
  | some v :: t, i => by simp [zz_fs, zz_fs_len f t (i + 1)]
theorem zz_fs_set (f : Nat → Int32) (t : List (Option Value)) (k : Nat) (v : Int32) (h : t[k]? = some none) : (zz_fs t 0 f).set k (.int v) = zz_fs t 0 (upd f k v) := by
  apply List.ext_getElem?
  intro j
  by_cases hj : j = k
  · subst hj
    have hl : j < (zz_fs t 0 f).length := by rw [zz_fs_len]; exact (List.getElem?_eq_some_iff.mp h).1
    rw [List.getElem?_set_self hl, zz_fs_at, h]
    simp [upd]
  · rw [List.getElem?_set_ne (Ne.symm hj), zz_fs_at, zz_fs_at]
    simp [upd, hj]
theorem zz_fs_setR (f : Nat → Int32) : ∀ (t : List (Option Value)) (i k : Nat) (v : Value), (zz_fs t i f).set k v = zz_fs (t.set k (some v)) i f
  | [], i, k, v => by simp [zz_fs]
  | none :: t, i, 0, v => by simp [zz_fs]
  | some w :: t, i, 0, v => by simp [zz_fs]
  | none :: t, i, k + 1, v => by simp [zz_fs, zz_fs_setR f t (i + 1) k v]
  | some w :: t, i, k + 1, v => by simp [zz_fs, zz_fs_setR f t (i + 1) k v]
def zz_ce (cy : Nat → ClassId) (kd : zz_K) (f : Nat → Int32) : va_E := match kd with
  | .inl o => .inr (o.1, zz_fs o.2 0 f)
  | .inr (ty, n, none) => .inl (cy ty, n, .inl f)
  | .inr (ty, n, some g) => .inl (cy ty, n, .inr (.inr (.inr (.inr (fun j => some (g.1 + g.2 * j))))))
def zz_ty (cy : Nat → ClassId) : List (ClassId × FieldType) := [(cy 0, .int), (cy 1, .byte), (cy 2, .object RX0), (cy 3, .object RX1), (cy 4, .object RX6), (cy 5, .object RX3)]
def zz_P (E : zz_E) (σ : zz_S) (H : Heap) : Prop := ∀ (a : Nat) (kd : zz_K), E.2.2.1 a = some kd → va_at E.1 vwCl (a, zz_ce E.2.1 kd (σ a)) H
def zz_A (E : zz_E) : Nat → Prop := fun q => E.2.2.1 q ≠ none
def zz_u (σ : zz_S) (a k : Nat) (v : Int32) : zz_S := fun b j => if b = a ∧ j = k then v else σ b j
theorem zz_us (σ : zz_S) (a k : Nat) (v : Int32) : zz_u σ a k v a k = v := by simp [zz_u]
theorem zz_un {σ : zz_S} {a k b j : Nat} {v : Int32} (h : ¬ (b = a ∧ j = k)) : zz_u σ a k v b j = σ b j := by simp [zz_u, h]
theorem zz_ua (σ : zz_S) (a k : Nat) (v : Int32) : zz_u σ a k v a = upd (σ a) k v := by
  funext j
  simp [zz_u, upd]
theorem zz_ub {σ : zz_S} {a k b : Nat} {v : Int32} (h : b ≠ a) : zz_u σ a k v b = σ b := by
  funext j
  simp [zz_u, h]
def zz_cp (σ : zz_S) (a0 a sp dp n : Nat) : zz_S := fun b j => if b = a then va_cpy (σ a0) (σ a) sp dp n j else σ b j
theorem zz_cpa (σ : zz_S) (a0 a sp dp n : Nat) : zz_cp σ a0 a sp dp n a = va_cpy (σ a0) (σ a) sp dp n := by
  funext j
  simp [zz_cp]
theorem zz_cpb {σ : zz_S} {a0 a sp dp n b : Nat} (h : b ≠ a) : zz_cp σ a0 a sp dp n b = σ b := by
  funext j
  simp [zz_cp, h]
/-- the tables of the class that nobody writes -/
def zz_vA : Nat → Int32 := fun j => ([-1, 0, 0, 0, 1, 2, 0] : List Int32).getD j 0
def zz_tA : Nat → Value := fun j => .int (zz_vA j)
def zz_vB : Nat → Int32 := fun j => ([10, 11, 12, 13, 20, 0, 0, 21, 0, 30, 0, 0, 0, 0, 40, 0, 50, 0, 51, 0, 0, 60, 0, 0, 70, 71, 0, 0] : List Int32).getD j 0
def zz_tB : Nat → Value := fun j => .int (zz_vB j)
def zz_vN : Nat → Int32 := fun j => ([103, 104, 110, 107, 109, 100] : List Int32).getD j 0
def zz_tN : Nat → Value := fun j => .int (zz_vN j)
def zz_St (E : zz_E) (U : State) (H : Heap) : Prop := (va_Z RX8 "ABOVE" "[I" (.ref (E.2.2.2 0)) (zz_A E) U H ∧ va_T .int (E.2.2.2 0) 7 zz_tA (zz_A E) U H) ∧ (va_Z RX8 "BODY_OF" "[I" (.ref (E.2.2.2 1)) (zz_A E) U H ∧ va_T .int (E.2.2.2 1) 28 zz_tB (zz_A E) U H) ∧ (va_Z RX8 "NAMES" "[C" (.ref (E.2.2.2 2)) (zz_A E) U H ∧ va_T .char (E.2.2.2 2) 6 zz_tN (zz_A E) U H)
theorem zz_St.moved {E : zz_E} {u U : State} {H : Heap} (hvm : u.vm.Alike U.vm) (h : zz_St E u H) : zz_St E U H := ⟨⟨va_Z.moved hvm h.1.1, va_T.moved hvm h.1.2⟩, ⟨va_Z.moved hvm h.2.1.1, va_T.moved hvm h.2.1.2⟩, ⟨va_Z.moved hvm h.2.2.1, va_T.moved hvm h.2.2.2⟩⟩
theorem zz_St.kept {E : zz_E} {U : State} {H H1 : Heap} (h : zz_St E U H) (hq : ∀ a : Nat, a < H.size → ¬ zz_A E a → H1[a]? = H[a]?) : zz_St E U H1 := ⟨⟨h.1.1.kept hq, h.1.2.kept hq⟩, ⟨h.2.1.1.kept hq, h.2.1.2.kept hq⟩, ⟨h.2.2.1.kept hq, h.2.2.2.kept hq⟩⟩
/-- links of nest mates -/
def zz_Nm (U : State) : Prop := va_Nw (.methodLinkNest RX0 30 yX8_above "NoonLaw") U ∧ va_Nw (.methodLinkNest RX4 42 yX8_isMatter "NoonLaw") U ∧ va_Nw (.methodLinkNest RX7 86 yX8_within "NoonLaw") U ∧ va_Nw (.methodLinkNest RX5 44 yX8_above "NoonLaw") U ∧ va_Nw (.fieldLinkNest RX7 82 "NoonLaw" "NAMES" "[C" "NoonLaw") U ∧ va_Nw (.fieldLinkNest RX5 59 "NoonLaw" "BODY_OF" "[I" "NoonLaw") U
theorem zz_Nm.to {s U : State} (h : zz_Nm s) (hW : s.WarmedH U.vm) : zz_Nm U := ⟨va_Nw.warmM hW h.1, va_Nw.warmM hW h.2.1, va_Nw.warmM hW h.2.2.1, va_Nw.warmM hW h.2.2.2.1, va_Nw.warmF hW h.2.2.2.2.1, va_Nw.warmF hW h.2.2.2.2.2⟩
theorem zz_Nm.same {u U : State} (h : zz_Nm u) (e : u.vm = U.vm) : zz_Nm U := ⟨va_Nw.same rfl e h.1, va_Nw.same rfl e h.2.1, va_Nw.same rfl e h.2.2.1, va_Nw.same rfl e h.2.2.2.1, va_Nw.same rfl e h.2.2.2.2.1, va_Nw.same rfl e h.2.2.2.2.2⟩
def zz_Kn (E : zz_E) (U : State) : Prop := va_K E.1 vwCl (zz_ty E.2.1) U ∧ zz_St E U U.heap ∧ zz_Nm U
def zz_B (E : zz_E) (σ : zz_S) (U : State) : Prop := zz_P E σ U.heap ∧ zz_Kn E U
theorem zz_Kn.to {E : zz_E} {s U : State} {H : Heap} {locs : List Loc} (h : zz_Kn E s) (hS : va_S (zz_A E) s.heap H locs) (hU : U.heap = H) (hW : s.WarmedH U.vm) : zz_Kn E U := by
  refine ⟨va_K.moved hW.alike h.1, ?_, h.2.2.to hW⟩
  rw [hU]
  exact zz_St.moved hW.alike (h.2.1.kept hS.2.1)
theorem zz_blind (E : zz_E) (σ : zz_S) (av : List Value) : FrameBlind (va_Pc av (zz_B E σ)) := fun a U g mk q => by
  obtain ⟨q0, qP, qK, qS, qN⟩ := q
  exact ⟨q0, qP, va_K.moved (u := U) (U := U.calling g mk a) (Vm.Alike.refl U.vm) qK, zz_St.moved (u := U) (U := U.calling g mk a) (Vm.Alike.refl U.vm) qS, qN.same rfl⟩
/-- ints -/
theorem zz_addT {v x y : Int32} (e : v = x + y) (h1 : -2147483648 ≤ x.toInt + y.toInt) (h2 : x.toInt + y.toInt ≤ 2147483647) : v.toInt = x.toInt + y.toInt := by
  subst e
  rw [Int32.toInt_add]
  exact Int.bmod_eq_of_le (by omega) (by omega)
theorem zz_subT {v x y : Int32} (e : v = x - y) (h1 : -2147483648 ≤ x.toInt - y.toInt) (h2 : x.toInt - y.toInt ≤ 2147483647) : v.toInt = x.toInt - y.toInt := by
  subst e
  rw [Int32.toInt_sub]
  exact Int.bmod_eq_of_le (by omega) (by omega)
theorem zz_mulT {v x y : Int32} (c : Int) (e : v = x * y) (hc : y.toInt = c) (h1 : -2147483648 ≤ x.toInt * c) (h2 : x.toInt * c ≤ 2147483647) : v.toInt = x.toInt * c := by
  subst e
  rw [Int32.toInt_mul, hc]
  exact Int.bmod_eq_of_le (by omega) (by omega)
theorem zz_mulL {v x y : Int32} (c : Int) (e : v = x * y) (hc : x.toInt = c) (h1 : -2147483648 ≤ c * y.toInt) (h2 : c * y.toInt ≤ 2147483647) : v.toInt = c * y.toInt := by
  subst e
  rw [Int32.toInt_mul, hc]
  exact Int.bmod_eq_of_le (by omega) (by omega)
theorem zz_rng (x : Int32) : -2147483648 ≤ x.toInt ∧ x.toInt ≤ 2147483647 := ⟨by have := Int32.le_toInt x; omega, by have := Int32.toInt_lt x; omega⟩
theorem zz_ext {x y : Int32} (h : x.toInt = y.toInt) : x = y := Int32.toInt_inj.mp h
theorem zz_ix {i : Int32} {n : Nat} (h1 : 0 ≤ i.toInt) (h2 : i.toInt < n) : ∃ j : Nat, i.toNatClampNeg = j ∧ (j : Int) = i.toInt ∧ j < n := by
  refine ⟨i.toNatClampNeg, rfl, ?_, ?_⟩
  · show ((i.toInt.toNat : Nat) : Int) = i.toInt
    omega
  · show i.toInt.toNat < n
    omega
section ZZ
variable {p : Program} {l : Launch} {e : Env} {R : Room} {s : State} {m : MethodId} {args : Array Value} {below : List Frame} {meth : Method} {c : Code} {H : Heap} {locs : List Loc} {cells slots : Nat} {Q : State → Prop}
variable {cc : ByteArray} {pc : Nat} {ls : Array Slot} {rest : List Value} {E : zz_E} {σ : zz_S} {a : Nat}
/-- a method, from its entry -/
theorem zz_met {y : MethodName} {ws ws' : List Cond} {rm : Room} {maxL : Nat} {ret : Option FieldType} {av : List Value} {Qc : Array Value → State → Outcome → State → Prop} (hy : plainName y.cls = true) (hw : ws = Cond.code y cc maxL ret :: ws') (hn : (lg_sl av).length ≤ maxL)
    (body : ∀ (p : Program) (e : Env) (s : State) (m : MethodId) (args : Array Value) (below : List Frame) (meth : Method) (c : Code) (ls : Array Slot), p.tables.exec = Jvm.exec → c.code = cc → meth.sig.returnType = ret → (∀ w ∈ ws, w.before args s = true) → s.vm.findClass y.cls = some m.cls → meth.locks = false → c.maxLocals = maxL → zz_Kn E s → zz_P E σ s.heap → va_S (zz_A E) s.heap s.heap [] → lv_has ls maxL (lv_args 0 av) →
      W p l e (headSpec ws rm).room s m args below meth c s.heap [] 0 0 (MQ below Qc args s 0 0 (zz_A E)) (F0 m 0 ls [])) : Met l y ws rm (va_Pc av (zz_B E σ)) Qc 0 0 (zz_A E) := by
  refine Met.ofW (cc := cc) (maxL := maxL) (ret := ret) hy hw ?_
  intro p e s m args below meth c s₁ B hml hv
  obtain ⟨rfl, hP, hK⟩ := hv
  have hl := lv_entry av (n := maxL) hn
  rw [lg_entry_eq]
  exact body p e s m _ below meth c _ B.exec B.bytes B.returns (atoms_spec (ws := ws) B.pre) (findClass_of_methodNamed B.named) B.notSynchronized hml hK hP va_S.rf hl
theorem zz_one {a : Nat} {kd : zz_K} (hP : zz_P E σ H) (hg : E.2.2.1 a = some kd) : va_P E.1 vwCl [(a, zz_ce E.2.1 kd (σ a))] H := fun k q hk => by
  match k, hk with
  | 0, hk => cases hk; exact hP a kd hg
  | k + 1, hk => simp at hk
theorem zz_geti (hexec : p.tables.exec = Jvm.exec) (hb : c.code = cc) {own ref C : String} {T : u_T} {N ci index : Nat} {Ts : List Cond} (hts : ∀ w ∈ Ts, w.before args s = true) (hin : ∀ w ∈ u_ws C T N, w ∈ Ts) (hown : s.vm.findClass own = some m.cls) (hK : zz_Kn E s) (hP : zz_P E σ H) {tpl : List (Option Value)} (hg : E.2.2.1 a = some (.inl (ci, tpl))) (hc : vwCl[ci]? = some (C, T, N)) (k : Nat) (hk : k < N) (hlink : (Cond.fieldLink own index ref (T k).2.1 (T k).2.2.1).before args s = true) (href : (T k).1 = ref) (ht : tpl[k]? = some none) {v : Int32} (hv : σ a k = v) (hdg : decode cc pc = .ok (.getfield index, 3))
    (kk : W p l e R s m args below meth c H locs cells slots Q (F0 m (pc + 3) ls (.int v :: rest))) : W p l e R s m args below meth c H locs cells slots Q (F0 m pc ls (.ref a :: rest)) :=
  va_get hexec hb hts hin hown hK.1 (zz_one hP hg) 0 rfl hc k hk hlink (fun x h => by rw [← href]; exact h) (v := .int v) (by rw [zz_fs_at, ht, ← hv]; simp) hdg kk
theorem zz_getr (hexec : p.tables.exec = Jvm.exec) (hb : c.code = cc) {own ref C : String} {T : u_T} {N ci index : Nat} {Ts : List Cond} (hts : ∀ w ∈ Ts, w.before args s = true) (hin : ∀ w ∈ u_ws C T N, w ∈ Ts) (hown : s.vm.findClass own = some m.cls) (hK : zz_Kn E s) (hP : zz_P E σ H) {tpl : List (Option Value)} (hg : E.2.2.1 a = some (.inl (ci, tpl))) (hc : vwCl[ci]? = some (C, T, N)) (k : Nat) (hk : k < N) (hlink : (Cond.fieldLink own index ref (T k).2.1 (T k).2.2.1).before args s = true) (href : (T k).1 = ref) {v : Value} (ht : tpl[k]? = some (some v)) (hdg : decode cc pc = .ok (.getfield index, 3))
    (kk : W p l e R s m args below meth c H locs cells slots Q (F0 m (pc + 3) ls (v :: rest))) : W p l e R s m args below meth c H locs cells slots Q (F0 m pc ls (.ref a :: rest)) :=
  va_get hexec hb hts hin hown hK.1 (zz_one hP hg) 0 rfl hc k hk hlink (fun x h => by rw [← href]; exact h) (v := v) (by rw [zz_fs_at, ht]; simp) hdg kk
theorem zz_P.put {kd : zz_K} {k : Nat} {v : Int32} {H1 : Heap} (h : zz_P E σ H) (hg : E.2.2.1 a = some kd) (he : va_at E.1 vwCl (a, zz_ce E.2.1 kd (upd (σ a) k v)) H1) (oq : ∀ q : Nat, q ≠ a → H1[q]? = H[q]?) : zz_P E (zz_u σ a k v) H1 := by
  intro b kb hb
  by_cases hba : b = a
  · subst hba
    cases hg.symm.trans hb
    rw [zz_ua]
    exact he
  · rw [zz_ub hba]
    exact (h b kb hb).kept (oq b hba)
theorem zz_puti (hexec : p.tables.exec = Jvm.exec) (hb : c.code = cc) {own ref C : String} {T : u_T} {N ci index : Nat} {Ts : List Cond} (hts : ∀ w ∈ Ts, w.before args s = true) (hin : ∀ w ∈ u_ws C T N, w ∈ Ts) (ty0 : Nat → FieldType) (hty : ∀ k, k < N → parseFieldDescriptor (T k).2.2.1 = some (ty0 k)) (hnm : ∀ a, a < N → ∀ b, b < N → a ≠ b → (T a).2.1 ≠ (T b).2.1) (hown : s.vm.findClass own = some m.cls) (hK : zz_Kn E s) (hP : zz_P E σ H) (hS0 : va_S (zz_A E) s.heap H locs) {tpl : List (Option Value)} (hg : E.2.2.1 a = some (.inl (ci, tpl))) (hc : vwCl[ci]? = some (C, T, N)) (k : Nat) (hk : k < N) (hlink : (Cond.fieldLink own index ref (T k).2.1 (T k).2.2.1).before args s = true) (href : (T k).1 = ref) (hfin : (T k).2.2.2 = false) {v : Int32} {ty : FieldType} (hd : parseFieldDescriptor (T k).2.2.1 = some ty) (hnr : narrow ty (.int v) = .int v) (hfit : fits ty (.int v) = true) (ht : tpl[k]? = some none)
    (hdg : decode cc pc = .ok (.putfield index, 3)) (kk : ∀ (σ1 : zz_S) (H1 : Heap) (locs1 : List Loc), σ1 = zz_u σ a k v → zz_P E σ1 H1 → va_S (zz_A E) s.heap H1 locs1 → W p l e R s m args below meth c H1 locs1 cells slots Q (F0 m (pc + 3) ls rest)) : W p l e R s m args below meth c H locs cells slots Q (F0 m pc ls (.int v :: .ref a :: rest)) := by
  have hap := va_apart (own := own) hts hin ty0 hty hnm hK.1 hc
  obtain ⟨r, h1, cell, q1, q2, q3, q4⟩ := hP a _ hg
  have hr : r = (C, T, N) := Option.some.inj (h1.symm.trans hc)
  subst hr
  obtain ⟨hS, hfc, kC, hkC, hkind⟩ := hK.1.1 ci _ hc
  obtain ⟨cf, kf, fi, f, hi, hsl⟩ := hS k hk
  have hlay := hts _ (hin _ (u_in_lay hk))
  unfold u_lay at hlay
  rw [if_neg (by rw [hfin]; decide)] at hlay
  have hst := (u_facts hfc hkC (u_lays hts hin hk) hi).1
  have h6 := u_store hfc hkC hkind hlay hi hd hnr hfit
  have hl : k < (zz_fs tpl 0 (σ a)).length := by rw [zz_fs_len]; exact (List.getElem?_eq_some_iff.mp ht).1
  refine W.putK hexec hb (f := f) ⟨hown, hlink, ⟨_, _, _, by rw [← href]; exact hi⟩, hst⟩ (by rw [q2]; exact h6) q1 q3 (by rw [hsl]; exact k2_hasslot (q4 k hk)) rfl rfl hdg fun H' e1 e2 e3 => ?_
  rw [hsl] at e1 ⊢
  have hA : zz_A E a := fun h => by rw [hg] at h; cases h
  refine kk _ H' _ rfl (hP.put (k := k) (v := v) hg ?_ e3) (hS0.put e2 e3 hA)
  refine ⟨_, hc, t_OB.to (V := updV (vp_V (zz_fs tpl 0 (σ a))) k (.int v)) ⟨_, e1, q2, q3, t_set q4 hap hk (.int v)⟩ (fun j _ => ?_)⟩
  show _ = vp_V (zz_fs tpl 0 (upd (σ a) k v)) j
  rw [← zz_fs_set (σ a) tpl k v ht]
  exact vp_updV_set hl (.int v) j
theorem zz_iald (hexec : p.tables.exec = Jvm.exec) (hb : c.code = cc) (hK : zz_Kn E s) (hP : zz_P E σ H) {n : Nat} (hg : E.2.2.1 a = some (.inr (0, n, none))) {i : Int32} (h1 : 0 ≤ i.toInt) (h2 : i.toInt < n) (hdg : decode cc pc = .ok (.iaload, 1))
    (kk : ∀ j : Nat, (j : Int) = i.toInt → j < n → W p l e R s m args below meth c H locs cells slots Q (F0 m (pc + 1) ls (.int (σ a j) :: rest))) : W p l e R s m args below meth c H locs cells slots Q (F0 m pc ls (.int i :: .ref a :: rest)) := by
  obtain ⟨j, e, hj, hn⟩ := zz_ix h1 h2
  exact va_iald hexec hb hK.1 (zz_one hP hg) 0 0 rfl rfl (vp_in_iff.mpr ⟨h1, h2⟩) hdg (by rw [e]; exact kk j hj hn)
theorem zz_bald (hexec : p.tables.exec = Jvm.exec) (hb : c.code = cc) (hK : zz_Kn E s) (hP : zz_P E σ H) {n : Nat} (hg : E.2.2.1 a = some (.inr (1, n, none))) {i : Int32} (h1 : 0 ≤ i.toInt) (h2 : i.toInt < n) (hdg : decode cc pc = .ok (.baload, 1))
    (kk : ∀ j : Nat, (j : Int) = i.toInt → j < n → W p l e R s m args below meth c H locs cells slots Q (F0 m (pc + 1) ls (.int (σ a j) :: rest))) : W p l e R s m args below meth c H locs cells slots Q (F0 m pc ls (.int i :: .ref a :: rest)) := by
  obtain ⟨j, e, hj, hn⟩ := zz_ix h1 h2
  exact va_bald hexec hb hK.1 (zz_one hP hg) 0 1 rfl rfl (vp_in_iff.mpr ⟨h1, h2⟩) hdg (by rw [e]; exact kk j hj hn)
theorem zz_aald (hexec : p.tables.exec = Jvm.exec) (hb : c.code = cc) (hK : zz_Kn E s) (hP : zz_P E σ H) {n ty b0 st : Nat} {C : String} (hg : E.2.2.1 a = some (.inr (ty, n, some (b0, st)))) (hty : (zz_ty E.2.1)[ty]? = some (E.2.1 ty, .object C)) {i : Int32} (h1 : 0 ≤ i.toInt) (h2 : i.toInt < n) (hdg : decode cc pc = .ok (.aaload, 1))
    (kk : ∀ j : Nat, (j : Int) = i.toInt → j < n → W p l e R s m args below meth c H locs cells slots Q (F0 m (pc + 1) ls (.ref (b0 + st * j) :: rest))) : W p l e R s m args below meth c H locs cells slots Q (F0 m pc ls (.int i :: .ref a :: rest)) := by
  obtain ⟨j, e, hj, hn⟩ := zz_ix h1 h2
  exact va_aldq hexec hb hK.1 (zz_one hP hg) 0 ty rfl hty (vp_in_iff.mpr ⟨h1, h2⟩) hdg (by rw [e]; exact kk j hj hn)
theorem zz_iast (hexec : p.tables.exec = Jvm.exec) (hb : c.code = cc) (hK : zz_Kn E s) (hP : zz_P E σ H) (hS : va_S (zz_A E) s.heap H locs) {n : Nat} (hg : E.2.2.1 a = some (.inr (0, n, none))) {i x : Int32} (h1 : 0 ≤ i.toInt) (h2 : i.toInt < n) (hdg : decode cc pc = .ok (.iastore, 1))
    (kk : ∀ (j : Nat) (σ1 : zz_S) (H1 : Heap) (locs1 : List Loc), (j : Int) = i.toInt → j < n → σ1 = zz_u σ a j x → zz_P E σ1 H1 → va_S (zz_A E) s.heap H1 locs1 → W p l e R s m args below meth c H1 locs1 cells slots Q (F0 m (pc + 1) ls rest)) : W p l e R s m args below meth c H locs cells slots Q (F0 m pc ls (.int x :: .int i :: .ref a :: rest)) := by
  obtain ⟨j, ej, hj, hn⟩ := zz_ix h1 h2
  have hA : zz_A E a := fun h => by rw [hg] at h; cases h
  refine W.iast hexec hb (hP a _ hg) ((hK.1.2 0 _ rfl).1 n (fun j => .int (σ a j))) (fun q => by cases q) (by show ¬ (i < 0 ∨ (arrV _ _ _).slots.size ≤ _); rw [arrV_size]; exact vp_in_iff.mpr ⟨h1, h2⟩) rfl rfl hdg fun H1 e1 z oq => ?_
  refine kk j _ H1 _ hj hn rfl (hP.put (k := j) (v := x) hg ?_ oq) (hS.put z oq hA)
  show H1[a]? = some (vp_cell _ _)
  rw [e1]
  show some (Cell.setSlot (vp_cell (E.2.1 0) (n, .inl (σ a))) _ _) = some (vp_cell (E.2.1 0) (n, .inl (upd (σ a) j x)))
  rw [vp_cell_i, vp_cell_i, arrV_store, ej]
  congr 2
  funext q
  by_cases hq : q = j
  · subst hq
    simp [updV, upd]
  · simp [updV, upd, hq]
theorem zz_ialc (hexec : p.tables.exec = Jvm.exec) (hb : c.code = cc) (hK : zz_Kn E s) (hP : zz_P E σ H) {n : Nat} (hg : E.2.2.1 a = some (.inr (0, n, none))) {i : Int32} (k : Nat) (hi : i.toInt = (k : Int)) (hn : k < n) {v : Int32} (hv : σ a k = v) (hdg : decode cc pc = .ok (.iaload, 1))
    (kk : W p l e R s m args below meth c H locs cells slots Q (F0 m (pc + 1) ls (.int v :: rest))) : W p l e R s m args below meth c H locs cells slots Q (F0 m pc ls (.int i :: .ref a :: rest)) := by
  refine zz_iald hexec hb hK hP hg (by omega) (by omega) hdg (fun j hj _ => ?_)
  have e : j = k := by omega
  subst e
  rw [hv]
  exact kk
theorem zz_iasc (hexec : p.tables.exec = Jvm.exec) (hb : c.code = cc) (hK : zz_Kn E s) (hP : zz_P E σ H) (hS : va_S (zz_A E) s.heap H locs) {n : Nat} (hg : E.2.2.1 a = some (.inr (0, n, none))) {i x : Int32} (k : Nat) (hi : i.toInt = (k : Int)) (hn : k < n) (hdg : decode cc pc = .ok (.iastore, 1))
    (kk : ∀ (σ1 : zz_S) (H1 : Heap) (locs1 : List Loc), σ1 = zz_u σ a k x → zz_P E σ1 H1 → va_S (zz_A E) s.heap H1 locs1 → W p l e R s m args below meth c H1 locs1 cells slots Q (F0 m (pc + 1) ls rest)) : W p l e R s m args below meth c H locs cells slots Q (F0 m pc ls (.int x :: .int i :: .ref a :: rest)) := by
  refine zz_iast hexec hb hK hP hS hg (by omega) (by omega) hdg (fun j σ1 H1 locs1 hj _ hu => ?_)
  have e : j = k := by omega
  subst e
  exact kk σ1 H1 locs1 hu
theorem zz_bast (hexec : p.tables.exec = Jvm.exec) (hb : c.code = cc) (hK : zz_Kn E s) (hP : zz_P E σ H) (hS : va_S (zz_A E) s.heap H locs) {n : Nat} (hg : E.2.2.1 a = some (.inr (1, n, none))) {i x : Int32} (h1 : 0 ≤ i.toInt) (h2 : i.toInt < n) (hdg : decode cc pc = .ok (.bastore, 1))
    (kk : ∀ (j : Nat) (σ1 : zz_S) (H1 : Heap) (locs1 : List Loc), (j : Int) = i.toInt → j < n → σ1 = zz_u σ a j (vp_nar .byte x) → zz_P E σ1 H1 → va_S (zz_A E) s.heap H1 locs1 → W p l e R s m args below meth c H1 locs1 cells slots Q (F0 m (pc + 1) ls rest)) : W p l e R s m args below meth c H locs cells slots Q (F0 m pc ls (.int x :: .int i :: .ref a :: rest)) := by
  obtain ⟨j, ej, hj, hn⟩ := zz_ix h1 h2
  have hA : zz_A E a := fun h => by rw [hg] at h; cases h
  refine W.bast hexec hb (hP a _ hg) ((hK.1.2 1 _ rfl).1 n (fun j => .int (σ a j))) (fun q => by cases q) (by show ¬ (i < 0 ∨ (arrV _ _ _).slots.size ≤ _); rw [arrV_size]; exact vp_in_iff.mpr ⟨h1, h2⟩) rfl rfl hdg fun H1 e1 z oq => ?_
  refine kk j _ H1 _ hj hn rfl (hP.put (k := j) (v := vp_nar .byte x) hg ?_ oq) (hS.put z oq hA)
  show H1[a]? = some (vp_cell _ _)
  rw [e1]
  show some (Cell.setSlot (vp_cell (E.2.1 1) (n, .inl (σ a))) _ _) = some (vp_cell (E.2.1 1) (n, .inl (upd (σ a) j (vp_nar .byte x))))
  rw [vp_cell_i, vp_cell_i, arrV_store, ej]
  congr 2
  funext q
  by_cases hq : q = j
  · subst hq
    simp [updV, upd, vp_nar]
    try rfl
  · simp [updV, upd, hq]
theorem zz_alen (hexec : p.tables.exec = Jvm.exec) (hb : c.code = cc) (hK : zz_Kn E s) (hP : zz_P E σ H) {n ty : Nat} {o : Option (Nat × Nat)} (hg : E.2.2.1 a = some (.inr (ty, n, o))) {q : FieldType} (hty : (zz_ty E.2.1)[ty]? = some (E.2.1 ty, q)) {v : Int32} (hv : Int32.ofNat n = v) (hdg : decode cc pc = .ok (.arraylength, 1))
    (kk : W p l e R s m args below meth c H locs cells slots Q (F0 m (pc + 1) ls (.int v :: rest))) : W p l e R s m args below meth c H locs cells slots Q (F0 m pc ls (.ref a :: rest)) := by
  cases o with
  | none => exact va_alen hexec hb hK.1 (zz_one hP hg) 0 ty rfl hty hv hdg kk
  | some g => exact va_alen hexec hb hK.1 (zz_one hP hg) 0 ty rfl hty hv hdg kk
/-- System.arraycopy of ints, of bytes -/
theorem zz_copy (hexec : p.tables.exec = Jvm.exec) (hb : c.code = cc) (hml : c.maxLocals = ls.size) {own : String} {index : Nat} (hown : s.vm.findClass own = some m.cls) (hlink : (Cond.methodLink own index arraycopyName).before args s = true) (hnat : (Cond.native arraycopyName).before args s = true) (hstat : (Cond.static arraycopyName).before args s = true) (hini : (Cond.initialized "java/lang/System").before args s = true)
    (hK : zz_Kn E s) (hP : zz_P E σ H) (hS : va_S (zz_A E) s.heap H locs) (t : Nat) {ty : FieldType} (hty : (zz_ty E.2.1)[t]? = some (E.2.1 t, ty)) (hprim : refKind ty = false) {a0 n0 n1 : Nat} (hg0 : E.2.2.1 a0 = some (.inr (t, n0, none))) (hg1 : E.2.2.1 a = some (.inr (t, n1, none)))
    {sp dp n : Int32} (h1 : 0 ≤ sp.toInt) (h2 : 0 ≤ dp.toInt) (h3 : 0 ≤ n.toInt) (h4 : sp.toInt + n.toInt ≤ n0) (h5 : dp.toInt + n.toInt ≤ n1) (hfit : ∀ i : Nat, i < n0 → fits ty (.int (σ a0 i)) = true)
    (hframes : 1 ≤ R.frames) (hlocals : (rest.map fun v => v.category).sum + (nativeFrameWords "java/lang/System" "arraycopy" 5 + 11) ≤ R.locals) (hdg : decode cc pc = .ok (.invokestatic index, 3))
    (kk : ∀ (σ1 : zz_S) (H1 : Heap) (locs1 : List Loc), σ1 = zz_cp σ a0 a sp.toNatClampNeg dp.toNatClampNeg n.toNatClampNeg → zz_P E σ1 H1 → va_S (zz_A E) s.heap H1 locs1 → W p l e R s m args below meth c H1 locs1 cells slots Q (F0 m (pc + 3) ls rest)) : W p l e R s m args below meth c H locs cells slots Q (F0 m pc ls (.int n :: .int dp :: .ref a :: .int sp :: .ref a0 :: rest)) := by
  have cl : ∀ z : Int32, 0 ≤ z.toInt → z.toInt = (z.toNatClampNeg : Int) := fun z hz => by
    show z.toInt = ((z.toInt.toNat : Nat) : Int)
    omega
  have ng : ∀ z : Int32, 0 ≤ z.toInt → ¬ z < 0 := fun z hz q => by
    have := Int32.lt_iff_toInt_lt.mp q
    rw [Int32.toInt_zero] at this
    omega
  have e1 := cl sp h1
  have e2 := cl dp h2
  have e3 := cl n h3
  intro T hT X
  have hc0 : H[a0]? = some (vp_cell (E.2.1 t) (n0, .inl (σ a0))) := hP a0 _ hg0
  have hc1 : H[a]? = some (vp_cell (E.2.1 t) (n1, .inl (σ a))) := hP a _ hg1
  have hA : zz_A E a := fun h => by rw [hg1] at h; cases h
  obtain ⟨-, k0, hk0, cm0, hkk0⟩ := (hK.1.2 t _ hty).1 n0 (fun j => .int (σ a0 j))
  obtain ⟨-, k1, hk1, cm1, hkk1⟩ := (hK.1.2 t _ hty).1 n1 (fun j => .int (σ a j))
  obtain ⟨vm', X', step⟩ := X.arraycopy hexec hown hlink hnat hstat hini (src := a0) (dst := a) (cs := vp_cell (E.2.1 t) (n0, .inl (σ a0))) (cd := vp_cell (E.2.1 t) (n1, .inl (σ a))) (srcPos := sp) (destPos := dp) (n := n) (by rw [hT]; exact hc0) (by rw [hT]; exact hc1)
    (fun _ h => by cases h) (fun _ h => by cases h) (fun h => by cases h) (fun h => by cases h) hk0 hk1 hkk0 hkk1 (by simp [hprim]) (ng sp h1) (ng dp h2) (ng n h3)
    (by show ¬ _ > ((arrV (E.2.1 t) n0 (fun j => .int (σ a0 j))).slots.size : Int); rw [arrV_size]; omega)
    (by show ¬ _ > ((arrV (E.2.1 t) n1 (fun j => .int (σ a j))).slots.size : Int); rw [arrV_size]; omega)
    (fun vm₁ _ i hi => by
      have hlt : sp.toNatClampNeg + i < n0 := by omega
      have e : (vp_cell (E.2.1 t) (n0, .inl (σ a0))).slots.getD (sp.toNatClampNeg + i) .null = .int (σ a0 (sp.toNatClampNeg + i)) := by
        show (arrV (E.2.1 t) n0 (fun j => .int (σ a0 j))).slots.getD _ _ = _
        rw [Array.getD_eq_getD_getElem?, arrV_read _ _ hlt]
        rfl
      refine ⟨?_, ?_⟩
      · rw [e]
        exact hfit _ hlt
      · rw [e]
        exact trivial)
    (g := F0 m pc ls (.int n :: .int dp :: .ref a :: .int sp :: .ref a0 :: rest)) rfl (by rw [hml]) (rest := rest) rfl (by rw [hb]; exact hdg) hframes (by show 2 * 0 + _ + _ ≤ _; omega)
  have ec : copied (vp_cell (E.2.1 t) (n0, .inl (σ a0))) (vp_cell (E.2.1 t) (n1, .inl (σ a))) sp dp n = vp_cell (E.2.1 t) (n1, .inl (va_cpy (σ a0) (σ a) sp.toNatClampNeg dp.toNatClampNeg n.toNatClampNeg)) := va_copied (fun z => .int z) (E.2.1 t) (E.2.1 t) (σ a0) (σ a) (by omega)
  rw [ec] at X' step
  have hl : a < H.size := (Array.getElem?_eq_some_iff.mp hc1).1
  have oq : ∀ q : Nat, q ≠ a → (H.setIfInBounds a (vp_cell (E.2.1 t) (n1, .inl (va_cpy (σ a0) (σ a) sp.toNatClampNeg dp.toNatClampNeg n.toNatClampNeg))))[q]? = H[q]? := fun q hq => by simp [Array.getElem?_setIfInBounds, Ne.symm hq]
  have hheap : ((T.setVm vm').setCell a (vp_cell (E.2.1 t) (n1, .inl (va_cpy (σ a0) (σ a) sp.toNatClampNeg dp.toNatClampNeg n.toNatClampNeg)))).heap = H.setIfInBounds a (vp_cell (E.2.1 t) (n1, .inl (va_cpy (σ a0) (σ a) sp.toNatClampNeg dp.toNatClampNeg n.toNatClampNeg))) := by rw [← hT]; rfl
  have hP1 : zz_P E (zz_cp σ a0 a sp.toNatClampNeg dp.toNatClampNeg n.toNatClampNeg) (H.setIfInBounds a (vp_cell (E.2.1 t) (n1, .inl (va_cpy (σ a0) (σ a) sp.toNatClampNeg dp.toNatClampNeg n.toNatClampNeg)))) := by
    intro b kb hb
    by_cases hba : b = a
    · subst hba
      cases hg1.symm.trans hb
      rw [zz_cpa]
      show (H.setIfInBounds b _)[b]? = some _
      simp [Array.getElem?_setIfInBounds, hl]
    · rw [zz_cpb hba]
      exact (hP b kb hb).kept (oq b hba)
  obtain ⟨t2, a1, b1⟩ := kk _ _ _ rfl hP1 ⟨by simp; exact hS.1, fun q g1 g2 => by
      rw [oq q (fun e => g2 (by rw [e]; exact hA))]
      exact hS.2.1 q g1 g2, fun q hq => by
      rcases List.mem_append.mp hq with h | h
      · exact hS.2.2 q h
      · obtain ⟨z, -, hz⟩ := List.mem_map.mp h
        rw [← hz]
        exact hA⟩ _ hheap X'
  exact ⟨t2, step t2 a1, b1⟩
/-- answers -/
theorem zz_iret {post : Int32 → zz_S → Prop} {v : Int32} (hexec : p.tables.exec = Jvm.exec) (hb : c.code = cc) (hr : meth.sig.returnType = some .int) (hlocks : meth.locks = false) (hK : zz_Kn E s) (hP : zz_P E σ H) (hS : va_S (zz_A E) s.heap H locs) (hdg : decode cc pc = .ok (.ireturn, 1)) (hq : post v σ) : W p l e R s m args below meth c H locs 0 0 (MQ below (va_Qi post (zz_B E) (zz_A E)) args s 0 0 (zz_A E)) (F0 m pc ls [.int v]) :=
  W.iret hexec hb hr (fun t ht hW => ⟨⟨v, σ, rfl, hq, by rw [ht]; exact hP, hK.to hS ht hW⟩, hS.F ht⟩) hS.2.2 hdg hlocks
theorem zz_zret {post : Int32 → zz_S → Prop} {v : Int32} (hexec : p.tables.exec = Jvm.exec) (hb : c.code = cc) (hr : meth.sig.returnType = some .boolean) (hlocks : meth.locks = false) (hK : zz_Kn E s) (hP : zz_P E σ H) (hS : va_S (zz_A E) s.heap H locs) (hdg : decode cc pc = .ok (.ireturn, 1)) (h01 : v = 0 ∨ v = 1) (hq : post v σ) : W p l e R s m args below meth c H locs 0 0 (MQ below (va_Qi post (zz_B E) (zz_A E)) args s 0 0 (zz_A E)) (F0 m pc ls [.int v]) :=
  W.zret hexec hb hr (by rcases h01 with rfl | rfl <;> decide) (fun t ht hW => ⟨⟨v, σ, rfl, hq, by rw [ht]; exact hP, hK.to hS ht hW⟩, hS.F ht⟩) hS.2.2 hdg hlocks
theorem zz_vret {post : zz_S → Prop} (hexec : p.tables.exec = Jvm.exec) (hb : c.code = cc) (hr : meth.sig.returnType = none) (hlocks : meth.locks = false) (hK : zz_Kn E s) (hP : zz_P E σ H) (hS : va_S (zz_A E) s.heap H locs) (hdg : decode cc pc = .ok (.return_, 1)) (hq : post σ) : W p l e R s m args below meth c H locs 0 0 (MQ below (va_Qv post (zz_B E) (zz_A E)) args s 0 0 (zz_A E)) (F0 m pc ls []) :=
  W.vret hexec hb hr (fun t ht hW => ⟨⟨σ, rfl, hq, by rw [ht]; exact hP, hK.to hS ht hW⟩, hS.F ht⟩) hS.2.2 hdg hlocks
variable {y : MethodName} {bytes : ByteArray} {maxL nL n index : Nat} {ret : Option FieldType} {ws Ts : List Cond} {rm : Room} {own C : String} {b : Nat} {As st : List Value}
theorem zz_callVi {post : Int32 → zz_S → Prop} (S : CallFix p m c cc nL s args Ts own) (hK : zz_Kn E s) (hP : zz_P E σ H) (hS : va_S (zz_A E) s.heap H locs) (hM : Met l y ws rm (va_Pc (.ref b :: As) (zz_B E σ)) (va_Qi post (zz_B E) (zz_A E)) 0 0 (zz_A E)) (cw : CallW R s args own C index y bytes maxL ret ws rm 0 0 n) {ci : Nat} {tpl : List (Option Value)} (hg : E.2.2.1 b = some (.inl (ci, tpl))) {T : u_T} {N : Nat} (hc : vwCl[ci]? = some (C, T, N)) (hn : As.length = n) (hsize : ls.size = nL) (hst : st = As.reverse ++ .ref b :: rest) (hW : (rest.map fun v => v.category).sum ≤ 8) (hdg : decode cc pc = .ok (.invokevirtual index, 3)) (hf : cells ≤ R.cells ∧ slots ≤ R.slots)
    (kk : ∀ (r : Int32) (σ1 : zz_S) (H1 : Heap) (locs1 : List Loc), post r σ1 → zz_P E σ1 H1 → va_S (zz_A E) s.heap H1 locs1 → W p l e R s m args below meth c H1 locs1 cells slots Q (F0 m (pc + 3) ls (.int r :: rest))) : W p l e R s m args below meth c H locs cells slots Q (F0 m pc ls st) :=
  va_calli (va_runV (g := F0 m pc ls st) S hM cw ⟨zz_blind E σ _, va_recv (ci := ci) hK.1 (zz_one hP hg) hc (q0 := 0) rfl, fun U hU hWm => ⟨rfl, by rw [hU]; exact hP, hK.to hS hU hWm⟩⟩ rfl hn hsize hst (lv_room hW) hdg hf) hS (fun _ _ h => h) (fun _ h => h) (fun r u t H1 locs1 ht hvm hpo hB _ _ hS1 => kk r u H1 locs1 hpo (by rw [← ht]; exact hB.1) hS1)
theorem zz_callVv {post : zz_S → Prop} (S : CallFix p m c cc nL s args Ts own) (hK : zz_Kn E s) (hP : zz_P E σ H) (hS : va_S (zz_A E) s.heap H locs) (hM : Met l y ws rm (va_Pc (.ref b :: As) (zz_B E σ)) (va_Qv post (zz_B E) (zz_A E)) 0 0 (zz_A E)) (cw : CallW R s args own C index y bytes maxL ret ws rm 0 0 n) {ci : Nat} {tpl : List (Option Value)} (hg : E.2.2.1 b = some (.inl (ci, tpl))) {T : u_T} {N : Nat} (hc : vwCl[ci]? = some (C, T, N)) (hn : As.length = n) (hsize : ls.size = nL) (hst : st = As.reverse ++ .ref b :: rest) (hW : (rest.map fun v => v.category).sum ≤ 8) (hdg : decode cc pc = .ok (.invokevirtual index, 3)) (hf : cells ≤ R.cells ∧ slots ≤ R.slots)
    (kk : ∀ (σ1 : zz_S) (H1 : Heap) (locs1 : List Loc), post σ1 → zz_P E σ1 H1 → va_S (zz_A E) s.heap H1 locs1 → W p l e R s m args below meth c H1 locs1 cells slots Q (F0 m (pc + 3) ls rest)) : W p l e R s m args below meth c H locs cells slots Q (F0 m pc ls st) :=
  va_callv (va_runV (g := F0 m pc ls st) S hM cw ⟨zz_blind E σ _, va_recv (ci := ci) hK.1 (zz_one hP hg) hc (q0 := 0) rfl, fun U hU hWm => ⟨rfl, by rw [hU]; exact hP, hK.to hS hU hWm⟩⟩ rfl hn hsize hst (lv_room hW) hdg hf) hS (fun _ _ h => h) (fun _ h => h) (fun u t H1 locs1 ht hvm hpo hB _ _ hS1 => kk u H1 locs1 hpo (by rw [← ht]; exact hB.1) hS1)
theorem zz_callSi {post : Int32 → zz_S → Prop} (S : CallFix p m c cc nL s args Ts own) (hK : zz_Kn E s) (hP : zz_P E σ H) (hS : va_S (zz_A E) s.heap H locs) (hM : Met l y ws rm (va_Pc As (zz_B E σ)) (va_Qi post (zz_B E) (zz_A E)) 0 0 (zz_A E)) (cw : CallB R s args own index y bytes maxL ret ws rm 0 0 n ∧ (Cond.static y).before args s = true) (hn : As.length = n) (hsize : ls.size = nL) (hst : st = As.reverse ++ rest) (hW : (rest.map fun v => v.category).sum ≤ 8) (hdg : decode cc pc = .ok (.invokestatic index, 3)) (hf : cells ≤ R.cells ∧ slots ≤ R.slots)
    (kk : ∀ (r : Int32) (σ1 : zz_S) (H1 : Heap) (locs1 : List Loc), post r σ1 → zz_P E σ1 H1 → va_S (zz_A E) s.heap H1 locs1 → W p l e R s m args below meth c H1 locs1 cells slots Q (F0 m (pc + 3) ls (.int r :: rest))) : W p l e R s m args below meth c H locs cells slots Q (F0 m pc ls st) :=
  va_calli (va_runS (g := F0 m pc ls st) S hM cw ⟨zz_blind E σ _, fun U hU hWm => ⟨rfl, by rw [hU]; exact hP, hK.to hS hU hWm⟩⟩ rfl hn hsize hst (lv_room hW) hdg hf) hS (fun _ _ h => h) (fun _ h => h) (fun r u t H1 locs1 ht hvm hpo hB _ _ hS1 => kk r u H1 locs1 hpo (by rw [← ht]; exact hB.1) hS1)
theorem zz_callSv {post : zz_S → Prop} (S : CallFix p m c cc nL s args Ts own) (hK : zz_Kn E s) (hP : zz_P E σ H) (hS : va_S (zz_A E) s.heap H locs) (hM : Met l y ws rm (va_Pc As (zz_B E σ)) (va_Qv post (zz_B E) (zz_A E)) 0 0 (zz_A E)) (cw : CallB R s args own index y bytes maxL ret ws rm 0 0 n ∧ (Cond.static y).before args s = true) (hn : As.length = n) (hsize : ls.size = nL) (hst : st = As.reverse ++ rest) (hW : (rest.map fun v => v.category).sum ≤ 8) (hdg : decode cc pc = .ok (.invokestatic index, 3)) (hf : cells ≤ R.cells ∧ slots ≤ R.slots)
    (kk : ∀ (σ1 : zz_S) (H1 : Heap) (locs1 : List Loc), post σ1 → zz_P E σ1 H1 → va_S (zz_A E) s.heap H1 locs1 → W p l e R s m args below meth c H1 locs1 cells slots Q (F0 m (pc + 3) ls rest)) : W p l e R s m args below meth c H locs cells slots Q (F0 m pc ls st) :=
  va_callv (va_runS (g := F0 m pc ls st) S hM cw ⟨zz_blind E σ _, fun U hU hWm => ⟨rfl, by rw [hU]; exact hP, hK.to hS hU hWm⟩⟩ rfl hn hsize hst (lv_room hW) hdg hf) hS (fun _ _ h => h) (fun _ h => h) (fun u t H1 locs1 ht hvm hpo hB _ _ hS1 => kk u H1 locs1 hpo (by rw [← ht]; exact hB.1) hS1)
theorem zz_callVp {post : Int32 → Prop} (S : CallFix p m c cc nL s args Ts own) (hK : zz_Kn E s) (hP : zz_P E σ H) (hS : va_S (zz_A E) s.heap H locs) (hM : Met l y ws rm (va_Pc (.ref b :: As) (zz_B E σ)) (va_Qi (fun r σ1 => σ1 = σ ∧ post r) (zz_B E) (zz_A E)) 0 0 (zz_A E)) (cw : CallW R s args own C index y bytes maxL ret ws rm 0 0 n) {ci : Nat} {tpl : List (Option Value)} (hg : E.2.2.1 b = some (.inl (ci, tpl))) {T : u_T} {N : Nat} (hc : vwCl[ci]? = some (C, T, N)) (hn : As.length = n) (hsize : ls.size = nL) (hst : st = As.reverse ++ .ref b :: rest) (hW : (rest.map fun v => v.category).sum ≤ 8) (hdg : decode cc pc = .ok (.invokevirtual index, 3)) (hf : cells ≤ R.cells ∧ slots ≤ R.slots)
    (kk : ∀ (r : Int32) (H1 : Heap) (locs1 : List Loc), post r → zz_P E σ H1 → va_S (zz_A E) s.heap H1 locs1 → W p l e R s m args below meth c H1 locs1 cells slots Q (F0 m (pc + 3) ls (.int r :: rest))) : W p l e R s m args below meth c H locs cells slots Q (F0 m pc ls st) :=
  zz_callVi S hK hP hS hM cw hg hc hn hsize hst hW hdg hf (fun r σ1 H1 locs1 q hP1 hS1 => kk r H1 locs1 q.2 (by rw [← q.1]; exact hP1) hS1)
theorem zz_callSp {post : Int32 → Prop} (S : CallFix p m c cc nL s args Ts own) (hK : zz_Kn E s) (hP : zz_P E σ H) (hS : va_S (zz_A E) s.heap H locs) (hM : Met l y ws rm (va_Pc As (zz_B E σ)) (va_Qi (fun r σ1 => σ1 = σ ∧ post r) (zz_B E) (zz_A E)) 0 0 (zz_A E)) (cw : CallB R s args own index y bytes maxL ret ws rm 0 0 n ∧ (Cond.static y).before args s = true) (hn : As.length = n) (hsize : ls.size = nL) (hst : st = As.reverse ++ rest) (hW : (rest.map fun v => v.category).sum ≤ 8) (hdg : decode cc pc = .ok (.invokestatic index, 3)) (hf : cells ≤ R.cells ∧ slots ≤ R.slots)
    (kk : ∀ (r : Int32) (H1 : Heap) (locs1 : List Loc), post r → zz_P E σ H1 → va_S (zz_A E) s.heap H1 locs1 → W p l e R s m args below meth c H1 locs1 cells slots Q (F0 m (pc + 3) ls (.int r :: rest))) : W p l e R s m args below meth c H locs cells slots Q (F0 m pc ls st) :=
  zz_callSi S hK hP hS hM cw hn hsize hst hW hdg hf (fun r σ1 H1 locs1 q hP1 hS1 => kk r H1 locs1 q.2 (by rw [← q.1]; exact hP1) hS1)
theorem zz_callNp {host : String} {post : Int32 → Prop} (S : CallFix p m c cc nL s args Ts own) (hK : zz_Kn E s) (hP : zz_P E σ H) (hS : va_S (zz_A E) s.heap H locs) (hM : Met l y ws rm (va_Pc As (zz_B E σ)) (va_Qi (fun r σ1 => σ1 = σ ∧ post r) (zz_B E) (zz_A E)) 0 0 (zz_A E)) (cw : va_CN R s args own index y host bytes maxL ret ws rm 0 0 n ∧ (Cond.static y).before args s = true ∧ True) (hn : As.length = n) (hsize : ls.size = nL) (hst : st = As.reverse ++ rest) (hW : (rest.map fun v => v.category).sum ≤ 8) (hdg : decode cc pc = .ok (.invokestatic index, 3)) (hf : cells ≤ R.cells ∧ slots ≤ R.slots)
    (kk : ∀ (r : Int32) (H1 : Heap) (locs1 : List Loc), post r → zz_P E σ H1 → va_S (zz_A E) s.heap H1 locs1 → W p l e R s m args below meth c H1 locs1 cells slots Q (F0 m (pc + 3) ls (.int r :: rest))) : W p l e R s m args below meth c H locs cells slots Q (F0 m pc ls st) :=
  va_calli (va_runSN (g := F0 m pc ls st) S hM cw ⟨zz_blind E σ _, fun U hU hWm => ⟨rfl, by rw [hU]; exact hP, hK.to hS hU hWm⟩⟩ rfl hn hsize hst (lv_room hW) hdg hf) hS (fun _ _ h => h) (fun _ h => h) (fun r u t H1 locs1 ht hvm hpo hB _ _ hS1 => kk r H1 locs1 hpo.2 (by have h1 := hB.1; rw [hpo.1, ht] at h1; exact h1) hS1)
end ZZ
