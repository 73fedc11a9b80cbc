/-! ===== the world by addresses: what an address is never changes behind the constructors (E), its ints are σ ===== -/
abbrev zz_K : Type := (Nat × List (Option Value)) ⊕ (Nat × Nat × Option (Nat × Nat))
abbrev zz_S : Type := Nat → Nat → Int32
abbrev zz_E : Type := va_G × (Nat → ClassId) × (Nat → Option zz_K) × (Nat → Nat)
def zz_fs : List (Option Value) → Nat → (Nat → Int32) → List Value
  | [], _, _ => []
  | none :: t, k, f => .int (f k) :: zz_fs t (k + 1) f
  | some v :: t, k, f => v :: zz_fs t (k + 1) f
theorem zz_fs_at (f : Nat → Int32) : ∀ (t : List (Option Value)) (i k : Nat), (zz_fs t i f)[k]? = (t[k]?).map (fun o => o.getD (.int (f (i + k))))
  | [], i, k => by simp [zz_fs]
  | none :: t, i, 0 => by simp [zz_fs]
  | some v :: t, i, 0 => by simp [zz_fs]
  | none :: t, i, k + 1 => by
    rw [zz_fs, List.getElem?_cons_succ, List.getElem?_cons_succ, zz_fs_at f t (i + 1) k, Nat.add_assoc, Nat.add_comm 1 k]
  | some v :: t, i, k + 1 => by
    rw [zz_fs, List.getElem?_cons_succ, List.getElem?_cons_succ, zz_fs_at f t (i + 1) k, Nat.add_assoc, Nat.add_comm 1 k]
theorem zz_fs_len (f : Nat → Int32) : ∀ (t : List (Option Value)) (i : Nat), (zz_fs t i f).length = t.length
  | [], i => rfl
  | none :: t, i => by simp [zz_fs, zz_fs_len f t (i + 1)]
  | some v :: t, i => by simp [zz_fs, zz_fs_len f t (i + 1)]
theorem zz_fs_set (f : Nat → Int32) (t : List (Option Value)) (k : Nat) (v : Int32) (h : t[k]? = some none) : (zz_fs t 0 f).set k (.int v) = zz_fs t 0 (upd f k v) := by
  apply List.ext_getElem?
  intro j
  by_cases hj : j = k
  · subst hj
    have hl : j < (zz_fs t 0 f).length := by rw [zz_fs_len]; exact (List.getElem?_eq_some_iff.mp h).1
    rw [List.getElem?_set_self hl, zz_fs_at, h]
    simp [upd]
  · rw [List.getElem?_set_ne (Ne.symm hj), zz_fs_at, zz_fs_at]
    simp [upd, hj]
theorem zz_fs_setR (f : Nat → Int32) : ∀ (t : List (Option Value)) (i k : Nat) (v : Value), (zz_fs t i f).set k v = zz_fs (t.set k (some v)) i f
  | [], i, k, v => by simp [zz_fs]
  | none :: t, i, 0, v => by simp [zz_fs]
  | some w :: t, i, 0, v => by simp [zz_fs]
  | none :: t, i, k + 1, v => by simp [zz_fs, zz_fs_setR f t (i + 1) k v]
  | some w :: t, i, k + 1, v => by simp [zz_fs, zz_fs_setR f t (i + 1) k v]
def zz_ce (cy : Nat → ClassId) (kd : zz_K) (f : Nat → Int32) : va_E := match kd with
  | .inl o => .inr (o.1, zz_fs o.2 0 f)
  | .inr (ty, n, none) => .inl (cy ty, n, .inl f)
  | .inr (ty, n, some g) => .inl (cy ty, n, .inr (.inr (.inr (.inr (fun j => some (g.1 + g.2 * j))))))
def zz_ty (cy : Nat → ClassId) : List (ClassId × FieldType) := [(cy 0, .int), (cy 1, .byte), (cy 2, .object RX0), (cy 3, .object RX1), (cy 4, .object RX6), (cy 5, .object RX3)]
def zz_P (E : zz_E) (σ : zz_S) (H : Heap) : Prop := ∀ (a : Nat) (kd : zz_K), E.2.2.1 a = some kd → va_at E.1 vwCl (a, zz_ce E.2.1 kd (σ a)) H
def zz_A (E : zz_E) : Nat → Prop := fun q => E.2.2.1 q ≠ none
def zz_u (σ : zz_S) (a k : Nat) (v : Int32) : zz_S := fun b j => if b = a ∧ j = k then v else σ b j
theorem zz_us (σ : zz_S) (a k : Nat) (v : Int32) : zz_u σ a k v a k = v := by simp [zz_u]
theorem zz_un {σ : zz_S} {a k b j : Nat} {v : Int32} (h : ¬ (b = a ∧ j = k)) : zz_u σ a k v b j = σ b j := by simp [zz_u, h]
theorem zz_ua (σ : zz_S) (a k : Nat) (v : Int32) : zz_u σ a k v a = upd (σ a) k v := by
  funext j
  simp [zz_u, upd]
theorem zz_ub {σ : zz_S} {a k b : Nat} {v : Int32} (h : b ≠ a) : zz_u σ a k v b = σ b := by
  funext j
  simp [zz_u, h]
/-- the tables of the class that nobody writes -/
def zz_tA : Nat → Value := fun j => .int (([-1, 0, 0, 0, 1, 2, 0] : List Int32).getD j 0)
def zz_tB : Nat → Value := fun j => .int (([10, 11, 12, 13, 20, 0, 0, 21, 0, 30, 0, 0, 0, 0, 40, 0, 50, 0, 51, 0, 0, 60, 0, 0, 70, 71, 0, 0] : List Int32).getD j 0)
def zz_tN : Nat → Value := fun j => .int (([103, 104, 110, 107, 109, 100] : List Int32).getD j 0)
def zz_St (E : zz_E) (U : State) (H : Heap) : Prop := (va_Z RX8 "ABOVE" "[I" (.ref (E.2.2.2 0)) (zz_A E) U H ∧ va_T .int (E.2.2.2 0) 7 zz_tA (zz_A E) U H) ∧ (va_Z RX8 "BODY_OF" "[I" (.ref (E.2.2.2 1)) (zz_A E) U H ∧ va_T .int (E.2.2.2 1) 28 zz_tB (zz_A E) U H) ∧ (va_Z RX8 "NAMES" "[C" (.ref (E.2.2.2 2)) (zz_A E) U H ∧ va_T .char (E.2.2.2 2) 6 zz_tN (zz_A E) U H)
theorem zz_St.moved {E : zz_E} {u U : State} {H : Heap} (hvm : u.vm.Alike U.vm) (h : zz_St E u H) : zz_St E U H := ⟨⟨va_Z.moved hvm h.1.1, va_T.moved hvm h.1.2⟩, ⟨va_Z.moved hvm h.2.1.1, va_T.moved hvm h.2.1.2⟩, ⟨va_Z.moved hvm h.2.2.1, va_T.moved hvm h.2.2.2⟩⟩
theorem zz_St.kept {E : zz_E} {U : State} {H H1 : Heap} (h : zz_St E U H) (hq : ∀ a : Nat, a < H.size → ¬ zz_A E a → H1[a]? = H[a]?) : zz_St E U H1 := ⟨⟨h.1.1.kept hq, h.1.2.kept hq⟩, ⟨h.2.1.1.kept hq, h.2.1.2.kept hq⟩, ⟨h.2.2.1.kept hq, h.2.2.2.kept hq⟩⟩
def zz_Kn (E : zz_E) (U : State) : Prop := va_K E.1 vwCl (zz_ty E.2.1) U ∧ zz_St E U U.heap
def zz_B (E : zz_E) (σ : zz_S) (U : State) : Prop := zz_P E σ U.heap ∧ zz_Kn E U
theorem zz_Kn.to {E : zz_E} {s U : State} {H : Heap} {locs : List Loc} (h : zz_Kn E s) (hS : va_S (zz_A E) s.heap H locs) (hU : U.heap = H) (hvm : s.vm.Alike U.vm) : zz_Kn E U := by
  refine ⟨va_K.moved hvm h.1, ?_⟩
  rw [hU]
  exact zz_St.moved hvm (h.2.kept hS.2.1)
theorem zz_blind (E : zz_E) (σ : zz_S) (av : List Value) : FrameBlind (va_Pc av (zz_B E σ)) := fun a U g mk q => by
  obtain ⟨q0, qP, qK, qS⟩ := q
  exact ⟨q0, qP, va_K.moved (u := U) (U := U.calling g mk a) (Vm.Alike.refl U.vm) qK, zz_St.moved (u := U) (U := U.calling g mk a) (Vm.Alike.refl U.vm) qS⟩
/-- ints -/
theorem zz_addT {v x y : Int32} (e : v = x + y) (h1 : -2147483648 ≤ x.toInt + y.toInt) (h2 : x.toInt + y.toInt ≤ 2147483647) : v.toInt = x.toInt + y.toInt := by
  subst e
  rw [Int32.toInt_add]
  exact Int.bmod_eq_of_le (by omega) (by omega)
theorem zz_subT {v x y : Int32} (e : v = x - y) (h1 : -2147483648 ≤ x.toInt - y.toInt) (h2 : x.toInt - y.toInt ≤ 2147483647) : v.toInt = x.toInt - y.toInt := by
  subst e
  rw [Int32.toInt_sub]
  exact Int.bmod_eq_of_le (by omega) (by omega)
theorem zz_mulT {v x y : Int32} (c : Int) (e : v = x * y) (hc : y.toInt = c) (h1 : -2147483648 ≤ x.toInt * c) (h2 : x.toInt * c ≤ 2147483647) : v.toInt = x.toInt * c := by
  subst e
  rw [Int32.toInt_mul, hc]
  exact Int.bmod_eq_of_le (by omega) (by omega)
theorem zz_mulL {v x y : Int32} (c : Int) (e : v = x * y) (hc : x.toInt = c) (h1 : -2147483648 ≤ c * y.toInt) (h2 : c * y.toInt ≤ 2147483647) : v.toInt = c * y.toInt := by
  subst e
  rw [Int32.toInt_mul, hc]
  exact Int.bmod_eq_of_le (by omega) (by omega)
theorem zz_rng (x : Int32) : -2147483648 ≤ x.toInt ∧ x.toInt ≤ 2147483647 := ⟨by have := Int32.le_toInt x; omega, by have := Int32.toInt_lt x; omega⟩
theorem zz_ext {x y : Int32} (h : x.toInt = y.toInt) : x = y := Int32.toInt_inj.mp h
theorem zz_ix {i : Int32} {n : Nat} (h1 : 0 ≤ i.toInt) (h2 : i.toInt < n) : ∃ j : Nat, i.toNatClampNeg = j ∧ (j : Int) = i.toInt ∧ j < n := by
  refine ⟨i.toNatClampNeg, rfl, ?_, ?_⟩
  · show ((i.toInt.toNat : Nat) : Int) = i.toInt
    omega
  · show i.toInt.toNat < n
    omega
section ZZ
variable {p : Program} {l : Launch} {e : Env} {R : Room} {s : State} {m : MethodId} {args : Array Value} {below : List Frame} {meth : Method} {c : Code} {H : Heap} {locs : List Loc} {cells slots : Nat} {Q : State → Prop}
variable {cc : ByteArray} {pc : Nat} {ls : Array Slot} {rest : List Value} {E : zz_E} {σ : zz_S} {a : Nat}
/-- a method, from its entry -/
theorem zz_met {y : MethodName} {ws ws' : List Cond} {rm : Room} {maxL : Nat} {ret : Option FieldType} {av : List Value} {Qc : Array Value → State → Outcome → State → Prop} (hy : plainName y.cls = true) (hw : ws = Cond.code y cc maxL ret :: ws') (hn : (lg_sl av).length ≤ maxL)
    (body : ∀ (p : Program) (e : Env) (s : State) (m : MethodId) (args : Array Value) (below : List Frame) (meth : Method) (c : Code) (ls : Array Slot), p.tables.exec = Jvm.exec → c.code = cc → meth.sig.returnType = ret → (∀ w ∈ ws, w.before args s = true) → s.vm.findClass y.cls = some m.cls → meth.locks = false → c.maxLocals = maxL → zz_Kn E s → zz_P E σ s.heap → va_S (zz_A E) s.heap s.heap [] → lv_has ls maxL (lv_args 0 av) →
      W p l e (headSpec ws rm).room s m args below meth c s.heap [] 0 0 (MQ below Qc args s 0 0 (zz_A E)) (F0 m 0 ls [])) : Met l y ws rm (va_Pc av (zz_B E σ)) Qc 0 0 (zz_A E) := by
  refine Met.ofW (cc := cc) (maxL := maxL) (ret := ret) hy hw ?_
  intro p e s m args below meth c s₁ B hml hv
  obtain ⟨rfl, hP, hK⟩ := hv
  have hl := lv_entry av (n := maxL) hn
  rw [lg_entry_eq]
  exact body p e s m _ below meth c _ B.exec B.bytes B.returns (atoms_spec (ws := ws) B.pre) (findClass_of_methodNamed B.named) B.notSynchronized hml hK hP va_S.rf hl
theorem zz_one {a : Nat} {kd : zz_K} (hP : zz_P E σ H) (hg : E.2.2.1 a = some kd) : va_P E.1 vwCl [(a, zz_ce E.2.1 kd (σ a))] H := fun k q hk => by
  match k, hk with
  | 0, hk => cases hk; exact hP a kd hg
  | k + 1, hk => simp at hk
theorem zz_geti (hexec : p.tables.exec = Jvm.exec) (hb : c.code = cc) {own ref C : String} {T : u_T} {N ci index : Nat} {Ts : List Cond} (hts : ∀ w ∈ Ts, w.before args s = true) (hin : ∀ w ∈ u_ws C T N, w ∈ Ts) (hown : s.vm.findClass own = some m.cls) (hK : zz_Kn E s) (hP : zz_P E σ H) {tpl : List (Option Value)} (hg : E.2.2.1 a = some (.inl (ci, tpl))) (hc : vwCl[ci]? = some (C, T, N)) (k : Nat) (hk : k < N) (hlink : (Cond.fieldLink own index ref (T k).2.1 (T k).2.2.1).before args s = true) (href : (T k).1 = ref) (ht : tpl[k]? = some none) (hdg : decode cc pc = .ok (.getfield index, 3))
    (kk : W p l e R s m args below meth c H locs cells slots Q (F0 m (pc + 3) ls (.int (σ a k) :: rest))) : W p l e R s m args below meth c H locs cells slots Q (F0 m pc ls (.ref a :: rest)) :=
  va_get hexec hb hts hin hown hK.1 (zz_one hP hg) 0 rfl hc k hk hlink (fun x h => by rw [← href]; exact h) (v := .int (σ a k)) (by rw [zz_fs_at, ht]; simp) hdg kk
theorem zz_getr (hexec : p.tables.exec = Jvm.exec) (hb : c.code = cc) {own ref C : String} {T : u_T} {N ci index : Nat} {Ts : List Cond} (hts : ∀ w ∈ Ts, w.before args s = true) (hin : ∀ w ∈ u_ws C T N, w ∈ Ts) (hown : s.vm.findClass own = some m.cls) (hK : zz_Kn E s) (hP : zz_P E σ H) {tpl : List (Option Value)} (hg : E.2.2.1 a = some (.inl (ci, tpl))) (hc : vwCl[ci]? = some (C, T, N)) (k : Nat) (hk : k < N) (hlink : (Cond.fieldLink own index ref (T k).2.1 (T k).2.2.1).before args s = true) (href : (T k).1 = ref) {v : Value} (ht : tpl[k]? = some (some v)) (hdg : decode cc pc = .ok (.getfield index, 3))
    (kk : W p l e R s m args below meth c H locs cells slots Q (F0 m (pc + 3) ls (v :: rest))) : W p l e R s m args below meth c H locs cells slots Q (F0 m pc ls (.ref a :: rest)) :=
  va_get hexec hb hts hin hown hK.1 (zz_one hP hg) 0 rfl hc k hk hlink (fun x h => by rw [← href]; exact h) (v := v) (by rw [zz_fs_at, ht]; simp) hdg kk
theorem zz_P.put {kd : zz_K} {k : Nat} {v : Int32} {H1 : Heap} (h : zz_P E σ H) (hg : E.2.2.1 a = some kd) (he : va_at E.1 vwCl (a, zz_ce E.2.1 kd (upd (σ a) k v)) H1) (oq : ∀ q : Nat, q ≠ a → H1[q]? = H[q]?) : zz_P E (zz_u σ a k v) H1 := by
  intro b kb hb
  by_cases hba : b = a
  · subst hba
    cases hg.symm.trans hb
    rw [zz_ua]
    exact he
  · rw [zz_ub hba]
    exact (h b kb hb).kept (oq b hba)
theorem zz_puti (hexec : p.tables.exec = Jvm.exec) (hb : c.code = cc) {own ref C : String} {T : u_T} {N ci index : Nat} {Ts : List Cond} (hts : ∀ w ∈ Ts, w.before args s = true) (hin : ∀ w ∈ u_ws C T N, w ∈ Ts) (ty0 : Nat → FieldType) (hty : ∀ k, k < N → parseFieldDescriptor (T k).2.2.1 = some (ty0 k)) (hnm : ∀ a, a < N → ∀ b, b < N → a ≠ b → (T a).2.1 ≠ (T b).2.1) (hown : s.vm.findClass own = some m.cls) (hK : zz_Kn E s) (hP : zz_P E σ H) (hS0 : va_S (zz_A E) s.heap H locs) {tpl : List (Option Value)} (hg : E.2.2.1 a = some (.inl (ci, tpl))) (hc : vwCl[ci]? = some (C, T, N)) (k : Nat) (hk : k < N) (hlink : (Cond.fieldLink own index ref (T k).2.1 (T k).2.2.1).before args s = true) (href : (T k).1 = ref) (hfin : (T k).2.2.2 = false) {v : Int32} {ty : FieldType} (hd : parseFieldDescriptor (T k).2.2.1 = some ty) (hnr : narrow ty (.int v) = .int v) (hfit : fits ty (.int v) = true) (ht : tpl[k]? = some none)
    (hdg : decode cc pc = .ok (.putfield index, 3)) (kk : ∀ (σ1 : zz_S) (H1 : Heap) (locs1 : List Loc), σ1 = zz_u σ a k v → zz_P E σ1 H1 → va_S (zz_A E) s.heap H1 locs1 → W p l e R s m args below meth c H1 locs1 cells slots Q (F0 m (pc + 3) ls rest)) : W p l e R s m args below meth c H locs cells slots Q (F0 m pc ls (.int v :: .ref a :: rest)) := by
  have hap := va_apart (own := own) hts hin ty0 hty hnm hK.1 hc
  obtain ⟨r, h1, cell, q1, q2, q3, q4⟩ := hP a _ hg
  have hr : r = (C, T, N) := Option.some.inj (h1.symm.trans hc)
  subst hr
  obtain ⟨hS, hfc, kC, hkC, hkind⟩ := hK.1.1 ci _ hc
  obtain ⟨cf, kf, fi, f, hi, hsl⟩ := hS k hk
  have hlay := hts _ (hin _ (u_in_lay hk))
  unfold u_lay at hlay
  rw [if_neg (by rw [hfin]; decide)] at hlay
  have hst := (u_facts hfc hkC (u_lays hts hin hk) hi).1
  have h6 := u_store hfc hkC hkind hlay hi hd hnr hfit
  have hl : k < (zz_fs tpl 0 (σ a)).length := by rw [zz_fs_len]; exact (List.getElem?_eq_some_iff.mp ht).1
  refine W.putK hexec hb (f := f) ⟨hown, hlink, ⟨_, _, _, by rw [← href]; exact hi⟩, hst⟩ (by rw [q2]; exact h6) q1 q3 (by rw [hsl]; exact k2_hasslot (q4 k hk)) rfl rfl hdg fun H' e1 e2 e3 => ?_
  rw [hsl] at e1 ⊢
  have hA : zz_A E a := fun h => by rw [hg] at h; cases h
  refine kk _ H' _ rfl (hP.put (k := k) (v := v) hg ?_ e3) (hS0.put e2 e3 hA)
  refine ⟨_, hc, t_OB.to (V := updV (vp_V (zz_fs tpl 0 (σ a))) k (.int v)) ⟨_, e1, q2, q3, t_set q4 hap hk (.int v)⟩ (fun j _ => ?_)⟩
  show _ = vp_V (zz_fs tpl 0 (upd (σ a) k v)) j
  rw [← zz_fs_set (σ a) tpl k v ht]
  exact vp_updV_set hl (.int v) j
theorem zz_iald (hexec : p.tables.exec = Jvm.exec) (hb : c.code = cc) (hK : zz_Kn E s) (hP : zz_P E σ H) {n : Nat} (hg : E.2.2.1 a = some (.inr (0, n, none))) {i : Int32} (h1 : 0 ≤ i.toInt) (h2 : i.toInt < n) (hdg : decode cc pc = .ok (.iaload, 1))
    (kk : ∀ j : Nat, (j : Int) = i.toInt → j < n → W p l e R s m args below meth c H locs cells slots Q (F0 m (pc + 1) ls (.int (σ a j) :: rest))) : W p l e R s m args below meth c H locs cells slots Q (F0 m pc ls (.int i :: .ref a :: rest)) := by
  obtain ⟨j, e, hj, hn⟩ := zz_ix h1 h2
  exact va_iald hexec hb hK.1 (zz_one hP hg) 0 0 rfl rfl (vp_in_iff.mpr ⟨h1, h2⟩) hdg (by rw [e]; exact kk j hj hn)
theorem zz_bald (hexec : p.tables.exec = Jvm.exec) (hb : c.code = cc) (hK : zz_Kn E s) (hP : zz_P E σ H) {n : Nat} (hg : E.2.2.1 a = some (.inr (1, n, none))) {i : Int32} (h1 : 0 ≤ i.toInt) (h2 : i.toInt < n) (hdg : decode cc pc = .ok (.baload, 1))
    (kk : ∀ j : Nat, (j : Int) = i.toInt → j < n → W p l e R s m args below meth c H locs cells slots Q (F0 m (pc + 1) ls (.int (σ a j) :: rest))) : W p l e R s m args below meth c H locs cells slots Q (F0 m pc ls (.int i :: .ref a :: rest)) := by
  obtain ⟨j, e, hj, hn⟩ := zz_ix h1 h2
  exact va_bald hexec hb hK.1 (zz_one hP hg) 0 1 rfl rfl (vp_in_iff.mpr ⟨h1, h2⟩) hdg (by rw [e]; exact kk j hj hn)
theorem zz_aald (hexec : p.tables.exec = Jvm.exec) (hb : c.code = cc) (hK : zz_Kn E s) (hP : zz_P E σ H) {n ty b0 st : Nat} {C : String} (hg : E.2.2.1 a = some (.inr (ty, n, some (b0, st)))) (hty : (zz_ty E.2.1)[ty]? = some (E.2.1 ty, .object C)) {i : Int32} (h1 : 0 ≤ i.toInt) (h2 : i.toInt < n) (hdg : decode cc pc = .ok (.aaload, 1))
    (kk : ∀ j : Nat, (j : Int) = i.toInt → j < n → W p l e R s m args below meth c H locs cells slots Q (F0 m (pc + 1) ls (.ref (b0 + st * j) :: rest))) : W p l e R s m args below meth c H locs cells slots Q (F0 m pc ls (.int i :: .ref a :: rest)) := by
  obtain ⟨j, e, hj, hn⟩ := zz_ix h1 h2
  exact va_aldq hexec hb hK.1 (zz_one hP hg) 0 ty rfl hty (vp_in_iff.mpr ⟨h1, h2⟩) hdg (by rw [e]; exact kk j hj hn)
theorem zz_iast (hexec : p.tables.exec = Jvm.exec) (hb : c.code = cc) (hK : zz_Kn E s) (hP : zz_P E σ H) (hS : va_S (zz_A E) s.heap H locs) {n : Nat} (hg : E.2.2.1 a = some (.inr (0, n, none))) {i x : Int32} (h1 : 0 ≤ i.toInt) (h2 : i.toInt < n) (hdg : decode cc pc = .ok (.iastore, 1))
    (kk : ∀ (j : Nat) (σ1 : zz_S) (H1 : Heap) (locs1 : List Loc), (j : Int) = i.toInt → j < n → σ1 = zz_u σ a j x → zz_P E σ1 H1 → va_S (zz_A E) s.heap H1 locs1 → W p l e R s m args below meth c H1 locs1 cells slots Q (F0 m (pc + 1) ls rest)) : W p l e R s m args below meth c H locs cells slots Q (F0 m pc ls (.int x :: .int i :: .ref a :: rest)) := by
  obtain ⟨j, ej, hj, hn⟩ := zz_ix h1 h2
  have hA : zz_A E a := fun h => by rw [hg] at h; cases h
  refine W.iast hexec hb (hP a _ hg) ((hK.1.2 0 _ rfl).1 n (fun j => .int (σ a j))) (fun q => by cases q) (by show ¬ (i < 0 ∨ (arrV _ _ _).slots.size ≤ _); rw [arrV_size]; exact vp_in_iff.mpr ⟨h1, h2⟩) rfl rfl hdg fun H1 e1 z oq => ?_
  refine kk j _ H1 _ hj hn rfl (hP.put (k := j) (v := x) hg ?_ oq) (hS.put z oq hA)
  show H1[a]? = some (vp_cell _ _)
  rw [e1]
  show some (Cell.setSlot (arrV _ _ _) _ _) = some (arrV _ _ _)
  rw [arrV_store, ej]
  congr 2
  funext q
  by_cases hq : q = j
  · subst hq
    simp [updV, upd]
  · simp [updV, upd, hq]
theorem zz_bast (hexec : p.tables.exec = Jvm.exec) (hb : c.code = cc) (hK : zz_Kn E s) (hP : zz_P E σ H) (hS : va_S (zz_A E) s.heap H locs) {n : Nat} (hg : E.2.2.1 a = some (.inr (1, n, none))) {i x : Int32} (h1 : 0 ≤ i.toInt) (h2 : i.toInt < n) (hdg : decode cc pc = .ok (.bastore, 1))
    (kk : ∀ (j : Nat) (σ1 : zz_S) (H1 : Heap) (locs1 : List Loc), (j : Int) = i.toInt → j < n → σ1 = zz_u σ a j (vp_nar .byte x) → zz_P E σ1 H1 → va_S (zz_A E) s.heap H1 locs1 → W p l e R s m args below meth c H1 locs1 cells slots Q (F0 m (pc + 1) ls rest)) : W p l e R s m args below meth c H locs cells slots Q (F0 m pc ls (.int x :: .int i :: .ref a :: rest)) := by
  obtain ⟨j, ej, hj, hn⟩ := zz_ix h1 h2
  have hA : zz_A E a := fun h => by rw [hg] at h; cases h
  refine W.bast hexec hb (hP a _ hg) ((hK.1.2 1 _ rfl).1 n (fun j => .int (σ a j))) (fun q => by cases q) (by show ¬ (i < 0 ∨ (arrV _ _ _).slots.size ≤ _); rw [arrV_size]; exact vp_in_iff.mpr ⟨h1, h2⟩) rfl rfl hdg fun H1 e1 z oq => ?_
  refine kk j _ H1 _ hj hn rfl (hP.put (k := j) (v := vp_nar .byte x) hg ?_ oq) (hS.put z oq hA)
  show H1[a]? = some (vp_cell _ _)
  rw [e1]
  show some (Cell.setSlot (arrV _ _ _) _ _) = some (arrV _ _ _)
  rw [arrV_store, ej]
  congr 2
  funext q
  by_cases hq : q = j
  · subst hq
    simp [updV, upd, vp_nar]
    try rfl
  · simp [updV, upd, hq]
theorem zz_alen (hexec : p.tables.exec = Jvm.exec) (hb : c.code = cc) (hK : zz_Kn E s) (hP : zz_P E σ H) {n ty : Nat} {o : Option (Nat × Nat)} (hg : E.2.2.1 a = some (.inr (ty, n, o))) {q : FieldType} (hty : (zz_ty E.2.1)[ty]? = some (E.2.1 ty, q)) {v : Int32} (hv : Int32.ofNat n = v) (hdg : decode cc pc = .ok (.arraylength, 1))
    (kk : W p l e R s m args below meth c H locs cells slots Q (F0 m (pc + 1) ls (.int v :: rest))) : W p l e R s m args below meth c H locs cells slots Q (F0 m pc ls (.ref a :: rest)) := by
  cases o with
  | none => exact va_alen hexec hb hK.1 (zz_one hP hg) 0 ty rfl hty hv hdg kk
  | some g => exact va_alen hexec hb hK.1 (zz_one hP hg) 0 ty rfl hty hv hdg kk
/-- answers -/
theorem zz_iret {post : Int32 → zz_S → Prop} {v : Int32} (hexec : p.tables.exec = Jvm.exec) (hb : c.code = cc) (hr : meth.sig.returnType = some .int) (hlocks : meth.locks = false) (hK : zz_Kn E s) (hP : zz_P E σ H) (hS : va_S (zz_A E) s.heap H locs) (hdg : decode cc pc = .ok (.ireturn, 1)) (hq : post v σ) : W p l e R s m args below meth c H locs 0 0 (MQ below (va_Qi post (zz_B E) (zz_A E)) args s 0 0 (zz_A E)) (F0 m pc ls [.int v]) :=
  W.iret hexec hb hr (fun t ht hW => ⟨⟨v, σ, rfl, hq, by rw [ht]; exact hP, hK.to hS ht hW.alike⟩, hS.F ht⟩) hS.2.2 hdg hlocks
theorem zz_zret {post : Int32 → zz_S → Prop} {v : Int32} (hexec : p.tables.exec = Jvm.exec) (hb : c.code = cc) (hr : meth.sig.returnType = some .boolean) (hlocks : meth.locks = false) (hK : zz_Kn E s) (hP : zz_P E σ H) (hS : va_S (zz_A E) s.heap H locs) (hdg : decode cc pc = .ok (.ireturn, 1)) (h01 : v = 0 ∨ v = 1) (hq : post v σ) : W p l e R s m args below meth c H locs 0 0 (MQ below (va_Qi post (zz_B E) (zz_A E)) args s 0 0 (zz_A E)) (F0 m pc ls [.int v]) :=
  W.zret hexec hb hr (by rcases h01 with rfl | rfl <;> decide) (fun t ht hW => ⟨⟨v, σ, rfl, hq, by rw [ht]; exact hP, hK.to hS ht hW.alike⟩, hS.F ht⟩) hS.2.2 hdg hlocks
theorem zz_vret {post : zz_S → Prop} (hexec : p.tables.exec = Jvm.exec) (hb : c.code = cc) (hr : meth.sig.returnType = none) (hlocks : meth.locks = false) (hK : zz_Kn E s) (hP : zz_P E σ H) (hS : va_S (zz_A E) s.heap H locs) (hdg : decode cc pc = .ok (.return_, 1)) (hq : post σ) : W p l e R s m args below meth c H locs 0 0 (MQ below (va_Qv post (zz_B E) (zz_A E)) args s 0 0 (zz_A E)) (F0 m pc ls []) :=
  W.vret hexec hb hr (fun t ht hW => ⟨⟨σ, rfl, hq, by rw [ht]; exact hP, hK.to hS ht hW.alike⟩, hS.F ht⟩) hS.2.2 hdg hlocks
/-- calls -/
variable {y : MethodName} {bytes : ByteArray} {maxL nL n index : Nat} {ret : Option FieldType} {ws Ts : List Cond} {rm : Room} {own C : String} {b : Nat} {As st : List Value}
theorem zz_callVi {post : Int32 → zz_S → Prop} (S : CallFix p m c cc nL s args Ts own) (hK : zz_Kn E s) (hP : zz_P E σ H) (hS : va_S (zz_A E) s.heap H locs) (hM : Met l y ws rm (va_Pc (.ref b :: As) (zz_B E σ)) (va_Qi post (zz_B E) (zz_A E)) 0 0 (zz_A E)) (cw : CallW R s args own C index y bytes maxL ret ws rm 0 0 n) {ci : Nat} {tpl : List (Option Value)} (hg : E.2.2.1 b = some (.inl (ci, tpl))) {T : u_T} {N : Nat} (hc : vwCl[ci]? = some (C, T, N)) (hn : As.length = n) (hsize : ls.size = nL) (hst : st = As.reverse ++ .ref b :: rest) (hW : (rest.map fun v => v.category).sum ≤ 8) (hdg : decode cc pc = .ok (.invokevirtual index, 3)) (hf : cells ≤ R.cells ∧ slots ≤ R.slots)
    (kk : ∀ (r : Int32) (σ1 : zz_S) (H1 : Heap) (locs1 : List Loc), post r σ1 → zz_P E σ1 H1 → va_S (zz_A E) s.heap H1 locs1 → W p l e R s m args below meth c H1 locs1 cells slots Q (F0 m (pc + 3) ls (.int r :: rest))) : W p l e R s m args below meth c H locs cells slots Q (F0 m pc ls st) :=
  va_calli (va_runV (g := F0 m pc ls st) S hM cw ⟨zz_blind E σ _, va_recv (ci := ci) hK.1 (zz_one hP hg) hc (q0 := 0) rfl, fun U hU hWm => ⟨rfl, by rw [hU]; exact hP, hK.to hS hU hWm.alike⟩⟩ rfl hn hsize hst (lv_room hW) hdg hf) hS (fun _ _ h => h) (fun _ h => h) (fun r u t H1 locs1 ht hvm hpo hB _ _ hS1 => kk r u H1 locs1 hpo (by rw [← ht]; exact hB.1) hS1)
theorem zz_callVv {post : zz_S → Prop} (S : CallFix p m c cc nL s args Ts own) (hK : zz_Kn E s) (hP : zz_P E σ H) (hS : va_S (zz_A E) s.heap H locs) (hM : Met l y ws rm (va_Pc (.ref b :: As) (zz_B E σ)) (va_Qv post (zz_B E) (zz_A E)) 0 0 (zz_A E)) (cw : CallW R s args own C index y bytes maxL ret ws rm 0 0 n) {ci : Nat} {tpl : List (Option Value)} (hg : E.2.2.1 b = some (.inl (ci, tpl))) {T : u_T} {N : Nat} (hc : vwCl[ci]? = some (C, T, N)) (hn : As.length = n) (hsize : ls.size = nL) (hst : st = As.reverse ++ .ref b :: rest) (hW : (rest.map fun v => v.category).sum ≤ 8) (hdg : decode cc pc = .ok (.invokevirtual index, 3)) (hf : cells ≤ R.cells ∧ slots ≤ R.slots)
    (kk : ∀ (σ1 : zz_S) (H1 : Heap) (locs1 : List Loc), post σ1 → zz_P E σ1 H1 → va_S (zz_A E) s.heap H1 locs1 → W p l e R s m args below meth c H1 locs1 cells slots Q (F0 m (pc + 3) ls rest)) : W p l e R s m args below meth c H locs cells slots Q (F0 m pc ls st) :=
  va_callv (va_runV (g := F0 m pc ls st) S hM cw ⟨zz_blind E σ _, va_recv (ci := ci) hK.1 (zz_one hP hg) hc (q0 := 0) rfl, fun U hU hWm => ⟨rfl, by rw [hU]; exact hP, hK.to hS hU hWm.alike⟩⟩ rfl hn hsize hst (lv_room hW) hdg hf) hS (fun _ _ h => h) (fun _ h => h) (fun u t H1 locs1 ht hvm hpo hB _ _ hS1 => kk u H1 locs1 hpo (by rw [← ht]; exact hB.1) hS1)
theorem zz_callSi {post : Int32 → zz_S → Prop} (S : CallFix p m c cc nL s args Ts own) (hK : zz_Kn E s) (hP : zz_P E σ H) (hS : va_S (zz_A E) s.heap H locs) (hM : Met l y ws rm (va_Pc As (zz_B E σ)) (va_Qi post (zz_B E) (zz_A E)) 0 0 (zz_A E)) (cw : CallB R s args own index y bytes maxL ret ws rm 0 0 n ∧ (Cond.static y).before args s = true) (hn : As.length = n) (hsize : ls.size = nL) (hst : st = As.reverse ++ rest) (hW : (rest.map fun v => v.category).sum ≤ 8) (hdg : decode cc pc = .ok (.invokestatic index, 3)) (hf : cells ≤ R.cells ∧ slots ≤ R.slots)
    (kk : ∀ (r : Int32) (σ1 : zz_S) (H1 : Heap) (locs1 : List Loc), post r σ1 → zz_P E σ1 H1 → va_S (zz_A E) s.heap H1 locs1 → W p l e R s m args below meth c H1 locs1 cells slots Q (F0 m (pc + 3) ls (.int r :: rest))) : W p l e R s m args below meth c H locs cells slots Q (F0 m pc ls st) :=
  va_calli (va_runS (g := F0 m pc ls st) S hM cw ⟨zz_blind E σ _, fun U hU hWm => ⟨rfl, by rw [hU]; exact hP, hK.to hS hU hWm.alike⟩⟩ rfl hn hsize hst (lv_room hW) hdg hf) hS (fun _ _ h => h) (fun _ h => h) (fun r u t H1 locs1 ht hvm hpo hB _ _ hS1 => kk r u H1 locs1 hpo (by rw [← ht]; exact hB.1) hS1)
theorem zz_callSv {post : zz_S → Prop} (S : CallFix p m c cc nL s args Ts own) (hK : zz_Kn E s) (hP : zz_P E σ H) (hS : va_S (zz_A E) s.heap H locs) (hM : Met l y ws rm (va_Pc As (zz_B E σ)) (va_Qv post (zz_B E) (zz_A E)) 0 0 (zz_A E)) (cw : CallB R s args own index y bytes maxL ret ws rm 0 0 n ∧ (Cond.static y).before args s = true) (hn : As.length = n) (hsize : ls.size = nL) (hst : st = As.reverse ++ rest) (hW : (rest.map fun v => v.category).sum ≤ 8) (hdg : decode cc pc = .ok (.invokestatic index, 3)) (hf : cells ≤ R.cells ∧ slots ≤ R.slots)
    (kk : ∀ (σ1 : zz_S) (H1 : Heap) (locs1 : List Loc), post σ1 → zz_P E σ1 H1 → va_S (zz_A E) s.heap H1 locs1 → W p l e R s m args below meth c H1 locs1 cells slots Q (F0 m (pc + 3) ls rest)) : W p l e R s m args below meth c H locs cells slots Q (F0 m pc ls st) :=
  va_callv (va_runS (g := F0 m pc ls st) S hM cw ⟨zz_blind E σ _, fun U hU hWm => ⟨rfl, by rw [hU]; exact hP, hK.to hS hU hWm.alike⟩⟩ rfl hn hsize hst (lv_room hW) hdg hf) hS (fun _ _ h => h) (fun _ h => h) (fun u t H1 locs1 ht hvm hpo hB _ _ hS1 => kk u H1 locs1 hpo (by rw [← ht]; exact hB.1) hS1)
end ZZ
