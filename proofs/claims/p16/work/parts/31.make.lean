/-! ===== the making of the cells: all from b on lie one behind another, at a lies G a, the next one is z ===== -/
def kb_u (G : Nat → va_E) (a : Nat) (en : va_E) : Nat → va_E := fun q => if q = a then en else G q
theorem kb_us {G : Nat → va_E} {a : Nat} {en : va_E} : kb_u G a en a = en := by simp [kb_u]
theorem kb_un {G : Nat → va_E} {a q : Nat} {en : va_E} (h : q ≠ a) : kb_u G a en q = G q := by simp [kb_u, h]
def kb_P (D : va_G) (b : Nat) (G : Nat → va_E) (z : Nat) (H : Heap) : Prop := H.size = z ∧ b ≤ z ∧ ∀ a : Nat, b ≤ a → a < z → va_at D vwCl (a, G a) H
def kb_N (U : State) : Prop := va_AO RX0 U ∧ va_AO RX1 U ∧ va_AO RX6 U ∧ va_AO RX3 U ∧ va_Nw (.methodLinkNest RX2 44 yX0_init "NoonLaw") U ∧ va_Nw (.methodLinkNest RX2 45 yX1_init "NoonLaw") U ∧ va_Nw (.methodLinkNest RX2 46 yX6_init "NoonLaw") U ∧ va_Nw (.methodLinkNest RX8 27 yX5_init "NoonLaw") U ∧ va_Nw (.methodLinkNest RX8 34 yX7_init "NoonLaw") U ∧ va_Nw (.methodLinkNest RX8 41 yX4_init "NoonLaw") U ∧ va_Nw (.methodLinkNest RX8 56 yX3_init "NoonLaw") U
theorem kb_N.to {s U : State} (h : kb_N s) (hW : s.WarmedH U.vm) : kb_N U := by
  obtain ⟨a0, a1, a2, a3, n0, n1, n2, n3, n4, n5, n6⟩ := h
  exact ⟨va_AO.moved hW.alike a0, va_AO.moved hW.alike a1, va_AO.moved hW.alike a2, va_AO.moved hW.alike a3, va_Nw.warmM hW n0, va_Nw.warmM hW n1, va_Nw.warmM hW n2, va_Nw.warmM hW n3, va_Nw.warmM hW n4, va_Nw.warmM hW n5, va_Nw.warmM hW n6⟩
theorem kb_N.same {u U : State} (h : kb_N u) (e : u.vm = U.vm) : kb_N U := by
  obtain ⟨a0, a1, a2, a3, n0, n1, n2, n3, n4, n5, n6⟩ := h
  have hv : u.vm.Alike U.vm := by rw [e]; exact Vm.Alike.refl _
  exact ⟨va_AO.moved hv a0, va_AO.moved hv a1, va_AO.moved hv a2, va_AO.moved hv a3, va_Nw.same rfl e n0, va_Nw.same rfl e n1, va_Nw.same rfl e n2, va_Nw.same rfl e n3, va_Nw.same rfl e n4, va_Nw.same rfl e n5, va_Nw.same rfl e n6⟩
def kb_K (D : va_G) (cy : Nat → ClassId) (U : State) : Prop := va_K D vwCl (zz_ty cy) U ∧ kb_N U
def kb_B (D : va_G) (cy : Nat → ClassId) (b : Nat) (G : Nat → va_E) (z : Nat) (U : State) : Prop := kb_P D b G z U.heap ∧ kb_K D cy U
theorem kb_K.to {D : va_G} {cy : Nat → ClassId} {s U : State} (h : kb_K D cy s) (hW : s.WarmedH U.vm) : kb_K D cy U := ⟨va_K.moved hW.alike h.1, h.2.to hW⟩
theorem kb_blind (D : va_G) (cy : Nat → ClassId) (b : Nat) (G : Nat → va_E) (z : Nat) (av : List Value) : FrameBlind (va_Pc av (kb_B D cy b G z)) := fun a U g mk q => by
  obtain ⟨q0, qP, qK, qN⟩ := q
  exact ⟨q0, qP, va_K.moved (u := U) (U := U.calling g mk a) (Vm.Alike.refl U.vm) qK, qN.same rfl⟩
theorem kb_one {D : va_G} {b : Nat} {G : Nat → va_E} {z : Nat} {H : Heap} (hP : kb_P D b G z H) {a : Nat} (h1 : b ≤ a) (h2 : a < z) {en : va_E} (hg : G a = en) : va_P D vwCl [(a, en)] H := fun k q hk => by
  match k, hk with
  | 0, hk => cases hk; rw [← hg]; exact hP.2.2 a h1 h2
  | k + 1, hk => simp at hk
theorem kb_P.put {D : va_G} {b : Nat} {G : Nat → va_E} {z : Nat} {H H1 : Heap} (hP : kb_P D b G z H) {a : Nat} {en : va_E} (he : va_at D vwCl (a, en) H1) (hz : H1.size = H.size) (oq : ∀ q : Nat, q ≠ a → H1[q]? = H[q]?) : kb_P D b (kb_u G a en) z H1 := by
  refine ⟨hz.trans hP.1, hP.2.1, fun q h1 h2 => ?_⟩
  by_cases hq : q = a
  · subst hq
    rw [kb_us]
    exact he
  · rw [kb_un hq]
    exact (hP.2.2 q h1 h2).kept (oq q hq)
theorem kb_P.push {D : va_G} {b : Nat} {G : Nat → va_E} {z : Nat} {H H1 : Heap} (hP : kb_P D b G z H) {en : va_E} (he : va_at D vwCl (z, en) H1) (hz : H1.size = z + 1) (oq : ∀ q : Nat, q < z → H1[q]? = H[q]?) : kb_P D b (kb_u G z en) (z + 1) H1 := by
  refine ⟨hz, Nat.le_succ_of_le hP.2.1, fun q h1 h2 => ?_⟩
  by_cases hq : q = z
  · subst hq
    rw [kb_us]
    exact he
  · rw [kb_un hq]
    exact (hP.2.2 q h1 (by omega)).kept (oq q (by omega))
theorem kb_S.push {b z : Nat} {H0 H H1 : Heap} {locs : List Loc} (hS : va_S (fun q : Nat => b ≤ q) H0 H locs) (hz0 : H.size = z) (hz : H1.size = z + 1) (oq : ∀ q : Nat, q < z → H1[q]? = H[q]?) : va_S (fun q : Nat => b ≤ q) H0 H1 locs :=
  ⟨Nat.le_trans hS.1 (by omega), fun x h1 h2 => (oq x (Nat.lt_of_lt_of_le h1 (by rw [← hz0]; exact hS.1))).trans (hS.2.1 x h1 h2), hS.2.2⟩
section ZB
variable {p : Program} {l : Launch} {e : Env} {R : Room} {s : State} {m : MethodId} {args : Array Value} {below : List Frame} {meth : Method} {c : Code} {H : Heap} {locs : List Loc} {cells slots : Nat} {Q : State → Prop}
variable {cc : ByteArray} {pc : Nat} {ls : Array Slot} {rest : List Value} {D : va_G} {cy : Nat → ClassId} {b : Nat} {G : Nat → va_E} {z : Nat} {a : Nat}
theorem kb_met {y : MethodName} {ws ws' : List Cond} {rm : Room} {maxL : Nat} {av : List Value} {Qc : Array Value → State → Outcome → State → Prop} {mc ms : Nat} (hy : plainName y.cls = true) (hw : ws = Cond.code y cc maxL none :: ws') (hn : (lg_sl av).length ≤ maxL)
    (body : ∀ (p : Program) (e : Env) (s : State) (m : MethodId) (args : Array Value) (below : List Frame) (meth : Method) (c : Code) (ls : Array Slot), p.tables.exec = Jvm.exec → c.code = cc → meth.sig.returnType = none → (∀ w ∈ ws, w.before args s = true) → s.vm.findClass y.cls = some m.cls → meth.locks = false → c.maxLocals = maxL → meth.name = y.name → kb_K D cy s → kb_P D b G z s.heap → va_S (fun q : Nat => b ≤ q) s.heap s.heap [] → lv_has ls maxL (lv_args 0 av) →
      W p l e (headSpec ws rm).room s m args below meth c s.heap [] 0 0 (MQ below Qc args s mc ms (fun q : Nat => b ≤ q)) (F0 m 0 ls [])) : Met l y ws rm (va_Pc av (kb_B D cy b G z)) Qc mc ms (fun q : Nat => b ≤ q) := by
  refine Met.ofW (cc := cc) (maxL := maxL) (ret := none) hy hw ?_
  intro p e s m args below meth c s₁ B hml hv
  obtain ⟨rfl, hP, hK⟩ := hv
  have hl := lv_entry av (n := maxL) hn
  rw [lg_entry_eq]
  exact body p e s m _ below meth c _ B.exec B.bytes B.returns (atoms_spec (ws := ws) B.pre) (findClass_of_methodNamed B.named) B.notSynchronized hml (name_of_methodNamed B.named B.method).1 hK hP va_S.rf hl
theorem kb_vret {post : (Nat → va_E) → Prop} (hexec : p.tables.exec = Jvm.exec) (hb : c.code = cc) (hr : meth.sig.returnType = none) (hlocks : meth.locks = false) (hK : kb_K D cy s) (hP : kb_P D b G z H) (hS : va_S (fun q : Nat => b ≤ q) s.heap H locs) (hdg : decode cc pc = .ok (.return_, 1)) (hq : post G) : W p l e R s m args below meth c H locs cells slots (MQ below (va_Qv post (fun G1 => kb_B D cy b G1 z) (fun q : Nat => b ≤ q)) args s cells slots (fun q : Nat => b ≤ q)) (F0 m pc ls []) :=
  W.vret hexec hb hr (fun t ht hW => ⟨⟨G, rfl, hq, by rw [ht]; exact hP, hK.to hW⟩, hS.F ht⟩) hS.2.2 hdg hlocks
theorem kb_get (hexec : p.tables.exec = Jvm.exec) (hb : c.code = cc) {own ref C : String} {T : u_T} {N ci index : Nat} {Ts : List Cond} (hts : ∀ w ∈ Ts, w.before args s = true) (hin : ∀ w ∈ u_ws C T N, w ∈ Ts) (hown : s.vm.findClass own = some m.cls) (hK : kb_K D cy s) (hP : kb_P D b G z H) (h1 : b ≤ a) (h2 : a < z) {fs : List Value} (hg : G a = .inr (ci, fs)) (hc : vwCl[ci]? = some (C, T, N)) (k : Nat) (hk : k < N) (hlink : (Cond.fieldLink own index ref (T k).2.1 (T k).2.2.1).before args s = true) (href : (T k).1 = ref) {v : Value} (hv : fs[k]? = some v) (hdg : decode cc pc = .ok (.getfield index, 3))
    (kk : W p l e R s m args below meth c H locs cells slots Q (F0 m (pc + 3) ls (v :: rest))) : W p l e R s m args below meth c H locs cells slots Q (F0 m pc ls (.ref a :: rest)) :=
  va_get hexec hb hts hin hown hK.1 (kb_one hP h1 h2 hg) 0 rfl hc k hk hlink (fun x h => by rw [← href]; exact h) (v := v) hv hdg kk
theorem kb_puti (hexec : p.tables.exec = Jvm.exec) (hb : c.code = cc) {own ref C : String} {T : u_T} {N ci index : Nat} {Ts : List Cond} (hts : ∀ w ∈ Ts, w.before args s = true) (hin : ∀ w ∈ u_ws C T N, w ∈ Ts) (ty0 : Nat → FieldType) (hty : ∀ k, k < N → parseFieldDescriptor (T k).2.2.1 = some (ty0 k)) (hnm : ∀ a, a < N → ∀ b, b < N → a ≠ b → (T a).2.1 ≠ (T b).2.1) (hown : s.vm.findClass own = some m.cls) (hK : kb_K D cy s) (hP : kb_P D b G z H) (hS0 : va_S (fun q : Nat => b ≤ q) s.heap H locs) (h1 : b ≤ a) (h2 : a < z) {fs : List Value} (hg : G a = .inr (ci, fs)) (hc : vwCl[ci]? = some (C, T, N)) (k : Nat) (hk : k < N) (hlink : (Cond.fieldLink own index ref (T k).2.1 (T k).2.2.1).before args s = true) (href : (T k).1 = ref) (hfin : (T k).2.2.2 = false) {v : Value} {ty : FieldType} (hd : parseFieldDescriptor (T k).2.2.1 = some ty) (hnr : narrow ty v = v) (hfit : fits ty v = true) (hl : k < fs.length)
    (hdg : decode cc pc = .ok (.putfield index, 3)) (kk : ∀ (H1 : Heap) (locs1 : List Loc), kb_P D b (kb_u G a (.inr (ci, fs.set k v))) z H1 → va_S (fun q : Nat => b ≤ q) s.heap H1 locs1 → W p l e R s m args below meth c H1 locs1 cells slots Q (F0 m (pc + 3) ls rest)) : W p l e R s m args below meth c H locs cells slots Q (F0 m pc ls (v :: .ref a :: rest)) := by
  have hap := va_apart (own := own) hts hin ty0 hty hnm hK.1 hc
  obtain ⟨r, hr1, cell, q1, q2, q3, q4⟩ := kb_one hP h1 h2 hg 0 _ rfl
  have hr : r = (C, T, N) := Option.some.inj (hr1.symm.trans hc)
  subst hr
  obtain ⟨hS, hfc, kC, hkC, hkind⟩ := hK.1.1 ci _ hc
  obtain ⟨cf, kf, fi, f, hi, hsl⟩ := hS k hk
  have hlay := hts _ (hin _ (u_in_lay hk))
  unfold u_lay at hlay
  rw [if_neg (by rw [hfin]; decide)] at hlay
  have hst := (u_facts hfc hkC (u_lays hts hin hk) hi).1
  have h6 := u_store hfc hkC hkind hlay hi hd hnr hfit
  refine W.putK hexec hb (f := f) ⟨hown, hlink, ⟨_, _, _, by rw [← href]; exact hi⟩, hst⟩ (by rw [q2]; exact h6) q1 q3 (by rw [hsl]; exact k2_hasslot (q4 k hk)) rfl rfl hdg fun H' e1 e2 e3 => ?_
  rw [hsl] at e1 ⊢
  refine kk H' _ (hP.put ?_ e2 e3) (hS0.put e2 e3 h1)
  exact ⟨_, hc, t_OB.to (V := updV (vp_V fs) k v) ⟨_, e1, q2, q3, t_set q4 hap hk v⟩ (fun j _ => vp_updV_set hl v j)⟩
theorem kb_putF (hexec : p.tables.exec = Jvm.exec) (hb : c.code = cc) {own ref C : String} {T : u_T} {N ci index : Nat} {Ts : List Cond} (hts : ∀ w ∈ Ts, w.before args s = true) (hin : ∀ w ∈ u_ws C T N, w ∈ Ts) (ty0 : Nat → FieldType) (hty : ∀ k, k < N → parseFieldDescriptor (T k).2.2.1 = some (ty0 k)) (hnm : ∀ a, a < N → ∀ b, b < N → a ≠ b → (T a).2.1 ≠ (T b).2.1) (hown : s.vm.findClass own = some m.cls) (hK : kb_K D cy s) (hP : kb_P D b G z H) (hS0 : va_S (fun q : Nat => b ≤ q) s.heap H locs) (h1 : b ≤ a) (h2 : a < z) {fs : List Value} (hg : G a = .inr (ci, fs)) (hc : vwCl[ci]? = some (C, T, N)) (k : Nat) (hk : k < N) (hlink : (Cond.fieldLink own index ref (T k).2.1 (T k).2.2.1).before args s = true) (href : (T k).1 = ref) (hfin : (T k).2.2.2 = true) (hin2 : meth.name = "<init>") (hdecl : (T k).1 = own) {v : Value} {ty : FieldType} (hd : parseFieldDescriptor (T k).2.2.1 = some ty) (hnr : narrow ty v = v) (hfit : fits ty v = true) (hl : k < fs.length)
    (hdg : decode cc pc = .ok (.putfield index, 3)) (kk : ∀ (H1 : Heap) (locs1 : List Loc), kb_P D b (kb_u G a (.inr (ci, fs.set k v))) z H1 → va_S (fun q : Nat => b ≤ q) s.heap H1 locs1 → W p l e R s m args below meth c H1 locs1 cells slots Q (F0 m (pc + 3) ls rest)) : W p l e R s m args below meth c H locs cells slots Q (F0 m pc ls (v :: .ref a :: rest)) := by
  have hap := va_apart (own := own) hts hin ty0 hty hnm hK.1 hc
  obtain ⟨r, hr1, cell, q1, q2, q3, q4⟩ := kb_one hP h1 h2 hg 0 _ rfl
  have hr : r = (C, T, N) := Option.some.inj (hr1.symm.trans hc)
  subst hr
  obtain ⟨hS, hfc, kC, hkC, hkind⟩ := hK.1.1 ci _ hc
  obtain ⟨cf, kf, fi, f, hi, hsl⟩ := hS k hk
  have hlay := hts _ (hin _ (u_in_lay hk))
  unfold u_lay at hlay
  rw [if_pos hfin] at hlay
  have hst := (u_facts hfc hkC (u_lays hts hin hk) hi).1
  have hcf : m.cls = cf := by
    obtain ⟨_, _, c', _, _, _, -, -, hf', -, -, -, hown2, -⟩ := Cond.laysFinal_spec hlay
    have e1 : c' = cf := by have := hi.symm.trans hf'; simp at this; exact this.1.symm
    rw [hdecl] at hown2
    rw [← e1]; exact Option.some.inj (hown.symm.trans hown2)
  have h6 := u_fits hfc hkC hkind (Or.inr hlay) hi hd hnr hfit
  refine W.putFinK hexec hb hown hlink (by rw [← href]; exact hi) hst hcf hin2 (by rw [q2]; exact h6) q1 q3 (by rw [hsl]; exact k2_hasslot (q4 k hk)) rfl rfl hdg fun H' e1 e2 e3 => ?_
  rw [hsl] at e1 ⊢
  refine kk H' _ (hP.put ?_ e2 e3) (hS0.put e2 e3 h1)
  exact ⟨_, hc, t_OB.to (V := updV (vp_V fs) k v) ⟨_, e1, q2, q3, t_set q4 hap hk v⟩ (fun j _ => vp_updV_set hl v j)⟩
theorem kb_new (hexec : p.tables.exec = Jvm.exec) (hb : c.code = cc) {own C : String} {T : u_T} {N ci index : Nat} {Ts : List Cond} (hts : ∀ w ∈ Ts, w.before args s = true) (hin : ∀ w ∈ u_ws C T N, w ∈ Ts) (ty : Nat → FieldType) (hty : ∀ k, k < N → parseFieldDescriptor (T k).2.2.1 = some (ty k)) (hown : s.vm.findClass own = some m.cls) (hcl : (Cond.classLink own index C).before args s = true) (hinst : (Cond.instantiable C N).before args s = true) (hini : (Cond.initialized C).before args s = true)
    (hK : kb_K D cy s) (hP : kb_P D b G z H) (hS : va_S (fun q : Nat => b ≤ q) s.heap H locs) (hc : vwCl[ci]? = some (C, T, N)) (fs : List Value) (hfs : ∀ j, j < N → defaultValue (ty j) = vp_V fs j) (hcells : cells + 1 ≤ R.cells) (hslots : slots + N ≤ R.slots) (hdg : decode cc pc = .ok (.new index, 3))
    (kk : ∀ (H1 : Heap), kb_P D b (kb_u G z (.inr (ci, fs))) (z + 1) H1 → va_S (fun q : Nat => b ≤ q) s.heap H1 locs → W p l e R s m args below meth c H1 locs (cells + 1) (slots + N) Q (F0 m (pc + 3) ls (.ref z :: rest))) : W p l e R s m args below meth c H locs cells slots Q (F0 m pc ls rest) := by
  have hKn := hK.1.1 ci _ hc
  have hz := hP.1
  refine W.newcK hexec hb hown hcl hinst hini rfl hdg hcells hslots hKn.2.1 hz fun H1 kC hkC e1 z1 o1 => ?_
  exact kk H1 (hP.push ⟨_, hc, (u_born ty hts hin hKn hkC e1 hty).to hfs⟩ z1 o1) (kb_S.push hS hz z1 o1)
theorem kb_newa (hexec : p.tables.exec = Jvm.exec) (hb : c.code = cc) {atype : ArrayType} (harr : (Cond.arrayClass (newarray.typeOf atype)).before args s = true) (t : Nat) {ty : FieldType} (hty : newarray.typeOf atype = ty) (ht : (zz_ty cy)[t]? = some (cy t, ty)) (hra : ∀ U cA, va_RA U cA ty → U.vm.findClass ("[" ++ ty.toString) = some cA) (hK : kb_K D cy s) (hP : kb_P D b G z H) (hS : va_S (fun q : Nat => b ≤ q) s.heap H locs)
    {n : Int32} {N' : Nat} (hdv : defaultValue ty = .int 0) (hn : ¬ n < 0) (hN : n.toNatClampNeg = N') (hbytes : N' * componentBytes ty ≤ 536870912) (hcells : cells + 1 ≤ R.cells) (hslots : slots + N' ≤ R.slots) (hdg : decode cc pc = .ok (.newarray atype, 2))
    (kk : ∀ (H1 : Heap), kb_P D b (kb_u G z (.inl (cy t, N', .inl (fun _ => 0)))) (z + 1) H1 → va_S (fun q : Nat => b ≤ q) s.heap H1 locs → W p l e R s m args below meth c H1 locs (cells + 1) (slots + N') Q (F0 m (pc + 2) ls (.ref z :: rest))) : W p l e R s m args below meth c H locs cells slots Q (F0 m pc ls (.int n :: rest)) := by
  subst hty
  have hz := hP.1
  refine va_newaK hexec hb harr rfl hdg rfl hn hN hbytes hcells hslots hz fun H1 cA e1 z1 o1 hAr hNm => ?_
  have hcA : cA = cy t := Option.some.inj (hNm.symm.trans (hra _ _ (hK.1.2 t _ ht).2))
  subst hcA
  refine kk H1 (hP.push ?_ z1 o1) (kb_S.push hS hz z1 o1)
  show H1[z]? = some (vp_cell (cy t) (N', .inl (fun _ => 0)))
  rw [e1, hdv]
  rfl
theorem kb_newq (hexec : p.tables.exec = Jvm.exec) (hb : c.code = cc) {own C : String} {index : Nat} (hown : s.vm.findClass own = some m.cls) (hclink : (Cond.classLink own index C).before args s = true) (hover : va_AO C s) (t : Nat) (ht : (zz_ty cy)[t]? = some (cy t, .object C)) (hK : kb_K D cy s) (hP : kb_P D b G z H) (hS : va_S (fun q : Nat => b ≤ q) s.heap H locs)
    {n : Int32} {N' : Nat} (hn : ¬ n < 0) (hN : n.toNatClampNeg = N') (hbytes : N' * 4 ≤ 536870912) (hcells : cells + 1 ≤ R.cells) (hslots : slots + N' ≤ R.slots) (hdg : decode cc pc = .ok (.anewarray index, 3))
    (kk : ∀ (H1 : Heap), kb_P D b (kb_u G z (.inl (cy t, N', .inr (.inr (.inr (.inr (fun _ => none))))))) (z + 1) H1 → va_S (fun q : Nat => b ≤ q) s.heap H1 locs → W p l e R s m args below meth c H1 locs (cells + 1) (slots + N') Q (F0 m (pc + 3) ls (.ref z :: rest))) : W p l e R s m args below meth c H locs cells slots Q (F0 m pc ls (.int n :: rest)) := by
  subst hN
  have hz := hP.1
  refine W.anew hexec hb hown hclink (va_AO.use hover) rfl hdg rfl hn hbytes hcells hslots fun cA kA comp f1 f2 f3 f4 => ?_
  obtain ⟨kA', comp', r1, r2, r3, r4⟩ := (hK.1.2 t _ ht).2
  have hcA : cA = cy t := Option.some.inj (f1.symm.trans r4)
  subst hcA
  generalize hH1 : H.push ({ cls := cy t, slots := Array.replicate n.toNatClampNeg .null, vm := .none } : Cell) = H1
  have z1 : H1.size = z + 1 := by rw [← hH1, Array.size_push, hz]
  have e1 : H1[z]? = some (arrV (cy t) n.toNatClampNeg (fun _ => .null)) := by rw [← hH1, ← hz, Array.getElem?_push_size, ← arrV_new]
  have o1 : ∀ q : Nat, q < z → H1[q]? = H[q]? := fun q hq => by rw [← hH1, Array.getElem?_push, if_neg (Nat.ne_of_lt (by rw [hz]; exact hq))]
  rw [hz]
  refine kk H1 (hP.push ?_ z1 o1) (kb_S.push hS hz z1 o1)
  show H1[z]? = some (vp_cell (cy t) _)
  rw [e1]
  rfl
theorem kb_aast (hexec : p.tables.exec = Jvm.exec) (hb : c.code = cc) (hK : kb_K D cy s) (hP : kb_P D b G z H) (hS : va_S (fun q : Nat => b ≤ q) s.heap H locs) (h1 : b ≤ a) (h2 : a < z) (t ci : Nat) {r : vw_C} {n v : Nat} {vs : List Value} {f : Nat → Option Nat} (hg : G a = .inl (cy t, n, .inr (.inr (.inr (.inr f))))) (ht : (zz_ty cy)[t]? = some (cy t, .object r.1)) (v1 : b ≤ v) (v2 : v < z) (hv : G v = .inr (ci, vs)) (hc : vwCl[ci]? = some r) {i : Int32} (i1 : 0 ≤ i.toInt) (i2 : i.toInt < n) (hdg : decode cc pc = .ok (.aastore, 1))
    (kk : ∀ (j : Nat) (H1 : Heap) (locs1 : List Loc), (j : Int) = i.toInt → j < n → kb_P D b (kb_u G a (.inl (cy t, n, .inr (.inr (.inr (.inr (va_up f j (some v)))))))) z H1 → va_S (fun q : Nat => b ≤ q) s.heap H1 locs1 → W p l e R s m args below meth c H1 locs1 cells slots Q (F0 m (pc + 1) ls rest)) : W p l e R s m args below meth c H locs cells slots Q (F0 m pc ls (.ref v :: .int i :: .ref a :: rest)) := by
  obtain ⟨j, ej, hj, hjn⟩ := zz_ix i1 i2
  have h0 : ¬ i < 0 := fun q => by
    have := zz_ltT q
    rw [zk_0] at this
    omega
  obtain ⟨r', hr', cellV, g1, g2, g3, -⟩ := kb_one hP v1 v2 hv 0 _ rfl
  have hcls := (hK.1.1 ci r hc).2
  obtain ⟨kA, comp, k1, k2, k3, -⟩ := (hK.1.2 t _ ht).2
  have hcomp : comp = D.1 ci := Option.some.inj (k3.symm.trans hcls.1)
  subst hcomp
  obtain ⟨kC, hkC, -⟩ := hcls.2
  refine W.aast hexec hb (kb_one hP h1 h2 hg 0 _ rfl) (fun q h => by cases h) (fun h => by cases h) k1 k2 rfl hkC ⟨h0, by show _ < (arrV _ _ _).slots.size; rw [arrV_size, ej]; exact hjn⟩ g1 (fun q h => by rw [g3] at h; cases h) (by rw [g2]; exact hkC) (by rw [g2]; exact va_assign hcls) rfl rfl hdg fun H1 e z1 oq => ?_
  refine kk j H1 _ hj hjn (hP.put ?_ z1 oq) (hS.put z1 oq h1)
  show H1[a]? = some (vp_cell _ _)
  rw [e]
  rw [vp_cell_q, vp_cell_q, arrV_store, ej]
  congr 2
  funext q
  by_cases hq : q = j
  · subst hq
    simp [updV, va_up, va_rf]
  · simp [updV, va_up, hq]
theorem kb_iast (hexec : p.tables.exec = Jvm.exec) (hb : c.code = cc) (hK : kb_K D cy s) (hP : kb_P D b G z H) (hS : va_S (fun q : Nat => b ≤ q) s.heap H locs) (h1 : b ≤ a) (h2 : a < z) {n : Nat} {f : Nat → Int32} (hg : G a = .inl (cy 0, n, .inl f)) {i x : Int32} (j : Nat) (hi : i.toInt = (j : Int)) (hjn : j < n) (hdg : decode cc pc = .ok (.iastore, 1))
    (kk : ∀ (H1 : Heap) (locs1 : List Loc), kb_P D b (kb_u G a (.inl (cy 0, n, .inl (upd f j x)))) z H1 → va_S (fun q : Nat => b ≤ q) s.heap H1 locs1 → W p l e R s m args below meth c H1 locs1 cells slots Q (F0 m (pc + 1) ls rest)) : W p l e R s m args below meth c H locs cells slots Q (F0 m pc ls (.int x :: .int i :: .ref a :: rest)) := by
  have ej : i.toNatClampNeg = j := by
    show i.toInt.toNat = j
    omega
  refine W.iast hexec hb (kb_one hP h1 h2 hg 0 _ rfl) ((hK.1.2 0 _ rfl).1 n (fun j => .int (f j))) (fun q => by cases q) (by show ¬ (i < 0 ∨ (arrV _ _ _).slots.size ≤ _); rw [arrV_size]; exact (vp_in_iff (n := n)).mpr ⟨by omega, by omega⟩) rfl rfl hdg fun H1 e1 z1 oq => ?_
  refine kk H1 _ (hP.put ?_ z1 oq) (hS.put z1 oq h1)
  show H1[a]? = some (vp_cell _ _)
  rw [e1]
  show some (Cell.setSlot (vp_cell (cy 0) (n, .inl f)) _ _) = some (vp_cell (cy 0) (n, .inl (upd f j x)))
  rw [vp_cell_i, vp_cell_i, arrV_store, ej]
  congr 2
  funext q
  by_cases hq : q = j
  · subst hq
    simp [updV, upd]
  · simp [updV, upd, hq]
variable {y : MethodName} {bytes : ByteArray} {maxL nL n index mc ms : Nat} {ws Ts : List Cond} {rm : Room} {own : String} {q z1 : Nat}
theorem kb_callI {post : (Nat → va_E) → Prop} (S : CallFix p m c cc nL s args Ts own) (hK : kb_K D cy s) (hP : kb_P D b G z H) (hS : va_S (fun q : Nat => b ≤ q) s.heap H locs) (hM : Met l y ws rm (va_Pc [.ref q] (kb_B D cy b G z)) (va_Qv post (fun G1 => kb_B D cy b G1 z1) (fun q : Nat => b ≤ q)) mc ms (fun q : Nat => b ≤ q)) (cw : CallB R s args own index y bytes maxL none ws rm mc ms 0 ∧ y.name = "<init>" ∧ (Cond.instanceMethod y).before args s = true) (hsize : ls.size = nL) (hW : (rest.map fun v => v.category).sum ≤ 8) (hdg : decode cc pc = .ok (.invokespecial index, 3)) (hf : cells + mc ≤ R.cells ∧ slots + ms ≤ R.slots)
    (kk : ∀ (G1 : Nat → va_E) (H1 : Heap) (locs1 : List Loc), post G1 → kb_P D b G1 z1 H1 → va_S (fun q : Nat => b ≤ q) s.heap H1 locs1 → W p l e R s m args below meth c H1 locs1 (cells + mc) (slots + ms) Q (F0 m (pc + 3) ls rest)) : W p l e R s m args below meth c H locs cells slots Q (F0 m pc ls (.ref q :: rest)) :=
  va_callv (va_runI (As := []) (g := F0 m pc ls (.ref q :: rest)) S hM cw ⟨kb_blind D cy b G z _, fun U hU hWm => ⟨rfl, by rw [hU]; exact hP, hK.to hWm⟩⟩ rfl rfl hsize rfl (lv_room hW) hdg hf) hS (fun _ _ h => h) (fun _ h => h) (fun u t H1 locs1 ht hvm hpo hB _ _ hS1 => kk u H1 locs1 hpo (by rw [← ht]; exact hB.1) hS1)
theorem kb_callN {host : String} {post : (Nat → va_E) → Prop} (S : CallFix p m c cc nL s args Ts own) (hK : kb_K D cy s) (hP : kb_P D b G z H) (hS : va_S (fun q : Nat => b ≤ q) s.heap H locs) (hM : Met l y ws rm (va_Pc [.ref q] (kb_B D cy b G z)) (va_Qv post (fun G1 => kb_B D cy b G1 z1) (fun q : Nat => b ≤ q)) mc ms (fun q : Nat => b ≤ q)) (cw : va_CN R s args own index y host bytes maxL none ws rm mc ms 0 ∧ y.name = "<init>" ∧ (Cond.instanceMethod y).before args s = true) (hsize : ls.size = nL) (hW : (rest.map fun v => v.category).sum ≤ 8) (hdg : decode cc pc = .ok (.invokespecial index, 3)) (hf : cells + mc ≤ R.cells ∧ slots + ms ≤ R.slots)
    (kk : ∀ (G1 : Nat → va_E) (H1 : Heap) (locs1 : List Loc), post G1 → kb_P D b G1 z1 H1 → va_S (fun q : Nat => b ≤ q) s.heap H1 locs1 → W p l e R s m args below meth c H1 locs1 (cells + mc) (slots + ms) Q (F0 m (pc + 3) ls rest)) : W p l e R s m args below meth c H locs cells slots Q (F0 m pc ls (.ref q :: rest)) :=
  va_callv (va_runIN (As := []) (g := F0 m pc ls (.ref q :: rest)) S hM cw ⟨kb_blind D cy b G z _, fun U hU hWm => ⟨rfl, by rw [hU]; exact hP, hK.to hWm⟩⟩ rfl rfl hsize rfl (lv_room hW) hdg hf) hS (fun _ _ h => h) (fun _ h => h) (fun u t H1 locs1 ht hvm hpo hB _ _ hS1 => kk u H1 locs1 hpo (by rw [← ht]; exact hB.1) hS1)
end ZB
