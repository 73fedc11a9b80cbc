/-! ===== what a write leaves, without a search ===== -/
theorem zz_w {σ σ1 : zz_S} {a k b j : Nat} {v : Int32} (e : σ1 = zz_u σ a k v) (h : ¬ (b = a ∧ j = k)) : σ1 b j = σ b j := by
  rw [e]
  exact zz_un h
theorem zz_w1 {σ σ1 : zz_S} {a k : Nat} {v : Int32} (e : σ1 = zz_u σ a k v) : σ1 a k = v := by
  rw [e]
  exact zz_us _ _ _ _
theorem zz_na {a i j : Nat} (h : i ≠ j) : a + i ≠ a + j := fun q => h (Nat.add_left_cancel q)
section ZM
variable {p : Program} {l : Launch} {e : Env} {R : Room} {s : State} {m : MethodId} {args : Array Value} {below : List Frame} {meth : Method} {c : Code} {H : Heap} {locs : List Loc} {cells slots : Nat} {Q : State → Prop}
variable {cc : ByteArray} {pc : Nat} {ls : Array Slot} {rest : List Value} {E : zz_E} {σ σ0 : zz_S} {a : Nat}
theorem zz_ialds (hexec : p.tables.exec = Jvm.exec) (hb : c.code = cc) (hK : zz_Kn E s) (hP : zz_P E σ H) {n : Nat} (hg : E.2.2.1 a = some (.inr (0, n, none))) (hs : ∀ k, σ a k = σ0 a k) {i : Int32} (h1 : 0 ≤ i.toInt) (h2 : i.toInt < n) (hdg : decode cc pc = .ok (.iaload, 1))
    (kk : ∀ j : Nat, (j : Int) = i.toInt → j < n → W p l e R s m args below meth c H locs cells slots Q (F0 m (pc + 1) ls (.int (σ0 a j) :: rest))) : W p l e R s m args below meth c H locs cells slots Q (F0 m pc ls (.int i :: .ref a :: rest)) :=
  zz_iald hexec hb hK hP hg h1 h2 hdg (fun j hj hn => by rw [hs j]; exact kk j hj hn)
end ZM
