theorem zz_fb (x : Int32) : fits .byte (.int (vp_nar .byte x)) = true := by rw [vp_nar_byte]; exact pk_fb _
/-- what a new SHEET is answered by -/
def zz_sheet (sh bi nn r : Int) : Prop := ((sh < 0 ∨ 3 < sh ∨ (bi ≠ 0 ∧ bi ≠ 8 ∧ bi ≠ 16 ∧ bi ≠ 32)) ∧ r = -1000000001) ∨ (0 ≤ sh ∧ sh ≤ 3 ∧ (bi = 8 ∨ bi = 16 ∨ bi = 32) ∧ nn < 0 ∧ r = -1000000003) ∨ (0 ≤ sh ∧ sh ≤ 3 ∧ (bi = 8 ∨ bi = 16 ∨ bi = 32) ∧ 24 < nn ∧ r = -1000000001) ∨ (0 ≤ sh ∧ sh ≤ 3 ∧ (bi = 0 ∨ ((bi = 8 ∨ bi = 16 ∨ bi = 32) ∧ 0 ≤ nn ∧ nn ≤ 24)) ∧ r = 1)
/-- the DREAMS, and Z, after n HOURS of loose -/
def zz_lo : Nat → Int → Int → Int → Int
  | 0, _, _, d => d
  | n + 1, h, s, d => if h % 24 = s % 24 ∧ d < 9 ∧ h / 24 < 99 then zz_lo n (h + 1) s (d + 1) else zz_lo n (h + 1) s d
def zz_lz : Nat → Int → Int → Int → Int32 → Int32
  | 0, _, _, _, z => z
  | n + 1, h, s, d, z => if h % 24 = s % 24 ∧ d < 9 ∧ h / 24 < 99 then zz_lz n (h + 1) s (d + 1) (zz_z (zz_z (zz_z z))) else zz_lz n (h + 1) s d z
theorem zz_a255 (b : Int32) : (b &&& 255).toInt = ((b.toBitVec.toNat % 256 : Nat) : Int) := by
  have h2 : (b &&& 255).toBitVec.toNat = b.toBitVec.toNat % 256 := by
    have h1 : (b &&& 255).toBitVec = b.toBitVec &&& 255#32 := rfl
    rw [h1, BitVec.toNat_and]
    exact Nat.and_two_pow_sub_one_eq_mod b.toBitVec.toNat 8
  have h3 : (b &&& 255).toBitVec.toInt = (((b &&& 255).toBitVec.toNat : Nat) : Int) := BitVec.toInt_eq_toNat_of_lt (by rw [h2]; omega)
  rw [← h2]
  exact h3
theorem zz_narB (b : Int32) : ((vp_nar .byte b) &&& 255).toInt = (b &&& 255).toInt := by rw [vp_nar_byte, zz_b255 rfl, zz_a255]
