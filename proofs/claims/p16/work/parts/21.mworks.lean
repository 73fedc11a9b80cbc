set_option maxHeartbeats 4000000 in
set_option maxRecDepth 100000 in
theorem c_X9_twoOf (l : Launch) (E : zz_E) (σ : zz_S) (sg : Int32) (x1 : Int32) (x2 : Int32) (hsg : sg.toInt = 124 ∨ sg.toInt = 38 ∨ sg.toInt = 60 ∨ sg.toInt = 61 ∨ sg.toInt = 62 ∨ sg.toInt = 43 ∨ sg.toInt = 45 ∨ sg.toInt = 42 ∨ sg.toInt = 47 ∨ sg.toInt = 37) : Met l yX9_twoOf wzX9_twoOf ({ frames := 0, cells := 0, slots := 0, locals := 0 }) (va_Pc [.int sg, .int x1, .int x2] (zz_B E σ)) (va_Qi (fun r σ1 => σ1 = σ ∧ (zz_jp sg.toInt x1 x2 r)) (zz_B E) (zz_A E)) 0 0 (zz_A E) := by
  refine zz_met (cc := cX9_twoOf) (maxL := 3) (ret := (some .int)) (by decide) rfl (Nat.le_of_ble_eq_true rfl) ?_
  intro p e s m args below meth c ls hx hb hr hts hown hlocks hml hK hP hS hl
  have hl : lv_has ls 3 [(0, .int sg), (1, .int x1), (2, .int x2)] := hl
  have hown : s.vm.findClass RX9 = some m.cls := hown
  have k_0 : (0 : Int32).toInt = 0 := by decide +kernel
  have k_1 : (1 : Int32).toInt = 1 := by decide +kernel
  refine lv_iload_n hx hb dX9_twoOf_0 rfl (lv_at hl 0 rfl) ?_
  by_cases c1 : (sg).toInt = 37
  · refine lv_tableIn (off := 143) (tgt := 144) hx hb dX9_twoOf_1 (by omega) (by omega) (by rw [show ((sg).toInt - (37)).toNat = 0 from by omega]; rfl) (by decide) ?_
    refine lv_iload_n hx hb dX9_twoOf_144 rfl (lv_at hl 2 rfl) ?_
    refine lv_if_ne (tgt := 152) hx hb dX9_twoOf_145 (by decide) (fun c2 => ?_) (fun c2 => ?_)
    · have c2 := zz_neT c2
      refine lv_iload_n hx hb dX9_twoOf_152 rfl (lv_at hl 1 rfl) ?_
      refine lv_iload_n hx hb dX9_twoOf_153 rfl (lv_at hl 2 rfl) ?_
      refine lv_irem hx hb dX9_twoOf_154 (zz_ne0 (by omega)) ?_
      refine lv_topi (fun n3 e3 => ?_)
      exact zz_iret hx hb hr hlocks hK hP hS dX9_twoOf_155 (by exact ⟨rfl, zz_jp_rm (by omega) (by omega) e3⟩)
    · have c2 := zz_eqT c2
      refine lv_iconst (v := 0) hx hb dX9_twoOf_148 (by decide) ?_
      refine lv_goto (tgt := 155) hx hb dX9_twoOf_149 (by decide) ?_
      exact zz_iret hx hb hr hlocks hK hP hS dX9_twoOf_155 (by exact ⟨rfl, zz_jp_rm0 (by omega) (by omega) rfl⟩)
  by_cases c4 : (sg).toInt = 38
  · refine lv_tableIn (off := 188) (tgt := 189) hx hb dX9_twoOf_1 (by omega) (by omega) (by rw [show ((sg).toInt - (37)).toNat = 1 from by omega]; rfl) (by decide) ?_
    refine lv_iload_n hx hb dX9_twoOf_189 rfl (lv_at hl 1 rfl) ?_
    refine lv_if_eq (tgt := 201) hx hb dX9_twoOf_190 (by decide) (fun c5 => ?_) (fun c5 => ?_)
    · have c5 := zz_eqT c5
      refine lv_iconst (v := 0) hx hb dX9_twoOf_201 (by decide) ?_
      exact zz_iret hx hb hr hlocks hK hP hS dX9_twoOf_202 (by exact ⟨rfl, zz_jp_an0 (by omega) (by omega) rfl⟩)
    · have c5 := zz_neT c5
      refine lv_iload_n hx hb dX9_twoOf_193 rfl (lv_at hl 2 rfl) ?_
      refine lv_if_eq (tgt := 201) hx hb dX9_twoOf_194 (by decide) (fun c6 => ?_) (fun c6 => ?_)
      · have c6 := zz_eqT c6
        refine lv_iconst (v := 0) hx hb dX9_twoOf_201 (by decide) ?_
        exact zz_iret hx hb hr hlocks hK hP hS dX9_twoOf_202 (by exact ⟨rfl, zz_jp_an0 (by omega) (by omega) rfl⟩)
      · have c6 := zz_neT c6
        refine lv_iconst (v := 1) hx hb dX9_twoOf_197 (by decide) ?_
        refine lv_goto (tgt := 202) hx hb dX9_twoOf_198 (by decide) ?_
        exact zz_iret hx hb hr hlocks hK hP hS dX9_twoOf_202 (by exact ⟨rfl, zz_jp_an1 (by omega) (by omega) rfl⟩)
  by_cases c7 : (sg).toInt = 42
  · refine lv_tableIn (off := 127) (tgt := 128) hx hb dX9_twoOf_1 (by omega) (by omega) (by rw [show ((sg).toInt - (37)).toNat = 5 from by omega]; rfl) (by decide) ?_
    refine lv_iload_n hx hb dX9_twoOf_128 rfl (lv_at hl 1 rfl) ?_
    refine lv_iload_n hx hb dX9_twoOf_129 rfl (lv_at hl 2 rfl) ?_
    refine lv_imul hx hb dX9_twoOf_130 ?_
    refine lv_topi (fun n8 e8 => ?_)
    exact zz_iret hx hb hr hlocks hK hP hS dX9_twoOf_131 (by exact ⟨rfl, zz_jp_mu (by omega) e8⟩)
  by_cases c9 : (sg).toInt = 43
  · refine lv_tableIn (off := 119) (tgt := 120) hx hb dX9_twoOf_1 (by omega) (by omega) (by rw [show ((sg).toInt - (37)).toNat = 6 from by omega]; rfl) (by decide) ?_
    refine lv_iload_n hx hb dX9_twoOf_120 rfl (lv_at hl 1 rfl) ?_
    refine lv_iload_n hx hb dX9_twoOf_121 rfl (lv_at hl 2 rfl) ?_
    refine lv_iadd hx hb dX9_twoOf_122 ?_
    refine lv_topi (fun n10 e10 => ?_)
    exact zz_iret hx hb hr hlocks hK hP hS dX9_twoOf_123 (by exact ⟨rfl, zz_jp_ad (by omega) e10⟩)
  by_cases c11 : (sg).toInt = 45
  · refine lv_tableIn (off := 123) (tgt := 124) hx hb dX9_twoOf_1 (by omega) (by omega) (by rw [show ((sg).toInt - (37)).toNat = 8 from by omega]; rfl) (by decide) ?_
    refine lv_iload_n hx hb dX9_twoOf_124 rfl (lv_at hl 1 rfl) ?_
    refine lv_iload_n hx hb dX9_twoOf_125 rfl (lv_at hl 2 rfl) ?_
    refine lv_isub hx hb dX9_twoOf_126 ?_
    refine lv_topi (fun n12 e12 => ?_)
    exact zz_iret hx hb hr hlocks hK hP hS dX9_twoOf_127 (by exact ⟨rfl, zz_jp_su (by omega) e12⟩)
  by_cases c13 : (sg).toInt = 47
  · refine lv_tableIn (off := 131) (tgt := 132) hx hb dX9_twoOf_1 (by omega) (by omega) (by rw [show ((sg).toInt - (37)).toNat = 10 from by omega]; rfl) (by decide) ?_
    refine lv_iload_n hx hb dX9_twoOf_132 rfl (lv_at hl 2 rfl) ?_
    refine lv_if_ne (tgt := 140) hx hb dX9_twoOf_133 (by decide) (fun c14 => ?_) (fun c14 => ?_)
    · have c14 := zz_neT c14
      refine lv_iload_n hx hb dX9_twoOf_140 rfl (lv_at hl 1 rfl) ?_
      refine lv_iload_n hx hb dX9_twoOf_141 rfl (lv_at hl 2 rfl) ?_
      refine lv_idiv hx hb dX9_twoOf_142 (zz_ne0 (by omega)) ?_
      refine lv_topi (fun n15 e15 => ?_)
      exact zz_iret hx hb hr hlocks hK hP hS dX9_twoOf_143 (by exact ⟨rfl, zz_jp_dv (by omega) (by omega) e15⟩)
    · have c14 := zz_eqT c14
      refine lv_iconst (v := 0) hx hb dX9_twoOf_136 (by decide) ?_
      refine lv_goto (tgt := 143) hx hb dX9_twoOf_137 (by decide) ?_
      exact zz_iret hx hb hr hlocks hK hP hS dX9_twoOf_143 (by exact ⟨rfl, zz_jp_dv0 (by omega) (by omega) rfl⟩)
  by_cases c16 : (sg).toInt = 60
  · refine lv_tableIn (off := 155) (tgt := 156) hx hb dX9_twoOf_1 (by omega) (by omega) (by rw [show ((sg).toInt - (37)).toNat = 23 from by omega]; rfl) (by decide) ?_
    refine lv_iload_n hx hb dX9_twoOf_156 rfl (lv_at hl 1 rfl) ?_
    refine lv_iload_n hx hb dX9_twoOf_157 rfl (lv_at hl 2 rfl) ?_
    refine lv_icmp_ge (tgt := 165) hx hb dX9_twoOf_158 (by decide) (fun c17 => ?_) (fun c17 => ?_)
    · have c17 := zz_leT c17
      refine lv_iconst (v := 0) hx hb dX9_twoOf_165 (by decide) ?_
      exact zz_iret hx hb hr hlocks hK hP hS dX9_twoOf_166 (by exact ⟨rfl, zz_jp_lt0 (by omega) (by omega) rfl⟩)
    · have c17 := zz_nleT c17
      refine lv_iconst (v := 1) hx hb dX9_twoOf_161 (by decide) ?_
      refine lv_goto (tgt := 166) hx hb dX9_twoOf_162 (by decide) ?_
      exact zz_iret hx hb hr hlocks hK hP hS dX9_twoOf_166 (by exact ⟨rfl, zz_jp_lt1 (by omega) (by omega) rfl⟩)
  by_cases c18 : (sg).toInt = 61
  · refine lv_tableIn (off := 166) (tgt := 167) hx hb dX9_twoOf_1 (by omega) (by omega) (by rw [show ((sg).toInt - (37)).toNat = 24 from by omega]; rfl) (by decide) ?_
    refine lv_iload_n hx hb dX9_twoOf_167 rfl (lv_at hl 1 rfl) ?_
    refine lv_iload_n hx hb dX9_twoOf_168 rfl (lv_at hl 2 rfl) ?_
    refine lv_icmp_ne (tgt := 176) hx hb dX9_twoOf_169 (by decide) (fun c19 => ?_) (fun c19 => ?_)
    · have c19 := zz_neT c19
      refine lv_iconst (v := 0) hx hb dX9_twoOf_176 (by decide) ?_
      exact zz_iret hx hb hr hlocks hK hP hS dX9_twoOf_177 (by exact ⟨rfl, zz_jp_eq0 (by omega) (by omega) rfl⟩)
    · have c19 := zz_eqT c19
      refine lv_iconst (v := 1) hx hb dX9_twoOf_172 (by decide) ?_
      refine lv_goto (tgt := 177) hx hb dX9_twoOf_173 (by decide) ?_
      exact zz_iret hx hb hr hlocks hK hP hS dX9_twoOf_177 (by exact ⟨rfl, zz_jp_eq1 (by omega) (by omega) rfl⟩)
  by_cases c20 : (sg).toInt = 62
  · refine lv_tableIn (off := 177) (tgt := 178) hx hb dX9_twoOf_1 (by omega) (by omega) (by rw [show ((sg).toInt - (37)).toNat = 25 from by omega]; rfl) (by decide) ?_
    refine lv_iload_n hx hb dX9_twoOf_178 rfl (lv_at hl 1 rfl) ?_
    refine lv_iload_n hx hb dX9_twoOf_179 rfl (lv_at hl 2 rfl) ?_
    refine lv_icmp_le (tgt := 187) hx hb dX9_twoOf_180 (by decide) (fun c21 => ?_) (fun c21 => ?_)
    · have c21 := zz_leT c21
      refine lv_iconst (v := 0) hx hb dX9_twoOf_187 (by decide) ?_
      exact zz_iret hx hb hr hlocks hK hP hS dX9_twoOf_188 (by exact ⟨rfl, zz_jp_gt0 (by omega) (by omega) rfl⟩)
    · have c21 := zz_nleT c21
      refine lv_iconst (v := 1) hx hb dX9_twoOf_183 (by decide) ?_
      refine lv_goto (tgt := 188) hx hb dX9_twoOf_184 (by decide) ?_
      exact zz_iret hx hb hr hlocks hK hP hS dX9_twoOf_188 (by exact ⟨rfl, zz_jp_gt1 (by omega) (by omega) rfl⟩)
  by_cases c921 : (sg).toInt < 37 ∨ 62 < (sg).toInt
  · refine lv_tableOut (tgt := 203) hx hb dX9_twoOf_1 c921 (by decide) ?_
    refine lv_iload_n hx hb dX9_twoOf_203 rfl (lv_at hl 1 rfl) ?_
    refine lv_if_ne (tgt := 211) hx hb dX9_twoOf_204 (by decide) (fun c22 => ?_) (fun c22 => ?_)
    · have c22 := zz_neT c22
      refine lv_iconst (v := 1) hx hb dX9_twoOf_211 (by decide) ?_
      refine lv_goto (tgt := 216) hx hb dX9_twoOf_212 (by decide) ?_
      exact zz_iret hx hb hr hlocks hK hP hS dX9_twoOf_216 (by exact ⟨rfl, zz_jp_or1 (by omega) (by omega) rfl⟩)
    · have c22 := zz_eqT c22
      refine lv_iload_n hx hb dX9_twoOf_207 rfl (lv_at hl 2 rfl) ?_
      refine lv_if_eq (tgt := 215) hx hb dX9_twoOf_208 (by decide) (fun c23 => ?_) (fun c23 => ?_)
      · have c23 := zz_eqT c23
        refine lv_iconst (v := 0) hx hb dX9_twoOf_215 (by decide) ?_
        exact zz_iret hx hb hr hlocks hK hP hS dX9_twoOf_216 (by exact ⟨rfl, zz_jp_or0 (by omega) (by omega) rfl⟩)
      · have c23 := zz_neT c23
        refine lv_iconst (v := 1) hx hb dX9_twoOf_211 (by decide) ?_
        refine lv_goto (tgt := 216) hx hb dX9_twoOf_212 (by decide) ?_
        exact zz_iret hx hb hr hlocks hK hP hS dX9_twoOf_216 (by exact ⟨rfl, zz_jp_or1 (by omega) (by omega) rfl⟩)
  by_cases c24 : (sg).toInt = 39
  · refine lv_tableIn (off := 202) (tgt := 203) hx hb dX9_twoOf_1 (by omega) (by omega) (by rw [show ((sg).toInt - (37)).toNat = 2 from by omega]; rfl) (by decide) ?_
    refine lv_iload_n hx hb dX9_twoOf_203 rfl (lv_at hl 1 rfl) ?_
    refine lv_if_ne (tgt := 211) hx hb dX9_twoOf_204 (by decide) (fun c25 => ?_) (fun c25 => ?_)
    · have c25 := zz_neT c25
      refine lv_iconst (v := 1) hx hb dX9_twoOf_211 (by decide) ?_
      refine lv_goto (tgt := 216) hx hb dX9_twoOf_212 (by decide) ?_
      exact zz_iret hx hb hr hlocks hK hP hS dX9_twoOf_216 (by exact ⟨rfl, zz_jp_or1 (by omega) (by omega) rfl⟩)
    · have c25 := zz_eqT c25
      refine lv_iload_n hx hb dX9_twoOf_207 rfl (lv_at hl 2 rfl) ?_
      refine lv_if_eq (tgt := 215) hx hb dX9_twoOf_208 (by decide) (fun c26 => ?_) (fun c26 => ?_)
      · have c26 := zz_eqT c26
        refine lv_iconst (v := 0) hx hb dX9_twoOf_215 (by decide) ?_
        exact zz_iret hx hb hr hlocks hK hP hS dX9_twoOf_216 (by exact ⟨rfl, zz_jp_or0 (by omega) (by omega) rfl⟩)
      · have c26 := zz_neT c26
        refine lv_iconst (v := 1) hx hb dX9_twoOf_211 (by decide) ?_
        refine lv_goto (tgt := 216) hx hb dX9_twoOf_212 (by decide) ?_
        exact zz_iret hx hb hr hlocks hK hP hS dX9_twoOf_216 (by exact ⟨rfl, zz_jp_or1 (by omega) (by omega) rfl⟩)
  by_cases c27 : (sg).toInt = 40
  · refine lv_tableIn (off := 202) (tgt := 203) hx hb dX9_twoOf_1 (by omega) (by omega) (by rw [show ((sg).toInt - (37)).toNat = 3 from by omega]; rfl) (by decide) ?_
    refine lv_iload_n hx hb dX9_twoOf_203 rfl (lv_at hl 1 rfl) ?_
    refine lv_if_ne (tgt := 211) hx hb dX9_twoOf_204 (by decide) (fun c28 => ?_) (fun c28 => ?_)
    · have c28 := zz_neT c28
      refine lv_iconst (v := 1) hx hb dX9_twoOf_211 (by decide) ?_
      refine lv_goto (tgt := 216) hx hb dX9_twoOf_212 (by decide) ?_
      exact zz_iret hx hb hr hlocks hK hP hS dX9_twoOf_216 (by exact ⟨rfl, zz_jp_or1 (by omega) (by omega) rfl⟩)
    · have c28 := zz_eqT c28
      refine lv_iload_n hx hb dX9_twoOf_207 rfl (lv_at hl 2 rfl) ?_
      refine lv_if_eq (tgt := 215) hx hb dX9_twoOf_208 (by decide) (fun c29 => ?_) (fun c29 => ?_)
      · have c29 := zz_eqT c29
        refine lv_iconst (v := 0) hx hb dX9_twoOf_215 (by decide) ?_
        exact zz_iret hx hb hr hlocks hK hP hS dX9_twoOf_216 (by exact ⟨rfl, zz_jp_or0 (by omega) (by omega) rfl⟩)
      · have c29 := zz_neT c29
        refine lv_iconst (v := 1) hx hb dX9_twoOf_211 (by decide) ?_
        refine lv_goto (tgt := 216) hx hb dX9_twoOf_212 (by decide) ?_
        exact zz_iret hx hb hr hlocks hK hP hS dX9_twoOf_216 (by exact ⟨rfl, zz_jp_or1 (by omega) (by omega) rfl⟩)
  by_cases c30 : (sg).toInt = 41
  · refine lv_tableIn (off := 202) (tgt := 203) hx hb dX9_twoOf_1 (by omega) (by omega) (by rw [show ((sg).toInt - (37)).toNat = 4 from by omega]; rfl) (by decide) ?_
    refine lv_iload_n hx hb dX9_twoOf_203 rfl (lv_at hl 1 rfl) ?_
    refine lv_if_ne (tgt := 211) hx hb dX9_twoOf_204 (by decide) (fun c31 => ?_) (fun c31 => ?_)
    · have c31 := zz_neT c31
      refine lv_iconst (v := 1) hx hb dX9_twoOf_211 (by decide) ?_
      refine lv_goto (tgt := 216) hx hb dX9_twoOf_212 (by decide) ?_
      exact zz_iret hx hb hr hlocks hK hP hS dX9_twoOf_216 (by exact ⟨rfl, zz_jp_or1 (by omega) (by omega) rfl⟩)
    · have c31 := zz_eqT c31
      refine lv_iload_n hx hb dX9_twoOf_207 rfl (lv_at hl 2 rfl) ?_
      refine lv_if_eq (tgt := 215) hx hb dX9_twoOf_208 (by decide) (fun c32 => ?_) (fun c32 => ?_)
      · have c32 := zz_eqT c32
        refine lv_iconst (v := 0) hx hb dX9_twoOf_215 (by decide) ?_
        exact zz_iret hx hb hr hlocks hK hP hS dX9_twoOf_216 (by exact ⟨rfl, zz_jp_or0 (by omega) (by omega) rfl⟩)
      · have c32 := zz_neT c32
        refine lv_iconst (v := 1) hx hb dX9_twoOf_211 (by decide) ?_
        refine lv_goto (tgt := 216) hx hb dX9_twoOf_212 (by decide) ?_
        exact zz_iret hx hb hr hlocks hK hP hS dX9_twoOf_216 (by exact ⟨rfl, zz_jp_or1 (by omega) (by omega) rfl⟩)
  by_cases c33 : (sg).toInt = 44
  · refine lv_tableIn (off := 202) (tgt := 203) hx hb dX9_twoOf_1 (by omega) (by omega) (by rw [show ((sg).toInt - (37)).toNat = 7 from by omega]; rfl) (by decide) ?_
    refine lv_iload_n hx hb dX9_twoOf_203 rfl (lv_at hl 1 rfl) ?_
    refine lv_if_ne (tgt := 211) hx hb dX9_twoOf_204 (by decide) (fun c34 => ?_) (fun c34 => ?_)
    · have c34 := zz_neT c34
      refine lv_iconst (v := 1) hx hb dX9_twoOf_211 (by decide) ?_
      refine lv_goto (tgt := 216) hx hb dX9_twoOf_212 (by decide) ?_
      exact zz_iret hx hb hr hlocks hK hP hS dX9_twoOf_216 (by exact ⟨rfl, zz_jp_or1 (by omega) (by omega) rfl⟩)
    · have c34 := zz_eqT c34
      refine lv_iload_n hx hb dX9_twoOf_207 rfl (lv_at hl 2 rfl) ?_
      refine lv_if_eq (tgt := 215) hx hb dX9_twoOf_208 (by decide) (fun c35 => ?_) (fun c35 => ?_)
      · have c35 := zz_eqT c35
        refine lv_iconst (v := 0) hx hb dX9_twoOf_215 (by decide) ?_
        exact zz_iret hx hb hr hlocks hK hP hS dX9_twoOf_216 (by exact ⟨rfl, zz_jp_or0 (by omega) (by omega) rfl⟩)
      · have c35 := zz_neT c35
        refine lv_iconst (v := 1) hx hb dX9_twoOf_211 (by decide) ?_
        refine lv_goto (tgt := 216) hx hb dX9_twoOf_212 (by decide) ?_
        exact zz_iret hx hb hr hlocks hK hP hS dX9_twoOf_216 (by exact ⟨rfl, zz_jp_or1 (by omega) (by omega) rfl⟩)
  by_cases c36 : (sg).toInt = 46
  · refine lv_tableIn (off := 202) (tgt := 203) hx hb dX9_twoOf_1 (by omega) (by omega) (by rw [show ((sg).toInt - (37)).toNat = 9 from by omega]; rfl) (by decide) ?_
    refine lv_iload_n hx hb dX9_twoOf_203 rfl (lv_at hl 1 rfl) ?_
    refine lv_if_ne (tgt := 211) hx hb dX9_twoOf_204 (by decide) (fun c37 => ?_) (fun c37 => ?_)
    · have c37 := zz_neT c37
      refine lv_iconst (v := 1) hx hb dX9_twoOf_211 (by decide) ?_
      refine lv_goto (tgt := 216) hx hb dX9_twoOf_212 (by decide) ?_
      exact zz_iret hx hb hr hlocks hK hP hS dX9_twoOf_216 (by exact ⟨rfl, zz_jp_or1 (by omega) (by omega) rfl⟩)
    · have c37 := zz_eqT c37
      refine lv_iload_n hx hb dX9_twoOf_207 rfl (lv_at hl 2 rfl) ?_
      refine lv_if_eq (tgt := 215) hx hb dX9_twoOf_208 (by decide) (fun c38 => ?_) (fun c38 => ?_)
      · have c38 := zz_eqT c38
        refine lv_iconst (v := 0) hx hb dX9_twoOf_215 (by decide) ?_
        exact zz_iret hx hb hr hlocks hK hP hS dX9_twoOf_216 (by exact ⟨rfl, zz_jp_or0 (by omega) (by omega) rfl⟩)
      · have c38 := zz_neT c38
        refine lv_iconst (v := 1) hx hb dX9_twoOf_211 (by decide) ?_
        refine lv_goto (tgt := 216) hx hb dX9_twoOf_212 (by decide) ?_
        exact zz_iret hx hb hr hlocks hK hP hS dX9_twoOf_216 (by exact ⟨rfl, zz_jp_or1 (by omega) (by omega) rfl⟩)
  by_cases c39 : (sg).toInt = 48
  · refine lv_tableIn (off := 202) (tgt := 203) hx hb dX9_twoOf_1 (by omega) (by omega) (by rw [show ((sg).toInt - (37)).toNat = 11 from by omega]; rfl) (by decide) ?_
    refine lv_iload_n hx hb dX9_twoOf_203 rfl (lv_at hl 1 rfl) ?_
    refine lv_if_ne (tgt := 211) hx hb dX9_twoOf_204 (by decide) (fun c40 => ?_) (fun c40 => ?_)
    · have c40 := zz_neT c40
      refine lv_iconst (v := 1) hx hb dX9_twoOf_211 (by decide) ?_
      refine lv_goto (tgt := 216) hx hb dX9_twoOf_212 (by decide) ?_
      exact zz_iret hx hb hr hlocks hK hP hS dX9_twoOf_216 (by exact ⟨rfl, zz_jp_or1 (by omega) (by omega) rfl⟩)
    · have c40 := zz_eqT c40
      refine lv_iload_n hx hb dX9_twoOf_207 rfl (lv_at hl 2 rfl) ?_
      refine lv_if_eq (tgt := 215) hx hb dX9_twoOf_208 (by decide) (fun c41 => ?_) (fun c41 => ?_)
      · have c41 := zz_eqT c41
        refine lv_iconst (v := 0) hx hb dX9_twoOf_215 (by decide) ?_
        exact zz_iret hx hb hr hlocks hK hP hS dX9_twoOf_216 (by exact ⟨rfl, zz_jp_or0 (by omega) (by omega) rfl⟩)
      · have c41 := zz_neT c41
        refine lv_iconst (v := 1) hx hb dX9_twoOf_211 (by decide) ?_
        refine lv_goto (tgt := 216) hx hb dX9_twoOf_212 (by decide) ?_
        exact zz_iret hx hb hr hlocks hK hP hS dX9_twoOf_216 (by exact ⟨rfl, zz_jp_or1 (by omega) (by omega) rfl⟩)
  by_cases c42 : (sg).toInt = 49
  · refine lv_tableIn (off := 202) (tgt := 203) hx hb dX9_twoOf_1 (by omega) (by omega) (by rw [show ((sg).toInt - (37)).toNat = 12 from by omega]; rfl) (by decide) ?_
    refine lv_iload_n hx hb dX9_twoOf_203 rfl (lv_at hl 1 rfl) ?_
    refine lv_if_ne (tgt := 211) hx hb dX9_twoOf_204 (by decide) (fun c43 => ?_) (fun c43 => ?_)
    · have c43 := zz_neT c43
      refine lv_iconst (v := 1) hx hb dX9_twoOf_211 (by decide) ?_
      refine lv_goto (tgt := 216) hx hb dX9_twoOf_212 (by decide) ?_
      exact zz_iret hx hb hr hlocks hK hP hS dX9_twoOf_216 (by exact ⟨rfl, zz_jp_or1 (by omega) (by omega) rfl⟩)
    · have c43 := zz_eqT c43
      refine lv_iload_n hx hb dX9_twoOf_207 rfl (lv_at hl 2 rfl) ?_
      refine lv_if_eq (tgt := 215) hx hb dX9_twoOf_208 (by decide) (fun c44 => ?_) (fun c44 => ?_)
      · have c44 := zz_eqT c44
        refine lv_iconst (v := 0) hx hb dX9_twoOf_215 (by decide) ?_
        exact zz_iret hx hb hr hlocks hK hP hS dX9_twoOf_216 (by exact ⟨rfl, zz_jp_or0 (by omega) (by omega) rfl⟩)
      · have c44 := zz_neT c44
        refine lv_iconst (v := 1) hx hb dX9_twoOf_211 (by decide) ?_
        refine lv_goto (tgt := 216) hx hb dX9_twoOf_212 (by decide) ?_
        exact zz_iret hx hb hr hlocks hK hP hS dX9_twoOf_216 (by exact ⟨rfl, zz_jp_or1 (by omega) (by omega) rfl⟩)
  by_cases c45 : (sg).toInt = 50
  · refine lv_tableIn (off := 202) (tgt := 203) hx hb dX9_twoOf_1 (by omega) (by omega) (by rw [show ((sg).toInt - (37)).toNat = 13 from by omega]; rfl) (by decide) ?_
    refine lv_iload_n hx hb dX9_twoOf_203 rfl (lv_at hl 1 rfl) ?_
    refine lv_if_ne (tgt := 211) hx hb dX9_twoOf_204 (by decide) (fun c46 => ?_) (fun c46 => ?_)
    · have c46 := zz_neT c46
      refine lv_iconst (v := 1) hx hb dX9_twoOf_211 (by decide) ?_
      refine lv_goto (tgt := 216) hx hb dX9_twoOf_212 (by decide) ?_
      exact zz_iret hx hb hr hlocks hK hP hS dX9_twoOf_216 (by exact ⟨rfl, zz_jp_or1 (by omega) (by omega) rfl⟩)
    · have c46 := zz_eqT c46
      refine lv_iload_n hx hb dX9_twoOf_207 rfl (lv_at hl 2 rfl) ?_
      refine lv_if_eq (tgt := 215) hx hb dX9_twoOf_208 (by decide) (fun c47 => ?_) (fun c47 => ?_)
      · have c47 := zz_eqT c47
        refine lv_iconst (v := 0) hx hb dX9_twoOf_215 (by decide) ?_
        exact zz_iret hx hb hr hlocks hK hP hS dX9_twoOf_216 (by exact ⟨rfl, zz_jp_or0 (by omega) (by omega) rfl⟩)
      · have c47 := zz_neT c47
        refine lv_iconst (v := 1) hx hb dX9_twoOf_211 (by decide) ?_
        refine lv_goto (tgt := 216) hx hb dX9_twoOf_212 (by decide) ?_
        exact zz_iret hx hb hr hlocks hK hP hS dX9_twoOf_216 (by exact ⟨rfl, zz_jp_or1 (by omega) (by omega) rfl⟩)
  by_cases c48 : (sg).toInt = 51
  · refine lv_tableIn (off := 202) (tgt := 203) hx hb dX9_twoOf_1 (by omega) (by omega) (by rw [show ((sg).toInt - (37)).toNat = 14 from by omega]; rfl) (by decide) ?_
    refine lv_iload_n hx hb dX9_twoOf_203 rfl (lv_at hl 1 rfl) ?_
    refine lv_if_ne (tgt := 211) hx hb dX9_twoOf_204 (by decide) (fun c49 => ?_) (fun c49 => ?_)
    · have c49 := zz_neT c49
      refine lv_iconst (v := 1) hx hb dX9_twoOf_211 (by decide) ?_
      refine lv_goto (tgt := 216) hx hb dX9_twoOf_212 (by decide) ?_
      exact zz_iret hx hb hr hlocks hK hP hS dX9_twoOf_216 (by exact ⟨rfl, zz_jp_or1 (by omega) (by omega) rfl⟩)
    · have c49 := zz_eqT c49
      refine lv_iload_n hx hb dX9_twoOf_207 rfl (lv_at hl 2 rfl) ?_
      refine lv_if_eq (tgt := 215) hx hb dX9_twoOf_208 (by decide) (fun c50 => ?_) (fun c50 => ?_)
      · have c50 := zz_eqT c50
        refine lv_iconst (v := 0) hx hb dX9_twoOf_215 (by decide) ?_
        exact zz_iret hx hb hr hlocks hK hP hS dX9_twoOf_216 (by exact ⟨rfl, zz_jp_or0 (by omega) (by omega) rfl⟩)
      · have c50 := zz_neT c50
        refine lv_iconst (v := 1) hx hb dX9_twoOf_211 (by decide) ?_
        refine lv_goto (tgt := 216) hx hb dX9_twoOf_212 (by decide) ?_
        exact zz_iret hx hb hr hlocks hK hP hS dX9_twoOf_216 (by exact ⟨rfl, zz_jp_or1 (by omega) (by omega) rfl⟩)
  by_cases c51 : (sg).toInt = 52
  · refine lv_tableIn (off := 202) (tgt := 203) hx hb dX9_twoOf_1 (by omega) (by omega) (by rw [show ((sg).toInt - (37)).toNat = 15 from by omega]; rfl) (by decide) ?_
    refine lv_iload_n hx hb dX9_twoOf_203 rfl (lv_at hl 1 rfl) ?_
    refine lv_if_ne (tgt := 211) hx hb dX9_twoOf_204 (by decide) (fun c52 => ?_) (fun c52 => ?_)
    · have c52 := zz_neT c52
      refine lv_iconst (v := 1) hx hb dX9_twoOf_211 (by decide) ?_
      refine lv_goto (tgt := 216) hx hb dX9_twoOf_212 (by decide) ?_
      exact zz_iret hx hb hr hlocks hK hP hS dX9_twoOf_216 (by exact ⟨rfl, zz_jp_or1 (by omega) (by omega) rfl⟩)
    · have c52 := zz_eqT c52
      refine lv_iload_n hx hb dX9_twoOf_207 rfl (lv_at hl 2 rfl) ?_
      refine lv_if_eq (tgt := 215) hx hb dX9_twoOf_208 (by decide) (fun c53 => ?_) (fun c53 => ?_)
      · have c53 := zz_eqT c53
        refine lv_iconst (v := 0) hx hb dX9_twoOf_215 (by decide) ?_
        exact zz_iret hx hb hr hlocks hK hP hS dX9_twoOf_216 (by exact ⟨rfl, zz_jp_or0 (by omega) (by omega) rfl⟩)
      · have c53 := zz_neT c53
        refine lv_iconst (v := 1) hx hb dX9_twoOf_211 (by decide) ?_
        refine lv_goto (tgt := 216) hx hb dX9_twoOf_212 (by decide) ?_
        exact zz_iret hx hb hr hlocks hK hP hS dX9_twoOf_216 (by exact ⟨rfl, zz_jp_or1 (by omega) (by omega) rfl⟩)
  by_cases c54 : (sg).toInt = 53
  · refine lv_tableIn (off := 202) (tgt := 203) hx hb dX9_twoOf_1 (by omega) (by omega) (by rw [show ((sg).toInt - (37)).toNat = 16 from by omega]; rfl) (by decide) ?_
    refine lv_iload_n hx hb dX9_twoOf_203 rfl (lv_at hl 1 rfl) ?_
    refine lv_if_ne (tgt := 211) hx hb dX9_twoOf_204 (by decide) (fun c55 => ?_) (fun c55 => ?_)
    · have c55 := zz_neT c55
      refine lv_iconst (v := 1) hx hb dX9_twoOf_211 (by decide) ?_
      refine lv_goto (tgt := 216) hx hb dX9_twoOf_212 (by decide) ?_
      exact zz_iret hx hb hr hlocks hK hP hS dX9_twoOf_216 (by exact ⟨rfl, zz_jp_or1 (by omega) (by omega) rfl⟩)
    · have c55 := zz_eqT c55
      refine lv_iload_n hx hb dX9_twoOf_207 rfl (lv_at hl 2 rfl) ?_
      refine lv_if_eq (tgt := 215) hx hb dX9_twoOf_208 (by decide) (fun c56 => ?_) (fun c56 => ?_)
      · have c56 := zz_eqT c56
        refine lv_iconst (v := 0) hx hb dX9_twoOf_215 (by decide) ?_
        exact zz_iret hx hb hr hlocks hK hP hS dX9_twoOf_216 (by exact ⟨rfl, zz_jp_or0 (by omega) (by omega) rfl⟩)
      · have c56 := zz_neT c56
        refine lv_iconst (v := 1) hx hb dX9_twoOf_211 (by decide) ?_
        refine lv_goto (tgt := 216) hx hb dX9_twoOf_212 (by decide) ?_
        exact zz_iret hx hb hr hlocks hK hP hS dX9_twoOf_216 (by exact ⟨rfl, zz_jp_or1 (by omega) (by omega) rfl⟩)
  by_cases c57 : (sg).toInt = 54
  · refine lv_tableIn (off := 202) (tgt := 203) hx hb dX9_twoOf_1 (by omega) (by omega) (by rw [show ((sg).toInt - (37)).toNat = 17 from by omega]; rfl) (by decide) ?_
    refine lv_iload_n hx hb dX9_twoOf_203 rfl (lv_at hl 1 rfl) ?_
    refine lv_if_ne (tgt := 211) hx hb dX9_twoOf_204 (by decide) (fun c58 => ?_) (fun c58 => ?_)
    · have c58 := zz_neT c58
      refine lv_iconst (v := 1) hx hb dX9_twoOf_211 (by decide) ?_
      refine lv_goto (tgt := 216) hx hb dX9_twoOf_212 (by decide) ?_
      exact zz_iret hx hb hr hlocks hK hP hS dX9_twoOf_216 (by exact ⟨rfl, zz_jp_or1 (by omega) (by omega) rfl⟩)
    · have c58 := zz_eqT c58
      refine lv_iload_n hx hb dX9_twoOf_207 rfl (lv_at hl 2 rfl) ?_
      refine lv_if_eq (tgt := 215) hx hb dX9_twoOf_208 (by decide) (fun c59 => ?_) (fun c59 => ?_)
      · have c59 := zz_eqT c59
        refine lv_iconst (v := 0) hx hb dX9_twoOf_215 (by decide) ?_
        exact zz_iret hx hb hr hlocks hK hP hS dX9_twoOf_216 (by exact ⟨rfl, zz_jp_or0 (by omega) (by omega) rfl⟩)
      · have c59 := zz_neT c59
        refine lv_iconst (v := 1) hx hb dX9_twoOf_211 (by decide) ?_
        refine lv_goto (tgt := 216) hx hb dX9_twoOf_212 (by decide) ?_
        exact zz_iret hx hb hr hlocks hK hP hS dX9_twoOf_216 (by exact ⟨rfl, zz_jp_or1 (by omega) (by omega) rfl⟩)
  by_cases c60 : (sg).toInt = 55
  · refine lv_tableIn (off := 202) (tgt := 203) hx hb dX9_twoOf_1 (by omega) (by omega) (by rw [show ((sg).toInt - (37)).toNat = 18 from by omega]; rfl) (by decide) ?_
    refine lv_iload_n hx hb dX9_twoOf_203 rfl (lv_at hl 1 rfl) ?_
    refine lv_if_ne (tgt := 211) hx hb dX9_twoOf_204 (by decide) (fun c61 => ?_) (fun c61 => ?_)
    · have c61 := zz_neT c61
      refine lv_iconst (v := 1) hx hb dX9_twoOf_211 (by decide) ?_
      refine lv_goto (tgt := 216) hx hb dX9_twoOf_212 (by decide) ?_
      exact zz_iret hx hb hr hlocks hK hP hS dX9_twoOf_216 (by exact ⟨rfl, zz_jp_or1 (by omega) (by omega) rfl⟩)
    · have c61 := zz_eqT c61
      refine lv_iload_n hx hb dX9_twoOf_207 rfl (lv_at hl 2 rfl) ?_
      refine lv_if_eq (tgt := 215) hx hb dX9_twoOf_208 (by decide) (fun c62 => ?_) (fun c62 => ?_)
      · have c62 := zz_eqT c62
        refine lv_iconst (v := 0) hx hb dX9_twoOf_215 (by decide) ?_
        exact zz_iret hx hb hr hlocks hK hP hS dX9_twoOf_216 (by exact ⟨rfl, zz_jp_or0 (by omega) (by omega) rfl⟩)
      · have c62 := zz_neT c62
        refine lv_iconst (v := 1) hx hb dX9_twoOf_211 (by decide) ?_
        refine lv_goto (tgt := 216) hx hb dX9_twoOf_212 (by decide) ?_
        exact zz_iret hx hb hr hlocks hK hP hS dX9_twoOf_216 (by exact ⟨rfl, zz_jp_or1 (by omega) (by omega) rfl⟩)
  by_cases c63 : (sg).toInt = 56
  · refine lv_tableIn (off := 202) (tgt := 203) hx hb dX9_twoOf_1 (by omega) (by omega) (by rw [show ((sg).toInt - (37)).toNat = 19 from by omega]; rfl) (by decide) ?_
    refine lv_iload_n hx hb dX9_twoOf_203 rfl (lv_at hl 1 rfl) ?_
    refine lv_if_ne (tgt := 211) hx hb dX9_twoOf_204 (by decide) (fun c64 => ?_) (fun c64 => ?_)
    · have c64 := zz_neT c64
      refine lv_iconst (v := 1) hx hb dX9_twoOf_211 (by decide) ?_
      refine lv_goto (tgt := 216) hx hb dX9_twoOf_212 (by decide) ?_
      exact zz_iret hx hb hr hlocks hK hP hS dX9_twoOf_216 (by exact ⟨rfl, zz_jp_or1 (by omega) (by omega) rfl⟩)
    · have c64 := zz_eqT c64
      refine lv_iload_n hx hb dX9_twoOf_207 rfl (lv_at hl 2 rfl) ?_
      refine lv_if_eq (tgt := 215) hx hb dX9_twoOf_208 (by decide) (fun c65 => ?_) (fun c65 => ?_)
      · have c65 := zz_eqT c65
        refine lv_iconst (v := 0) hx hb dX9_twoOf_215 (by decide) ?_
        exact zz_iret hx hb hr hlocks hK hP hS dX9_twoOf_216 (by exact ⟨rfl, zz_jp_or0 (by omega) (by omega) rfl⟩)
      · have c65 := zz_neT c65
        refine lv_iconst (v := 1) hx hb dX9_twoOf_211 (by decide) ?_
        refine lv_goto (tgt := 216) hx hb dX9_twoOf_212 (by decide) ?_
        exact zz_iret hx hb hr hlocks hK hP hS dX9_twoOf_216 (by exact ⟨rfl, zz_jp_or1 (by omega) (by omega) rfl⟩)
  by_cases c66 : (sg).toInt = 57
  · refine lv_tableIn (off := 202) (tgt := 203) hx hb dX9_twoOf_1 (by omega) (by omega) (by rw [show ((sg).toInt - (37)).toNat = 20 from by omega]; rfl) (by decide) ?_
    refine lv_iload_n hx hb dX9_twoOf_203 rfl (lv_at hl 1 rfl) ?_
    refine lv_if_ne (tgt := 211) hx hb dX9_twoOf_204 (by decide) (fun c67 => ?_) (fun c67 => ?_)
    · have c67 := zz_neT c67
      refine lv_iconst (v := 1) hx hb dX9_twoOf_211 (by decide) ?_
      refine lv_goto (tgt := 216) hx hb dX9_twoOf_212 (by decide) ?_
      exact zz_iret hx hb hr hlocks hK hP hS dX9_twoOf_216 (by exact ⟨rfl, zz_jp_or1 (by omega) (by omega) rfl⟩)
    · have c67 := zz_eqT c67
      refine lv_iload_n hx hb dX9_twoOf_207 rfl (lv_at hl 2 rfl) ?_
      refine lv_if_eq (tgt := 215) hx hb dX9_twoOf_208 (by decide) (fun c68 => ?_) (fun c68 => ?_)
      · have c68 := zz_eqT c68
        refine lv_iconst (v := 0) hx hb dX9_twoOf_215 (by decide) ?_
        exact zz_iret hx hb hr hlocks hK hP hS dX9_twoOf_216 (by exact ⟨rfl, zz_jp_or0 (by omega) (by omega) rfl⟩)
      · have c68 := zz_neT c68
        refine lv_iconst (v := 1) hx hb dX9_twoOf_211 (by decide) ?_
        refine lv_goto (tgt := 216) hx hb dX9_twoOf_212 (by decide) ?_
        exact zz_iret hx hb hr hlocks hK hP hS dX9_twoOf_216 (by exact ⟨rfl, zz_jp_or1 (by omega) (by omega) rfl⟩)
  by_cases c69 : (sg).toInt = 58
  · refine lv_tableIn (off := 202) (tgt := 203) hx hb dX9_twoOf_1 (by omega) (by omega) (by rw [show ((sg).toInt - (37)).toNat = 21 from by omega]; rfl) (by decide) ?_
    refine lv_iload_n hx hb dX9_twoOf_203 rfl (lv_at hl 1 rfl) ?_
    refine lv_if_ne (tgt := 211) hx hb dX9_twoOf_204 (by decide) (fun c70 => ?_) (fun c70 => ?_)
    · have c70 := zz_neT c70
      refine lv_iconst (v := 1) hx hb dX9_twoOf_211 (by decide) ?_
      refine lv_goto (tgt := 216) hx hb dX9_twoOf_212 (by decide) ?_
      exact zz_iret hx hb hr hlocks hK hP hS dX9_twoOf_216 (by exact ⟨rfl, zz_jp_or1 (by omega) (by omega) rfl⟩)
    · have c70 := zz_eqT c70
      refine lv_iload_n hx hb dX9_twoOf_207 rfl (lv_at hl 2 rfl) ?_
      refine lv_if_eq (tgt := 215) hx hb dX9_twoOf_208 (by decide) (fun c71 => ?_) (fun c71 => ?_)
      · have c71 := zz_eqT c71
        refine lv_iconst (v := 0) hx hb dX9_twoOf_215 (by decide) ?_
        exact zz_iret hx hb hr hlocks hK hP hS dX9_twoOf_216 (by exact ⟨rfl, zz_jp_or0 (by omega) (by omega) rfl⟩)
      · have c71 := zz_neT c71
        refine lv_iconst (v := 1) hx hb dX9_twoOf_211 (by decide) ?_
        refine lv_goto (tgt := 216) hx hb dX9_twoOf_212 (by decide) ?_
        exact zz_iret hx hb hr hlocks hK hP hS dX9_twoOf_216 (by exact ⟨rfl, zz_jp_or1 (by omega) (by omega) rfl⟩)
  have c72 : (sg).toInt = 59 := by omega
  refine lv_tableIn (off := 202) (tgt := 203) hx hb dX9_twoOf_1 (by omega) (by omega) (by rw [show ((sg).toInt - (37)).toNat = 22 from by omega]; rfl) (by decide) ?_
  refine lv_iload_n hx hb dX9_twoOf_203 rfl (lv_at hl 1 rfl) ?_
  refine lv_if_ne (tgt := 211) hx hb dX9_twoOf_204 (by decide) (fun c73 => ?_) (fun c73 => ?_)
  · have c73 := zz_neT c73
    refine lv_iconst (v := 1) hx hb dX9_twoOf_211 (by decide) ?_
    refine lv_goto (tgt := 216) hx hb dX9_twoOf_212 (by decide) ?_
    exact zz_iret hx hb hr hlocks hK hP hS dX9_twoOf_216 (by exact ⟨rfl, zz_jp_or1 (by omega) (by omega) rfl⟩)
  · have c73 := zz_eqT c73
    refine lv_iload_n hx hb dX9_twoOf_207 rfl (lv_at hl 2 rfl) ?_
    refine lv_if_eq (tgt := 215) hx hb dX9_twoOf_208 (by decide) (fun c74 => ?_) (fun c74 => ?_)
    · have c74 := zz_eqT c74
      refine lv_iconst (v := 0) hx hb dX9_twoOf_215 (by decide) ?_
      exact zz_iret hx hb hr hlocks hK hP hS dX9_twoOf_216 (by exact ⟨rfl, zz_jp_or0 (by omega) (by omega) rfl⟩)
    · have c74 := zz_neT c74
      refine lv_iconst (v := 1) hx hb dX9_twoOf_211 (by decide) ?_
      refine lv_goto (tgt := 216) hx hb dX9_twoOf_212 (by decide) ?_
      exact zz_iret hx hb hr hlocks hK hP hS dX9_twoOf_216 (by exact ⟨rfl, zz_jp_or1 (by omega) (by omega) rfl⟩)
theorem gX9_works_X9_twoOf : GoodIn wzX9_works (va_wsS RX9 169 yX9_twoOf wzX9_twoOf) := wz_co bm_260 (wz_co bm_261 (wz_co bm_5 (wz_in bm_262)))
theorem dS21_1 (x0 : Nat) : (x0 + 10) = x0 + 10 := by omega
set_option maxHeartbeats 4000000 in
set_option maxRecDepth 100000 in
theorem c_X9_works (l : Launch) (E : zz_E) (σ : zz_S) (h0 : Nat) (at9 : Int32) (g0 : zz_M E h0) (A9 : Nat → Int) (V9 : Nat → Int) (nl : Int) (u : Nat) (x1 : Int32) (x2 : Int32) (x3 : Int32) (hu : u < 2) (hat : at9.toInt = 157 + 121 * (u : Int)) (hlen : (σ (h0 + 1) (157 + 121 * u)).toInt = nl) (hact : ∀ k : Nat, (k : Int) < nl → (σ (h0 + 1) (158 + 121 * u + k)).toInt = A9 k) (hwth : ∀ k : Nat, (k : Int) < nl → (σ (h0 + 1) (218 + 121 * u + k)).toInt = V9 k) (hwI : zz_wI A9 V9 nl) (h19 : 1 ≤ nl ∧ nl ≤ 60) (hfc : σ (h0 + 9) 0 = x1 ∧ σ (h0 + 9) 1 = x2 ∧ σ (h0 + 9) 2 = x3) : Met l yX9_works wzX9_works ({ frames := 1, cells := 0, slots := 0, locals := 22 }) (va_Pc [.ref h0, .int at9] (zz_B E σ)) (va_Qi (fun r σ1 => zz_ch (fun a k => a = h0 + 10) σ σ1 ∧ (zz_rv r A9 V9 nl x1 x2 x3)) (zz_B E) (zz_A E)) 0 0 (zz_A E) := by
  refine zz_met (cc := cX9_works) (maxL := 5) (ret := (some .int)) (by decide) rfl (Nat.le_of_ble_eq_true rfl) ?_
  intro p e s m args below meth c ls hx hb hr hts hown hlocks hml hK hP hS hl
  have hl : lv_has ls 5 [(0, .ref h0), (1, .int at9)] := hl
  have hown : s.vm.findClass RX9 = some m.cls := hown
  have hi9 : ∀ w ∈ wsX90, w ∈ wzX9_works := fun w h => List.mem_cons_of_mem _ (hbw9 w h)
  have k_m1 : ((-1) : Int32).toInt = -1 := by decide +kernel
  have k_0 : (0 : Int32).toInt = 0 := by decide +kernel
  have k_1 : (1 : Int32).toInt = 1 := by decide +kernel
  have k_2 : (2 : Int32).toInt = 2 := by decide +kernel
  have k_3 : (3 : Int32).toInt = 3 := by decide +kernel
  have k_61 : (61 : Int32).toInt = 61 := by decide +kernel
  have hC : zz_ch (fun a k => a = h0 + 10) σ σ := zz_ch.rf σ
  refine lv_iconst (v := 0) hx hb dX9_works_0 (by decide) ?_
  refine lv_istore_n (lv' := [(2, .int 0), (0, .ref h0), (1, .int at9)]) hx hb dX9_works_1 rfl hl (by decide) rfl (fun ls hl => ?_)
  refine lv_iconst (v := 0) hx hb dX9_works_2 (by decide) ?_
  refine lv_istore_n (lv' := [(3, .int 0), (2, .int 0), (0, .ref h0), (1, .int at9)]) hx hb dX9_works_3 rfl hl (by decide) rfl (fun ls hl => ?_)
  have J4 : ∀ (n : Nat) (nn : Int32) (kk : Int32) (σa : zz_S) (H : Heap) (locs : List Loc) (ls : Array Slot), ((60 - kk.toInt).toNat) < n → (zz_ch (fun a k => a = h0 + 10) σ σa) → (0 ≤ kk.toInt ∧ kk.toInt ≤ nl) → (0 ≤ nn.toInt ∧ nn.toInt ≤ kk.toInt) → (zz_pl σa (h0 + 10) nn.toInt (zz_run A9 V9 x1 x2 x3 kk.toInt.toNat)) → zz_P E σa H → va_S (zz_A E) s.heap H locs → lv_has ls 5 [(3, .int kk), (2, .int nn), (0, .ref h0), (1, .int at9)] → W p l e (headSpec wzX9_works ({ frames := 1, cells := 0, slots := 0, locals := 22 })).room s m args below meth c H locs 0 0 (MQ below (va_Qi (fun r σ1 => zz_ch (fun a k => a = h0 + 10) σ σ1 ∧ (zz_rv r A9 V9 nl x1 x2 x3)) (zz_B E) (zz_A E)) args s 0 0 (zz_A E)) (F0 m 4 ls []) := by
    intro n
    induction n with
    | zero => intro nn kk σa H locs ls hm; exact absurd hm (Nat.not_lt_zero _)
    | succ n ih4 =>
      intro nn kk σa H locs ls hm hC f4_0 f4_1 f4_2 hP hS hl
      have hC0 := hC
      refine lv_iload_n hx hb dX9_works_4 rfl (lv_at hl 0 rfl) ?_
      refine lv_aload_n hx hb dX9_works_5 rfl (lv_at hl 2 rfl) ?_
      refine zz_getr hx hb hts hi9 hown hK hP (g0.1) rfl 0 (by decide) (hts (.fieldLink RX9 9 "NoonLawModel" "row" "[I") (List.mem_cons_of_mem _ bm_93)) rfl rfl dX9_works_6 ?_
      refine lv_iload_n hx hb dX9_works_9 rfl (lv_at hl 3 rfl) ?_
      refine zz_ialds (σ0 := σ) hx hb hK hP (g0.2.1) (fun k => hC _ k (by first | (dsimp only; omega) | omega)) (by omega) (by omega) dX9_works_10 (fun j1 q1 r1 => ?_)
      have e9 : (σ (h0 + 1) j1).toInt = nl := by rw [show j1 = 157 + 121 * u from by omega]; exact hlen
      refine lv_icmp_ge (tgt := 155) hx hb dX9_works_11 (by decide) (fun c2 => ?_) (fun c2 => ?_)
      · have c2 := zz_leT c2
        have htop := hwI.top x1 x2 x3 (k := kk.toInt.toNat) (by omega) (by omega)
        rw [← f4_2.1] at htop
        refine lv_aload_n hx hb dX9_works_155 rfl (lv_at hl 2 rfl) ?_
        refine zz_getr hx hb hts hi9 hown hK hP (g0.1) rfl 10 (by decide) (hts (.fieldLink RX9 37 "NoonLawModel" "pile" "[I") (List.mem_cons_of_mem _ bm_102)) rfl rfl dX9_works_156 ?_
        refine lv_iconst (v := 0) hx hb dX9_works_159 (by decide) ?_
        refine zz_ialc hx hb hK hP (g0.2.2.2.2.2.2.2.2.2.2.1) 0 (by decide) (by decide) rfl dX9_works_160 ?_
        exact zz_iret hx hb hr hlocks hK hP hS dX9_works_161 (by exact ⟨hC, f4_2.val (k := kk.toInt.toNat) (by omega) (by omega) rfl⟩)
      · have c2 := zz_nleT c2
        refine lv_aload_n hx hb dX9_works_14 rfl (lv_at hl 2 rfl) ?_
        refine zz_getr hx hb hts hi9 hown hK hP (g0.1) rfl 0 (by decide) (hts (.fieldLink RX9 9 "NoonLawModel" "row" "[I") (List.mem_cons_of_mem _ bm_93)) rfl rfl dX9_works_15 ?_
        refine lv_iload_n hx hb dX9_works_18 rfl (lv_at hl 3 rfl) ?_
        refine lv_iconst (v := 1) hx hb dX9_works_19 (by decide) ?_
        refine lv_iadd hx hb dX9_works_20 ?_
        refine lv_topi (fun n4 e4 => ?_)
        have f4 : n4.toInt = (at9).toInt + (1 : Int32).toInt := zz_addT e4 (by omega) (by omega)
        refine lv_iload_n hx hb dX9_works_21 rfl (lv_at hl 0 rfl) ?_
        refine lv_iadd hx hb dX9_works_22 ?_
        refine lv_topi (fun n5 e5 => ?_)
        have f5 : n5.toInt = (n4).toInt + (kk).toInt := zz_addT e5 (by omega) (by omega)
        refine zz_ialds (σ0 := σ) hx hb hK hP (g0.2.1) (fun k => hC _ k (by first | (dsimp only; omega) | omega)) (by omega) (by omega) dX9_works_23 (fun j6 q6 r6 => ?_)
        have hk9 : ((kk.toInt.toNat : Nat) : Int) < nl := by omega
        have hx9 : (σ (h0 + 1) j6).toInt = A9 kk.toInt.toNat := by rw [show j6 = 158 + 121 * u + kk.toInt.toNat from by omega]; exact hact _ hk9
        obtain ⟨hok, hd3, hd2⟩ := hwI.at x1 x2 x3 hk9
        obtain ⟨c9, hc9⟩ : ∃ c : Int, c = zz_enc (A9 kk.toInt.toNat, V9 kk.toInt.toNat) := ⟨_, rfl⟩
        have hen := zz_enc_c hok hc9
        have htp := f4_2.1
        have hle := zz_run_le A9 V9 x1 x2 x3 kk.toInt.toNat
        clear hok hc9
        revert hd3 hd2 htp hle
        generalize (zz_run A9 V9 x1 x2 x3 kk.toInt.toNat).1 = rh
        intro hd3 hd2 htp hle
        refine lv_istore (lv' := [(4, .int (σ (h0 + 1) j6)), (3, .int kk), (2, .int nn), (0, .ref h0), (1, .int at9)]) hx hb dX9_works_24 hl (by decide) rfl (fun ls hl => ?_)
        refine lv_iload hx hb dX9_works_26 (lv_at hl 0 rfl) ?_
        refine lv_iconst (v := 1) hx hb dX9_works_28 (by decide) ?_
        refine lv_icmp_eq (tgt := 38) hx hb dX9_works_29 (by decide) (fun c7 => ?_) (fun c7 => ?_)
        · have c7 := zz_eqT c7
          refine lv_aload_n hx hb dX9_works_38 rfl (lv_at hl 3 rfl) ?_
          refine zz_getr hx hb hts hi9 hown hK hP (g0.1) rfl 10 (by decide) (hts (.fieldLink RX9 37 "NoonLawModel" "pile" "[I") (List.mem_cons_of_mem _ bm_102)) rfl rfl dX9_works_39 ?_
          refine lv_iload_n hx hb dX9_works_42 rfl (lv_at hl 2 rfl) ?_
          refine lv_iload hx hb dX9_works_43 (lv_at hl 0 rfl) ?_
          refine lv_iconst (v := 1) hx hb dX9_works_45 (by decide) ?_
          refine lv_icmp_ne (tgt := 63) hx hb dX9_works_46 (by decide) (fun c8 => ?_) (fun c8 => ?_)
          · have c8 := zz_neT c8
            refine lv_aload_n hx hb dX9_works_63 rfl (lv_at hl 3 rfl) ?_
            refine zz_getr hx hb hts hi9 hown hK hP (g0.1) rfl 9 (by decide) (hts (.fieldLink RX9 34 "NoonLawModel" "facts" "[I") (List.mem_cons_of_mem _ bm_101)) rfl rfl dX9_works_64 ?_
            refine lv_aload_n hx hb dX9_works_67 rfl (lv_at hl 3 rfl) ?_
            refine zz_getr hx hb hts hi9 hown hK hP (g0.1) rfl 0 (by decide) (hts (.fieldLink RX9 9 "NoonLawModel" "row" "[I") (List.mem_cons_of_mem _ bm_93)) rfl rfl dX9_works_68 ?_
            refine lv_iload_n hx hb dX9_works_71 rfl (lv_at hl 4 rfl) ?_
            refine lv_bipush (v := 61) hx hb dX9_works_72 (by decide) ?_
            refine lv_iadd hx hb dX9_works_74 ?_
            refine lv_topi (fun n9 e9 => ?_)
            have f9 : n9.toInt = (at9).toInt + (61 : Int32).toInt := zz_addT e9 (by omega) (by omega)
            refine lv_iload_n hx hb dX9_works_75 rfl (lv_at hl 1 rfl) ?_
            refine lv_iadd hx hb dX9_works_76 ?_
            refine lv_topi (fun n10 e10 => ?_)
            have f10 : n10.toInt = (n9).toInt + (kk).toInt := zz_addT e10 (by omega) (by omega)
            refine zz_ialds (σ0 := σ) hx hb hK hP (g0.2.1) (fun k => hC _ k (by first | (dsimp only; omega) | omega)) (by omega) (by omega) dX9_works_77 (fun j11 q11 r11 => ?_)
            have hv9 : (σ (h0 + 1) j11).toInt = V9 kk.toInt.toNat := by rw [show j11 = 218 + 121 * u + kk.toInt.toNat from by omega]; exact hwth _ hk9
            refine zz_iald hx hb hK hP (g0.2.2.2.2.2.2.2.2.2.1) (by omega) (by omega) dX9_works_78 (fun j12 q12 r12 => ?_)
            refine zz_iast hx hb hK hP hS (g0.2.2.2.2.2.2.2.2.2.2.1) (by omega) (by omega) dX9_works_79 (fun j13 σ13 H locs q13 r13 w13 hP1 hS1 => ?_)
            replace hP := hP1
            replace hS := hS1
            clear hP1 hS1
            replace hC := hC.u w13 (dS21_1 h0)
            obtain ⟨n14, e14⟩ : ∃ y : Int32, y = nn + 1 := ⟨_, rfl⟩
            have f14 : n14.toInt = (nn).toInt + (1) := by have h9 := zz_addT e14 (by omega) (by omega); omega
            refine lv_iinc (v := n14) (lv' := [(2, .int n14), (4, .int (σ (h0 + 1) j6)), (3, .int kk), (0, .ref h0), (1, .int at9)]) hx hb dX9_works_80 hl (k := 2) rfl (by rw [e14]; rfl) (by decide) rfl (fun ls hl => ?_)
            refine lv_goto (tgt := 149) hx hb dX9_works_83 (by decide) ?_
            obtain ⟨n15, e15⟩ : ∃ y : Int32, y = kk + 1 := ⟨_, rfl⟩
            have f15 : n15.toInt = (kk).toInt + (1) := by have h9 := zz_addT e15 (by omega) (by omega); omega
            refine lv_iinc (v := n15) (lv' := [(3, .int n15), (2, .int n14), (4, .int (σ (h0 + 1) j6)), (0, .ref h0), (1, .int at9)]) hx hb dX9_works_149 hl (k := 2) rfl (by rw [e15]; rfl) (by decide) rfl (fun ls hl => ?_)
            refine lv_goto (tgt := 4) hx hb dX9_works_152 (by decide) ?_
            exact ih4 n14 n15 σ13 _ _ _ (by omega) hC (by omega) (by omega) (by rw [show n15.toInt.toNat = kk.toInt.toNat + 1 from by omega]; exact f4_2.push w13 (by omega) (by omega) (by omega) (zz_pv_2 (by omega) rfl (by rw [hC0 _ _ (by first | (dsimp only; omega) | omega)]; exact zz_fct hfc (by omega) (by omega)))) hP hS (lv_sub hl [0, 1, 3, 4] rfl)
          · have c8 := zz_eqT c8
            refine lv_aload_n hx hb dX9_works_49 rfl (lv_at hl 3 rfl) ?_
            refine zz_getr hx hb hts hi9 hown hK hP (g0.1) rfl 0 (by decide) (hts (.fieldLink RX9 9 "NoonLawModel" "row" "[I") (List.mem_cons_of_mem _ bm_93)) rfl rfl dX9_works_50 ?_
            refine lv_iload_n hx hb dX9_works_53 rfl (lv_at hl 4 rfl) ?_
            refine lv_bipush (v := 61) hx hb dX9_works_54 (by decide) ?_
            refine lv_iadd hx hb dX9_works_56 ?_
            refine lv_topi (fun n16 e16 => ?_)
            have f16 : n16.toInt = (at9).toInt + (61 : Int32).toInt := zz_addT e16 (by omega) (by omega)
            refine lv_iload_n hx hb dX9_works_57 rfl (lv_at hl 1 rfl) ?_
            refine lv_iadd hx hb dX9_works_58 ?_
            refine lv_topi (fun n17 e17 => ?_)
            have f17 : n17.toInt = (n16).toInt + (kk).toInt := zz_addT e17 (by omega) (by omega)
            refine zz_ialds (σ0 := σ) hx hb hK hP (g0.2.1) (fun k => hC _ k (by first | (dsimp only; omega) | omega)) (by omega) (by omega) dX9_works_59 (fun j18 q18 r18 => ?_)
            have hv9 : (σ (h0 + 1) j18).toInt = V9 kk.toInt.toNat := by rw [show j18 = 218 + 121 * u + kk.toInt.toNat from by omega]; exact hwth _ hk9
            refine lv_goto (tgt := 79) hx hb dX9_works_60 (by decide) ?_
            refine zz_iast hx hb hK hP hS (g0.2.2.2.2.2.2.2.2.2.2.1) (by omega) (by omega) dX9_works_79 (fun j19 σ19 H locs q19 r19 w19 hP1 hS1 => ?_)
            replace hP := hP1
            replace hS := hS1
            clear hP1 hS1
            replace hC := hC.u w19 (dS21_1 h0)
            obtain ⟨n20, e20⟩ : ∃ y : Int32, y = nn + 1 := ⟨_, rfl⟩
            have f20 : n20.toInt = (nn).toInt + (1) := by have h9 := zz_addT e20 (by omega) (by omega); omega
            refine lv_iinc (v := n20) (lv' := [(2, .int n20), (4, .int (σ (h0 + 1) j6)), (3, .int kk), (0, .ref h0), (1, .int at9)]) hx hb dX9_works_80 hl (k := 2) rfl (by rw [e20]; rfl) (by decide) rfl (fun ls hl => ?_)
            refine lv_goto (tgt := 149) hx hb dX9_works_83 (by decide) ?_
            obtain ⟨n21, e21⟩ : ∃ y : Int32, y = kk + 1 := ⟨_, rfl⟩
            have f21 : n21.toInt = (kk).toInt + (1) := by have h9 := zz_addT e21 (by omega) (by omega); omega
            refine lv_iinc (v := n21) (lv' := [(3, .int n21), (2, .int n20), (4, .int (σ (h0 + 1) j6)), (0, .ref h0), (1, .int at9)]) hx hb dX9_works_149 hl (k := 2) rfl (by rw [e21]; rfl) (by decide) rfl (fun ls hl => ?_)
            refine lv_goto (tgt := 4) hx hb dX9_works_152 (by decide) ?_
            exact ih4 n20 n21 σ19 _ _ _ (by omega) hC (by omega) (by omega) (by rw [show n21.toInt.toNat = kk.toInt.toNat + 1 from by omega]; exact f4_2.push w19 (by omega) (by omega) (by omega) (zz_pv_1 (by omega) hv9)) hP hS (lv_sub hl [0, 1, 3, 4] rfl)
        · have c7 := zz_neT c7
          refine lv_iload hx hb dX9_works_32 (lv_at hl 0 rfl) ?_
          refine lv_iconst (v := 2) hx hb dX9_works_34 (by decide) ?_
          refine lv_icmp_ne (tgt := 86) hx hb dX9_works_35 (by decide) (fun c22 => ?_) (fun c22 => ?_)
          · have c22 := zz_neT c22
            refine lv_iload hx hb dX9_works_86 (lv_at hl 0 rfl) ?_
            refine lv_iconst (v := 3) hx hb dX9_works_88 (by decide) ?_
            refine lv_icmp_ne (tgt := 119) hx hb dX9_works_89 (by decide) (fun c23 => ?_) (fun c23 => ?_)
            · have c23 := zz_neT c23
              obtain ⟨n24, e24⟩ : ∃ y : Int32, y = nn + (-1) := ⟨_, rfl⟩
              have f24 : n24.toInt = (nn).toInt + (-1) := by have h9 := zz_addT e24 (by omega) (by omega); omega
              refine lv_iinc (v := n24) (lv' := [(2, .int n24), (4, .int (σ (h0 + 1) j6)), (3, .int kk), (0, .ref h0), (1, .int at9)]) hx hb dX9_works_119 hl (k := 2) rfl (by rw [e24]; rfl) (by decide) rfl (fun ls hl => ?_)
              refine lv_aload_n hx hb dX9_works_122 rfl (lv_at hl 3 rfl) ?_
              refine zz_getr hx hb hts hi9 hown hK hP (g0.1) rfl 10 (by decide) (hts (.fieldLink RX9 37 "NoonLawModel" "pile" "[I") (List.mem_cons_of_mem _ bm_102)) rfl rfl dX9_works_123 ?_
              refine lv_iload_n hx hb dX9_works_126 rfl (lv_at hl 0 rfl) ?_
              refine lv_iconst (v := 1) hx hb dX9_works_127 (by decide) ?_
              refine lv_isub hx hb dX9_works_128 ?_
              refine lv_topi (fun n25 e25 => ?_)
              have f25 : n25.toInt = (n24).toInt - (1 : Int32).toInt := zz_subT e25 (by omega) (by omega)
              refine lv_iload hx hb dX9_works_129 (lv_at hl 1 rfl) ?_
              refine lv_aload_n hx hb dX9_works_131 rfl (lv_at hl 3 rfl) ?_
              refine zz_getr hx hb hts hi9 hown hK hP (g0.1) rfl 10 (by decide) (hts (.fieldLink RX9 37 "NoonLawModel" "pile" "[I") (List.mem_cons_of_mem _ bm_102)) rfl rfl dX9_works_132 ?_
              refine lv_iload_n hx hb dX9_works_135 rfl (lv_at hl 0 rfl) ?_
              refine lv_iconst (v := 1) hx hb dX9_works_136 (by decide) ?_
              refine lv_isub hx hb dX9_works_137 ?_
              refine lv_topi (fun n26 e26 => ?_)
              have f26 : n26.toInt = (n24).toInt - (1 : Int32).toInt := zz_subT e26 (by omega) (by omega)
              refine zz_iald hx hb hK hP (g0.2.2.2.2.2.2.2.2.2.2.1) (by omega) (by omega) dX9_works_138 (fun j27 q27 r27 => ?_)
              refine lv_aload_n hx hb dX9_works_139 rfl (lv_at hl 3 rfl) ?_
              refine zz_getr hx hb hts hi9 hown hK hP (g0.1) rfl 10 (by decide) (hts (.fieldLink RX9 37 "NoonLawModel" "pile" "[I") (List.mem_cons_of_mem _ bm_102)) rfl rfl dX9_works_140 ?_
              refine lv_iload_n hx hb dX9_works_143 rfl (lv_at hl 0 rfl) ?_
              refine zz_iald hx hb hK hP (g0.2.2.2.2.2.2.2.2.2.2.1) (by omega) (by omega) dX9_works_144 (fun j28 q28 r28 => ?_)
              skip
              refine zz_callSp (As := [.int (σ (h0 + 1) j6), .int (σa (h0 + 10) j27), .int (σa (h0 + 10) j28)]) (rest := [.int n25, .ref (h0 + 10)]) ⟨hx, hb, hml, hown, hts⟩ hK hP hS (c_X9_twoOf l E σa (σ (h0 + 1) j6) (σa (h0 + 10) j27) (σa (h0 + 10) j28) (by omega)) (va_cwS 3 hts gX9_works_X9_twoOf rfl rfl rfl (by decide +kernel) ⟨Nat.le_of_ble_eq_true rfl, Nat.le_of_ble_eq_true rfl⟩) rfl hl.1 rfl (Nat.le_of_ble_eq_true rfl) dX9_works_145 ⟨Nat.zero_le _, Nat.zero_le _⟩ (fun r29 H locs f29 hP1 hS1 => ?_)
              replace hP := hP1
              replace hS := hS1
              clear hP1 hS1
              refine zz_iast hx hb hK hP hS (g0.2.2.2.2.2.2.2.2.2.2.1) (by omega) (by omega) dX9_works_148 (fun j30 σ30 H locs q30 r30 w30 hP1 hS1 => ?_)
              replace hP := hP1
              replace hS := hS1
              clear hP1 hS1
              replace hC := hC.u w30 (dS21_1 h0)
              obtain ⟨n31, e31⟩ : ∃ y : Int32, y = kk + 1 := ⟨_, rfl⟩
              have f31 : n31.toInt = (kk).toInt + (1) := by have h9 := zz_addT e31 (by omega) (by omega); omega
              refine lv_iinc (v := n31) (lv' := [(3, .int n31), (2, .int n24), (4, .int (σ (h0 + 1) j6)), (0, .ref h0), (1, .int at9)]) hx hb dX9_works_149 hl (k := 2) rfl (by rw [e31]; rfl) (by decide) rfl (fun ls hl => ?_)
              refine lv_goto (tgt := 4) hx hb dX9_works_152 (by decide) ?_
              exact ih4 n24 n31 σ30 _ _ _ (by omega) hC (by omega) (by omega) (by rw [show n31.toInt.toNat = kk.toInt.toNat + 1 from by omega]; exact f4_2.bin w30 (by omega) (by omega : (j28 : Int) = _) (by omega) (by omega) (by omega) (by omega) (by rw [show A9 kk.toInt.toNat = (σ (h0 + 1) j6).toInt from by omega, show j30 = j27 from by omega]; exact f29)) hP hS (lv_sub hl [0, 1, 3, 4] rfl)
            · have c23 := zz_eqT c23
              refine lv_aload_n hx hb dX9_works_92 rfl (lv_at hl 3 rfl) ?_
              refine zz_getr hx hb hts hi9 hown hK hP (g0.1) rfl 10 (by decide) (hts (.fieldLink RX9 37 "NoonLawModel" "pile" "[I") (List.mem_cons_of_mem _ bm_102)) rfl rfl dX9_works_93 ?_
              refine lv_iload_n hx hb dX9_works_96 rfl (lv_at hl 2 rfl) ?_
              refine lv_iconst (v := 1) hx hb dX9_works_97 (by decide) ?_
              refine lv_isub hx hb dX9_works_98 ?_
              refine lv_topi (fun n32 e32 => ?_)
              have f32 : n32.toInt = (nn).toInt - (1 : Int32).toInt := zz_subT e32 (by omega) (by omega)
              refine lv_aload_n hx hb dX9_works_99 rfl (lv_at hl 3 rfl) ?_
              refine zz_getr hx hb hts hi9 hown hK hP (g0.1) rfl 10 (by decide) (hts (.fieldLink RX9 37 "NoonLawModel" "pile" "[I") (List.mem_cons_of_mem _ bm_102)) rfl rfl dX9_works_100 ?_
              refine lv_iload_n hx hb dX9_works_103 rfl (lv_at hl 2 rfl) ?_
              refine lv_iconst (v := 1) hx hb dX9_works_104 (by decide) ?_
              refine lv_isub hx hb dX9_works_105 ?_
              refine lv_topi (fun n33 e33 => ?_)
              have f33 : n33.toInt = (nn).toInt - (1 : Int32).toInt := zz_subT e33 (by omega) (by omega)
              refine zz_iald hx hb hK hP (g0.2.2.2.2.2.2.2.2.2.2.1) (by omega) (by omega) dX9_works_106 (fun j34 q34 r34 => ?_)
              skip
              refine lv_if_ne (tgt := 114) hx hb dX9_works_107 (by decide) (fun c35 => ?_) (fun c35 => ?_)
              · have c35 := zz_neT c35
                refine lv_iconst (v := 0) hx hb dX9_works_114 (by decide) ?_
                refine zz_iast hx hb hK hP hS (g0.2.2.2.2.2.2.2.2.2.2.1) (by omega) (by omega) dX9_works_115 (fun j36 σ36 H locs q36 r36 w36 hP1 hS1 => ?_)
                replace hP := hP1
                replace hS := hS1
                clear hP1 hS1
                replace hC := hC.u w36 (dS21_1 h0)
                refine lv_goto (tgt := 149) hx hb dX9_works_116 (by decide) ?_
                obtain ⟨n37, e37⟩ : ∃ y : Int32, y = kk + 1 := ⟨_, rfl⟩
                have f37 : n37.toInt = (kk).toInt + (1) := by have h9 := zz_addT e37 (by omega) (by omega); omega
                refine lv_iinc (v := n37) (lv' := [(3, .int n37), (4, .int (σ (h0 + 1) j6)), (2, .int nn), (0, .ref h0), (1, .int at9)]) hx hb dX9_works_149 hl (k := 1) rfl (by rw [e37]; rfl) (by decide) rfl (fun ls hl => ?_)
                refine lv_goto (tgt := 4) hx hb dX9_works_152 (by decide) ?_
                exact ih4 nn n37 σ36 _ _ _ (by omega) hC (by omega) (by omega) (by rw [show n37.toInt.toNat = kk.toInt.toNat + 1 from by omega]; exact f4_2.deny w36 (by omega) (by omega) (by omega) (Or.inr ⟨by rw [show j36 = j34 from by omega]; omega, rfl⟩)) hP hS (lv_sub hl [0, 2, 3, 4] rfl)
              · have c35 := zz_eqT c35
                refine lv_iconst (v := 1) hx hb dX9_works_110 (by decide) ?_
                refine lv_goto (tgt := 115) hx hb dX9_works_111 (by decide) ?_
                refine zz_iast hx hb hK hP hS (g0.2.2.2.2.2.2.2.2.2.2.1) (by omega) (by omega) dX9_works_115 (fun j38 σ38 H locs q38 r38 w38 hP1 hS1 => ?_)
                replace hP := hP1
                replace hS := hS1
                clear hP1 hS1
                replace hC := hC.u w38 (dS21_1 h0)
                refine lv_goto (tgt := 149) hx hb dX9_works_116 (by decide) ?_
                obtain ⟨n39, e39⟩ : ∃ y : Int32, y = kk + 1 := ⟨_, rfl⟩
                have f39 : n39.toInt = (kk).toInt + (1) := by have h9 := zz_addT e39 (by omega) (by omega); omega
                refine lv_iinc (v := n39) (lv' := [(3, .int n39), (4, .int (σ (h0 + 1) j6)), (2, .int nn), (0, .ref h0), (1, .int at9)]) hx hb dX9_works_149 hl (k := 1) rfl (by rw [e39]; rfl) (by decide) rfl (fun ls hl => ?_)
                refine lv_goto (tgt := 4) hx hb dX9_works_152 (by decide) ?_
                exact ih4 nn n39 σ38 _ _ _ (by omega) hC (by omega) (by omega) (by rw [show n39.toInt.toNat = kk.toInt.toNat + 1 from by omega]; exact f4_2.deny w38 (by omega) (by omega) (by omega) (Or.inl ⟨by rw [show j38 = j34 from by omega]; omega, rfl⟩)) hP hS (lv_sub hl [0, 2, 3, 4] rfl)
          · have c22 := zz_eqT c22
            refine lv_aload_n hx hb dX9_works_38 rfl (lv_at hl 3 rfl) ?_
            refine zz_getr hx hb hts hi9 hown hK hP (g0.1) rfl 10 (by decide) (hts (.fieldLink RX9 37 "NoonLawModel" "pile" "[I") (List.mem_cons_of_mem _ bm_102)) rfl rfl dX9_works_39 ?_
            refine lv_iload_n hx hb dX9_works_42 rfl (lv_at hl 2 rfl) ?_
            refine lv_iload hx hb dX9_works_43 (lv_at hl 0 rfl) ?_
            refine lv_iconst (v := 1) hx hb dX9_works_45 (by decide) ?_
            refine lv_icmp_ne (tgt := 63) hx hb dX9_works_46 (by decide) (fun c40 => ?_) (fun c40 => ?_)
            · have c40 := zz_neT c40
              refine lv_aload_n hx hb dX9_works_63 rfl (lv_at hl 3 rfl) ?_
              refine zz_getr hx hb hts hi9 hown hK hP (g0.1) rfl 9 (by decide) (hts (.fieldLink RX9 34 "NoonLawModel" "facts" "[I") (List.mem_cons_of_mem _ bm_101)) rfl rfl dX9_works_64 ?_
              refine lv_aload_n hx hb dX9_works_67 rfl (lv_at hl 3 rfl) ?_
              refine zz_getr hx hb hts hi9 hown hK hP (g0.1) rfl 0 (by decide) (hts (.fieldLink RX9 9 "NoonLawModel" "row" "[I") (List.mem_cons_of_mem _ bm_93)) rfl rfl dX9_works_68 ?_
              refine lv_iload_n hx hb dX9_works_71 rfl (lv_at hl 4 rfl) ?_
              refine lv_bipush (v := 61) hx hb dX9_works_72 (by decide) ?_
              refine lv_iadd hx hb dX9_works_74 ?_
              refine lv_topi (fun n41 e41 => ?_)
              have f41 : n41.toInt = (at9).toInt + (61 : Int32).toInt := zz_addT e41 (by omega) (by omega)
              refine lv_iload_n hx hb dX9_works_75 rfl (lv_at hl 1 rfl) ?_
              refine lv_iadd hx hb dX9_works_76 ?_
              refine lv_topi (fun n42 e42 => ?_)
              have f42 : n42.toInt = (n41).toInt + (kk).toInt := zz_addT e42 (by omega) (by omega)
              refine zz_ialds (σ0 := σ) hx hb hK hP (g0.2.1) (fun k => hC _ k (by first | (dsimp only; omega) | omega)) (by omega) (by omega) dX9_works_77 (fun j43 q43 r43 => ?_)
              have hv9 : (σ (h0 + 1) j43).toInt = V9 kk.toInt.toNat := by rw [show j43 = 218 + 121 * u + kk.toInt.toNat from by omega]; exact hwth _ hk9
              refine zz_iald hx hb hK hP (g0.2.2.2.2.2.2.2.2.2.1) (by omega) (by omega) dX9_works_78 (fun j44 q44 r44 => ?_)
              refine zz_iast hx hb hK hP hS (g0.2.2.2.2.2.2.2.2.2.2.1) (by omega) (by omega) dX9_works_79 (fun j45 σ45 H locs q45 r45 w45 hP1 hS1 => ?_)
              replace hP := hP1
              replace hS := hS1
              clear hP1 hS1
              replace hC := hC.u w45 (dS21_1 h0)
              obtain ⟨n46, e46⟩ : ∃ y : Int32, y = nn + 1 := ⟨_, rfl⟩
              have f46 : n46.toInt = (nn).toInt + (1) := by have h9 := zz_addT e46 (by omega) (by omega); omega
              refine lv_iinc (v := n46) (lv' := [(2, .int n46), (4, .int (σ (h0 + 1) j6)), (3, .int kk), (0, .ref h0), (1, .int at9)]) hx hb dX9_works_80 hl (k := 2) rfl (by rw [e46]; rfl) (by decide) rfl (fun ls hl => ?_)
              refine lv_goto (tgt := 149) hx hb dX9_works_83 (by decide) ?_
              obtain ⟨n47, e47⟩ : ∃ y : Int32, y = kk + 1 := ⟨_, rfl⟩
              have f47 : n47.toInt = (kk).toInt + (1) := by have h9 := zz_addT e47 (by omega) (by omega); omega
              refine lv_iinc (v := n47) (lv' := [(3, .int n47), (2, .int n46), (4, .int (σ (h0 + 1) j6)), (0, .ref h0), (1, .int at9)]) hx hb dX9_works_149 hl (k := 2) rfl (by rw [e47]; rfl) (by decide) rfl (fun ls hl => ?_)
              refine lv_goto (tgt := 4) hx hb dX9_works_152 (by decide) ?_
              exact ih4 n46 n47 σ45 _ _ _ (by omega) hC (by omega) (by omega) (by rw [show n47.toInt.toNat = kk.toInt.toNat + 1 from by omega]; exact f4_2.push w45 (by omega) (by omega) (by omega) (zz_pv_2 (by omega) rfl (by rw [hC0 _ _ (by first | (dsimp only; omega) | omega)]; exact zz_fct hfc (by omega) (by omega)))) hP hS (lv_sub hl [0, 1, 3, 4] rfl)
            · have c40 := zz_eqT c40
              refine lv_aload_n hx hb dX9_works_49 rfl (lv_at hl 3 rfl) ?_
              refine zz_getr hx hb hts hi9 hown hK hP (g0.1) rfl 0 (by decide) (hts (.fieldLink RX9 9 "NoonLawModel" "row" "[I") (List.mem_cons_of_mem _ bm_93)) rfl rfl dX9_works_50 ?_
              refine lv_iload_n hx hb dX9_works_53 rfl (lv_at hl 4 rfl) ?_
              refine lv_bipush (v := 61) hx hb dX9_works_54 (by decide) ?_
              refine lv_iadd hx hb dX9_works_56 ?_
              refine lv_topi (fun n48 e48 => ?_)
              have f48 : n48.toInt = (at9).toInt + (61 : Int32).toInt := zz_addT e48 (by omega) (by omega)
              refine lv_iload_n hx hb dX9_works_57 rfl (lv_at hl 1 rfl) ?_
              refine lv_iadd hx hb dX9_works_58 ?_
              refine lv_topi (fun n49 e49 => ?_)
              have f49 : n49.toInt = (n48).toInt + (kk).toInt := zz_addT e49 (by omega) (by omega)
              refine zz_ialds (σ0 := σ) hx hb hK hP (g0.2.1) (fun k => hC _ k (by first | (dsimp only; omega) | omega)) (by omega) (by omega) dX9_works_59 (fun j50 q50 r50 => ?_)
              have hv9 : (σ (h0 + 1) j50).toInt = V9 kk.toInt.toNat := by rw [show j50 = 218 + 121 * u + kk.toInt.toNat from by omega]; exact hwth _ hk9
              refine lv_goto (tgt := 79) hx hb dX9_works_60 (by decide) ?_
              refine zz_iast hx hb hK hP hS (g0.2.2.2.2.2.2.2.2.2.2.1) (by omega) (by omega) dX9_works_79 (fun j51 σ51 H locs q51 r51 w51 hP1 hS1 => ?_)
              replace hP := hP1
              replace hS := hS1
              clear hP1 hS1
              replace hC := hC.u w51 (dS21_1 h0)
              obtain ⟨n52, e52⟩ : ∃ y : Int32, y = nn + 1 := ⟨_, rfl⟩
              have f52 : n52.toInt = (nn).toInt + (1) := by have h9 := zz_addT e52 (by omega) (by omega); omega
              refine lv_iinc (v := n52) (lv' := [(2, .int n52), (4, .int (σ (h0 + 1) j6)), (3, .int kk), (0, .ref h0), (1, .int at9)]) hx hb dX9_works_80 hl (k := 2) rfl (by rw [e52]; rfl) (by decide) rfl (fun ls hl => ?_)
              refine lv_goto (tgt := 149) hx hb dX9_works_83 (by decide) ?_
              obtain ⟨n53, e53⟩ : ∃ y : Int32, y = kk + 1 := ⟨_, rfl⟩
              have f53 : n53.toInt = (kk).toInt + (1) := by have h9 := zz_addT e53 (by omega) (by omega); omega
              refine lv_iinc (v := n53) (lv' := [(3, .int n53), (2, .int n52), (4, .int (σ (h0 + 1) j6)), (0, .ref h0), (1, .int at9)]) hx hb dX9_works_149 hl (k := 2) rfl (by rw [e53]; rfl) (by decide) rfl (fun ls hl => ?_)
              refine lv_goto (tgt := 4) hx hb dX9_works_152 (by decide) ?_
              exact ih4 n52 n53 σ51 _ _ _ (by omega) hC (by omega) (by omega) (by rw [show n53.toInt.toNat = kk.toInt.toNat + 1 from by omega]; exact f4_2.push w51 (by omega) (by omega) (by omega) (zz_pv_1 (by omega) hv9)) hP hS (lv_sub hl [0, 1, 3, 4] rfl)
  exact J4 _ 0 0 σ _ _ _ (Nat.lt_succ_self _) hC (by omega) (by omega) (by exact zz_pl.start (by omega) k_0) hP hS (lv_sub hl [0, 1, 2, 3] rfl)
theorem gX9_gives_X9_works : GoodIn wzX9_gives (wsV RX9 172 RX9 yX9_works wzX9_works) := wz_co bm_256 (wz_co bm_257 (wz_co bm_258 (wz_co bm_5 (wz_in bm_259))))
theorem gX9_gives_X9_held : GoodIn wzX9_gives (va_wsS RX9 175 yX9_held wzX9_held) := wz_co bm_263 (wz_co bm_264 (wz_co bm_5 (wz_in bm_265)))
theorem dS21_2 (x0 : Nat) : (x0 + 9) = x0 + 9 ∨ (x0 + 9) = x0 + 10 := by omega
theorem dS21_3 (x0 : Nat) : ∀ a k : Nat, (a = (x0) + 10) → (a = x0 + 9 ∨ a = x0 + 10) := by intro a k h; omega
theorem dS21_4 (x0 : Nat) : ¬ ((x0 + 1) = (x0) + 10) := by omega
set_option maxHeartbeats 4000000 in
set_option maxRecDepth 100000 in
theorem c_X9_gives (l : Launch) (E : zz_E) (σ : zz_S) (h0 : Nat) (us : Int32) (x1 : Int32) (x2 : Int32) (x3 : Int32) (g0 : zz_M E h0) (hu : 0 ≤ us.toInt ∧ us.toInt ≤ 1) (hI : zz_IW σ (h0 + 1)) (K : zy_W) (hW : zy_YW σ (h0 + 1) K) : Met l yX9_gives wzX9_gives ({ frames := 2, cells := 0, slots := 0, locals := 46 }) (va_Pc [.ref h0, .int us, .int x1, .int x2, .int x3] (zz_B E σ)) (va_Qi (fun r σ1 => zz_ch (fun a k => a = h0 + 9 ∨ a = h0 + 10) σ σ1 ∧ (r.toInt = zz_gv K.1 us.toInt x1 x2 x3)) (zz_B E) (zz_A E)) 0 0 (zz_A E) := by
  refine zz_met (cc := cX9_gives) (maxL := 7) (ret := (some .int)) (by decide) rfl (Nat.le_of_ble_eq_true rfl) ?_
  intro p e s m args below meth c ls hx hb hr hts hown hlocks hml hK hP hS hl
  have hl : lv_has ls 7 [(0, .ref h0), (1, .int us), (2, .int x1), (3, .int x2), (4, .int x3)] := hl
  have hown : s.vm.findClass RX9 = some m.cls := hown
  have hi9 : ∀ w ∈ wsX90, w ∈ wzX9_gives := fun w h => List.mem_cons_of_mem _ (hbw9 w h)
  have k_m99 : ((-99) : Int32).toInt = -99 := by decide +kernel
  have k_0 : (0 : Int32).toInt = 0 := by decide +kernel
  have k_1 : (1 : Int32).toInt = 1 := by decide +kernel
  have k_2 : (2 : Int32).toInt = 2 := by decide +kernel
  have k_99 : (99 : Int32).toInt = 99 := by decide +kernel
  have k_121 : (121 : Int32).toInt = 121 := by decide +kernel
  have k_157 : (157 : Int32).toInt = 157 := by decide +kernel
  replace t0 : σ (h0 + 1) 2 = σ (h0 + 1) 2 := rfl
  replace t1 : σ (h0 + 1) 3 = σ (h0 + 1) 3 := rfl
  replace t2 : σ (h0 + 1) 0 = σ (h0 + 1) 0 := rfl
  have hC : zz_ch (fun a k => a = h0 + 9 ∨ a = h0 + 10) σ σ := zz_ch.rf σ
  obtain ⟨hh, hsl, hd, hp, htc, hwc, hM, hT⟩ := id hI
  refine lv_sipush (v := 157) hx hb dX9_gives_0 (by decide) ?_
  refine lv_bipush (v := 121) hx hb dX9_gives_3 (by decide) ?_
  refine lv_iload_n hx hb dX9_gives_5 rfl (lv_at hl 1 rfl) ?_
  refine lv_imul hx hb dX9_gives_6 ?_
  refine lv_topi (fun n1 e1 => ?_)
  have f1 : n1.toInt = 121 * (us).toInt := zz_mulL 121 e1 (by decide) (by omega) (by omega)
  refine lv_iadd hx hb dX9_gives_7 ?_
  refine lv_topi (fun n2 e2 => ?_)
  have f2 : n2.toInt = (157 : Int32).toInt + (n1).toInt := zz_addT e2 (by omega) (by omega)
  refine lv_istore (lv' := [(5, .int n2), (0, .ref h0), (1, .int us), (2, .int x1), (3, .int x2), (4, .int x3)]) hx hb dX9_gives_8 hl (by decide) rfl (fun ls hl => ?_)
  refine lv_aload_n hx hb dX9_gives_10 rfl (lv_at hl 1 rfl) ?_
  refine zz_getr hx hb hts hi9 hown hK hP (g0.1) rfl 9 (by decide) (hts (.fieldLink RX9 34 "NoonLawModel" "facts" "[I") (List.mem_cons_of_mem _ bm_101)) rfl rfl dX9_gives_11 ?_
  refine lv_iconst (v := 0) hx hb dX9_gives_14 (by decide) ?_
  refine lv_iload_n hx hb dX9_gives_15 rfl (lv_at hl 3 rfl) ?_
  refine zz_iasc hx hb hK hP hS (g0.2.2.2.2.2.2.2.2.2.1) 0 (by decide) (by decide) dX9_gives_16 (fun σ3 H locs w3 hP1 hS1 => ?_)
  replace hP := hP1
  replace hS := hS1
  clear hP1 hS1
  replace hC := hC.u w3 (dS21_2 h0)
  replace t0 : σ3 (h0 + 1) 2 = σ (h0 + 1) 2 := (zz_w (b := (h0 + 1)) (j := 2) w3 (fun q9 => zz_na (a := h0) (i := 1) (j := 9) (by decide) q9.1)).trans t0
  replace t1 : σ3 (h0 + 1) 3 = σ (h0 + 1) 3 := (zz_w (b := (h0 + 1)) (j := 3) w3 (fun q9 => zz_na (a := h0) (i := 1) (j := 9) (by decide) q9.1)).trans t1
  replace t2 : σ3 (h0 + 1) 0 = σ (h0 + 1) 0 := (zz_w (b := (h0 + 1)) (j := 0) w3 (fun q9 => zz_na (a := h0) (i := 1) (j := 9) (by decide) q9.1)).trans t2
  refine lv_aload_n hx hb dX9_gives_17 rfl (lv_at hl 1 rfl) ?_
  refine zz_getr hx hb hts hi9 hown hK hP (g0.1) rfl 9 (by decide) (hts (.fieldLink RX9 34 "NoonLawModel" "facts" "[I") (List.mem_cons_of_mem _ bm_101)) rfl rfl dX9_gives_18 ?_
  refine lv_iconst (v := 1) hx hb dX9_gives_21 (by decide) ?_
  refine lv_iload_n hx hb dX9_gives_22 rfl (lv_at hl 4 rfl) ?_
  refine zz_iasc hx hb hK hP hS (g0.2.2.2.2.2.2.2.2.2.1) 1 (by decide) (by decide) dX9_gives_23 (fun σ4 H locs w4 hP1 hS1 => ?_)
  replace hP := hP1
  replace hS := hS1
  clear hP1 hS1
  replace hC := hC.u w4 (dS21_2 h0)
  replace t0 : σ4 (h0 + 1) 2 = σ (h0 + 1) 2 := (zz_w (b := (h0 + 1)) (j := 2) w4 (fun q9 => zz_na (a := h0) (i := 1) (j := 9) (by decide) q9.1)).trans t0
  replace t1 : σ4 (h0 + 1) 3 = σ (h0 + 1) 3 := (zz_w (b := (h0 + 1)) (j := 3) w4 (fun q9 => zz_na (a := h0) (i := 1) (j := 9) (by decide) q9.1)).trans t1
  replace t2 : σ4 (h0 + 1) 0 = σ (h0 + 1) 0 := (zz_w (b := (h0 + 1)) (j := 0) w4 (fun q9 => zz_na (a := h0) (i := 1) (j := 9) (by decide) q9.1)).trans t2
  refine lv_aload_n hx hb dX9_gives_24 rfl (lv_at hl 1 rfl) ?_
  refine zz_getr hx hb hts hi9 hown hK hP (g0.1) rfl 9 (by decide) (hts (.fieldLink RX9 34 "NoonLawModel" "facts" "[I") (List.mem_cons_of_mem _ bm_101)) rfl rfl dX9_gives_25 ?_
  refine lv_iconst (v := 2) hx hb dX9_gives_28 (by decide) ?_
  refine lv_iload hx hb dX9_gives_29 (lv_at hl 5 rfl) ?_
  refine zz_iasc hx hb hK hP hS (g0.2.2.2.2.2.2.2.2.2.1) 2 (by decide) (by decide) dX9_gives_31 (fun σ5 H locs w5 hP1 hS1 => ?_)
  replace hP := hP1
  replace hS := hS1
  clear hP1 hS1
  replace hC := hC.u w5 (dS21_2 h0)
  replace t0 : σ5 (h0 + 1) 2 = σ (h0 + 1) 2 := (zz_w (b := (h0 + 1)) (j := 2) w5 (fun q9 => zz_na (a := h0) (i := 1) (j := 9) (by decide) q9.1)).trans t0
  replace t1 : σ5 (h0 + 1) 3 = σ (h0 + 1) 3 := (zz_w (b := (h0 + 1)) (j := 3) w5 (fun q9 => zz_na (a := h0) (i := 1) (j := 9) (by decide) q9.1)).trans t1
  replace t2 : σ5 (h0 + 1) 0 = σ (h0 + 1) 0 := (zz_w (b := (h0 + 1)) (j := 0) w5 (fun q9 => zz_na (a := h0) (i := 1) (j := 9) (by decide) q9.1)).trans t2
  refine lv_aload_n hx hb dX9_gives_32 rfl (lv_at hl 1 rfl) ?_
  refine zz_getr hx hb hts hi9 hown hK hP (g0.1) rfl 0 (by decide) (hts (.fieldLink RX9 9 "NoonLawModel" "row" "[I") (List.mem_cons_of_mem _ bm_93)) rfl rfl dX9_gives_33 ?_
  refine lv_iload hx hb dX9_gives_36 (lv_at hl 0 rfl) ?_
  refine zz_ialds (σ0 := σ) hx hb hK hP (g0.2.1) (fun k => hC _ k (by first | (dsimp only; omega) | omega)) (by omega) (by omega) dX9_gives_38 (fun j6 q6 r6 => ?_)
  have hln : (σ (h0 + 1) j6).toInt = (K.1 us.toInt.toNat).1 := hW.len (by omega) (by omega)
  refine lv_if_le (tgt := 51) hx hb dX9_gives_39 (by decide) (fun c7 => ?_) (fun c7 => ?_)
  · have c7 := zz_leT c7
    refine lv_iload_n hx hb dX9_gives_51 rfl (lv_at hl 2 rfl) ?_
    refine lv_if_ne (tgt := 59) hx hb dX9_gives_52 (by decide) (fun c8 => ?_) (fun c8 => ?_)
    · have c8 := zz_neT c8
      refine lv_iload_n hx hb dX9_gives_59 rfl (lv_at hl 4 rfl) ?_
      refine lv_istore (lv' := [(6, .int x2), (5, .int n2), (0, .ref h0), (1, .int us), (2, .int x1), (3, .int x2), (4, .int x3)]) hx hb dX9_gives_60 hl (by decide) rfl (fun ls hl => ?_)
      refine lv_iload_n hx hb dX9_gives_62 rfl (lv_at hl 3 rfl) ?_
      refine lv_if_ne (tgt := 77) hx hb dX9_gives_63 (by decide) (fun c9 => ?_) (fun c9 => ?_)
      · have c9 := zz_neT c9
        refine lv_iload hx hb dX9_gives_77 (lv_at hl 0 rfl) ?_
        refine lv_bipush (v := (-99)) hx hb dX9_gives_79 (by decide) ?_
        refine lv_bipush (v := 99) hx hb dX9_gives_81 (by decide) ?_
        skip
        refine zz_callSp (As := [.int x2, .int (-99), .int 99]) (rest := []) ⟨hx, hb, hml, hown, hts⟩ hK hP hS (c_X9_held l E σ5 x2 (-99) 99 (by omega)) (va_cwS 3 hts gX9_gives_X9_held rfl rfl rfl (by decide +kernel) ⟨Nat.le_of_ble_eq_true rfl, Nat.le_of_ble_eq_true rfl⟩) rfl hl.1 rfl (Nat.le_of_ble_eq_true rfl) dX9_gives_83 ⟨Nat.zero_le _, Nat.zero_le _⟩ (fun r10 H locs f10 hP1 hS1 => ?_)
        replace hP := hP1
        replace hS := hS1
        clear hP1 hS1
        exact zz_iret hx hb hr hlocks hK hP hS dX9_gives_86 (by exact ⟨hC, zy_gM (u := us.toInt.toNat) (n := (K.1 us.toInt.toNat).1) (by omega) (by omega) rfl (Or.inr ⟨by omega, Or.inr ⟨by omega, rfl⟩⟩) (Or.inr ⟨by omega, by rw [f10, k_m99, k_99]⟩)⟩)
      · have c9 := zz_eqT c9
        refine lv_iload hx hb dX9_gives_66 (lv_at hl 0 rfl) ?_
        refine lv_iconst (v := 0) hx hb dX9_gives_68 (by decide) ?_
        refine lv_bipush (v := 99) hx hb dX9_gives_69 (by decide) ?_
        skip
        refine zz_callSp (As := [.int x2, .int 0, .int 99]) (rest := []) ⟨hx, hb, hml, hown, hts⟩ hK hP hS (c_X9_held l E σ5 x2 0 99 (by omega)) (va_cwS 3 hts gX9_gives_X9_held rfl rfl rfl (by decide +kernel) ⟨Nat.le_of_ble_eq_true rfl, Nat.le_of_ble_eq_true rfl⟩) rfl hl.1 rfl (Nat.le_of_ble_eq_true rfl) dX9_gives_71 ⟨Nat.zero_le _, Nat.zero_le _⟩ (fun r11 H locs f11 hP1 hS1 => ?_)
        replace hP := hP1
        replace hS := hS1
        clear hP1 hS1
        refine lv_goto (tgt := 86) hx hb dX9_gives_74 (by decide) ?_
        exact zz_iret hx hb hr hlocks hK hP hS dX9_gives_86 (by exact ⟨hC, zy_gM (u := us.toInt.toNat) (n := (K.1 us.toInt.toNat).1) (by omega) (by omega) rfl (Or.inr ⟨by omega, Or.inr ⟨by omega, rfl⟩⟩) (Or.inl ⟨by omega, by rw [f11, k_0, k_99]⟩)⟩)
    · have c8 := zz_eqT c8
      skip
      refine lv_iload_n hx hb dX9_gives_55 rfl (lv_at hl 3 rfl) ?_
      refine lv_goto (tgt := 60) hx hb dX9_gives_56 (by decide) ?_
      refine lv_istore (lv' := [(6, .int x1), (5, .int n2), (0, .ref h0), (1, .int us), (2, .int x1), (3, .int x2), (4, .int x3)]) hx hb dX9_gives_60 hl (by decide) rfl (fun ls hl => ?_)
      refine lv_iload_n hx hb dX9_gives_62 rfl (lv_at hl 3 rfl) ?_
      refine lv_if_ne (tgt := 77) hx hb dX9_gives_63 (by decide) (fun c12 => ?_) (fun c12 => ?_)
      · have c12 := zz_neT c12
        refine lv_iload hx hb dX9_gives_77 (lv_at hl 0 rfl) ?_
        refine lv_bipush (v := (-99)) hx hb dX9_gives_79 (by decide) ?_
        refine lv_bipush (v := 99) hx hb dX9_gives_81 (by decide) ?_
        skip
        refine zz_callSp (As := [.int x1, .int (-99), .int 99]) (rest := []) ⟨hx, hb, hml, hown, hts⟩ hK hP hS (c_X9_held l E σ5 x1 (-99) 99 (by omega)) (va_cwS 3 hts gX9_gives_X9_held rfl rfl rfl (by decide +kernel) ⟨Nat.le_of_ble_eq_true rfl, Nat.le_of_ble_eq_true rfl⟩) rfl hl.1 rfl (Nat.le_of_ble_eq_true rfl) dX9_gives_83 ⟨Nat.zero_le _, Nat.zero_le _⟩ (fun r13 H locs f13 hP1 hS1 => ?_)
        replace hP := hP1
        replace hS := hS1
        clear hP1 hS1
        exact zz_iret hx hb hr hlocks hK hP hS dX9_gives_86 (by exact ⟨hC, zy_gM (u := us.toInt.toNat) (n := (K.1 us.toInt.toNat).1) (by omega) (by omega) rfl (Or.inr ⟨by omega, Or.inl ⟨by omega, rfl⟩⟩) (Or.inr ⟨by omega, by rw [f13, k_m99, k_99]⟩)⟩)
      · have c12 := zz_eqT c12
        refine lv_iload hx hb dX9_gives_66 (lv_at hl 0 rfl) ?_
        refine lv_iconst (v := 0) hx hb dX9_gives_68 (by decide) ?_
        refine lv_bipush (v := 99) hx hb dX9_gives_69 (by decide) ?_
        skip
        refine zz_callSp (As := [.int x1, .int 0, .int 99]) (rest := []) ⟨hx, hb, hml, hown, hts⟩ hK hP hS (c_X9_held l E σ5 x1 0 99 (by omega)) (va_cwS 3 hts gX9_gives_X9_held rfl rfl rfl (by decide +kernel) ⟨Nat.le_of_ble_eq_true rfl, Nat.le_of_ble_eq_true rfl⟩) rfl hl.1 rfl (Nat.le_of_ble_eq_true rfl) dX9_gives_71 ⟨Nat.zero_le _, Nat.zero_le _⟩ (fun r14 H locs f14 hP1 hS1 => ?_)
        replace hP := hP1
        replace hS := hS1
        clear hP1 hS1
        refine lv_goto (tgt := 86) hx hb dX9_gives_74 (by decide) ?_
        exact zz_iret hx hb hr hlocks hK hP hS dX9_gives_86 (by exact ⟨hC, zy_gM (u := us.toInt.toNat) (n := (K.1 us.toInt.toNat).1) (by omega) (by omega) rfl (Or.inr ⟨by omega, Or.inl ⟨by omega, rfl⟩⟩) (Or.inl ⟨by omega, by rw [f14, k_0, k_99]⟩)⟩)
  · have c7 := zz_nleT c7
    refine lv_aload_n hx hb dX9_gives_42 rfl (lv_at hl 1 rfl) ?_
    refine lv_iload hx hb dX9_gives_43 (lv_at hl 0 rfl) ?_
    refine zz_callVi (As := [.int n2]) (rest := []) ⟨hx, hb, hml, hown, hts⟩ hK hP hS (c_X9_works l E σ5 h0 n2 g0 (K.1 us.toInt.toNat).2.1 (K.1 us.toInt.toNat).2.2 (K.1 us.toInt.toNat).1 us.toInt.toNat x1 x2 x3 (by omega) (by omega) (by rw [hC _ _ (by first | (dsimp only; omega) | omega)]; exact hW.len (by omega) rfl) (by intro k hk; rw [hC _ _ (by first | (dsimp only; omega) | omega)]; exact hW.act (by omega) hk) (by intro k hk; rw [hC _ _ (by first | (dsimp only; omega) | omega)]; exact hW.wth (by omega) hk) (by exact (hW.2.2.2.2.1 us.toInt.toNat (by omega)).2) (by exact ⟨by omega, (hW.2.2.2.2.1 us.toInt.toNat (by omega)).1⟩) (by exact ⟨by rw [w5, zz_un (by omega), w4, zz_un (by omega), w3, zz_us], by rw [w5, zz_un (by omega), w4, zz_us], by rw [w5, zz_us]⟩)) (cwV 1 hts gX9_gives_X9_works rfl rfl rfl (by decide +kernel) ⟨Nat.le_of_ble_eq_true rfl, Nat.le_of_ble_eq_true rfl⟩) (g0.1) rfl rfl hl.1 rfl (Nat.le_of_ble_eq_true rfl) dX9_gives_45 ⟨Nat.zero_le _, Nat.zero_le _⟩ (fun r15 σ15 H locs q15 hP1 hS1 => ?_)
    replace hP := hP1
    replace hS := hS1
    clear hP1 hS1
    try dsimp only at q15
    obtain ⟨w15, f15⟩ := q15
    replace hC := hC.tr (w15.mono (dS21_3 h0))
    try simp only [t0, t1, t2] at f15
    replace t0 : σ15 (h0 + 1) 2 = σ (h0 + 1) 2 := (w15 (h0 + 1) 2 (dS21_4 h0)).trans t0
    replace t1 : σ15 (h0 + 1) 3 = σ (h0 + 1) 3 := (w15 (h0 + 1) 3 (dS21_4 h0)).trans t1
    replace t2 : σ15 (h0 + 1) 0 = σ (h0 + 1) 0 := (w15 (h0 + 1) 0 (dS21_4 h0)).trans t2
    refine lv_goto (tgt := 60) hx hb dX9_gives_48 (by decide) ?_
    refine lv_istore (lv' := [(6, .int r15), (5, .int n2), (0, .ref h0), (1, .int us), (2, .int x1), (3, .int x2), (4, .int x3)]) hx hb dX9_gives_60 hl (by decide) rfl (fun ls hl => ?_)
    refine lv_iload_n hx hb dX9_gives_62 rfl (lv_at hl 3 rfl) ?_
    refine lv_if_ne (tgt := 77) hx hb dX9_gives_63 (by decide) (fun c16 => ?_) (fun c16 => ?_)
    · have c16 := zz_neT c16
      refine lv_iload hx hb dX9_gives_77 (lv_at hl 0 rfl) ?_
      refine lv_bipush (v := (-99)) hx hb dX9_gives_79 (by decide) ?_
      refine lv_bipush (v := 99) hx hb dX9_gives_81 (by decide) ?_
      skip
      refine zz_callSp (As := [.int r15, .int (-99), .int 99]) (rest := []) ⟨hx, hb, hml, hown, hts⟩ hK hP hS (c_X9_held l E σ15 r15 (-99) 99 (by omega)) (va_cwS 3 hts gX9_gives_X9_held rfl rfl rfl (by decide +kernel) ⟨Nat.le_of_ble_eq_true rfl, Nat.le_of_ble_eq_true rfl⟩) rfl hl.1 rfl (Nat.le_of_ble_eq_true rfl) dX9_gives_83 ⟨Nat.zero_le _, Nat.zero_le _⟩ (fun r17 H locs f17 hP1 hS1 => ?_)
      replace hP := hP1
      replace hS := hS1
      clear hP1 hS1
      exact zz_iret hx hb hr hlocks hK hP hS dX9_gives_86 (by exact ⟨hC, zy_gM (u := us.toInt.toNat) (n := (K.1 us.toInt.toNat).1) (by omega) (by omega) rfl (Or.inl ⟨by omega, f15⟩) (Or.inr ⟨by omega, by rw [f17, k_m99, k_99]⟩)⟩)
    · have c16 := zz_eqT c16
      refine lv_iload hx hb dX9_gives_66 (lv_at hl 0 rfl) ?_
      refine lv_iconst (v := 0) hx hb dX9_gives_68 (by decide) ?_
      refine lv_bipush (v := 99) hx hb dX9_gives_69 (by decide) ?_
      skip
      refine zz_callSp (As := [.int r15, .int 0, .int 99]) (rest := []) ⟨hx, hb, hml, hown, hts⟩ hK hP hS (c_X9_held l E σ15 r15 0 99 (by omega)) (va_cwS 3 hts gX9_gives_X9_held rfl rfl rfl (by decide +kernel) ⟨Nat.le_of_ble_eq_true rfl, Nat.le_of_ble_eq_true rfl⟩) rfl hl.1 rfl (Nat.le_of_ble_eq_true rfl) dX9_gives_71 ⟨Nat.zero_le _, Nat.zero_le _⟩ (fun r18 H locs f18 hP1 hS1 => ?_)
      replace hP := hP1
      replace hS := hS1
      clear hP1 hS1
      refine lv_goto (tgt := 86) hx hb dX9_gives_74 (by decide) ?_
      exact zz_iret hx hb hr hlocks hK hP hS dX9_gives_86 (by exact ⟨hC, zy_gM (u := us.toInt.toNat) (n := (K.1 us.toInt.toNat).1) (by omega) (by omega) rfl (Or.inl ⟨by omega, f15⟩) (Or.inl ⟨by omega, by rw [f18, k_0, k_99]⟩)⟩)
theorem gX9_weightOf_X9_of : GoodIn wzX9_weightOf (wsV RX9 51 RX9 yX9_of wzX9_of) := wz_co bm_240 (wz_co bm_241 (wz_co bm_242 (wz_co bm_5 (wz_in bm_243))))
theorem gX9_weightOf_X9_daysOn : GoodIn wzX9_weightOf (wsV RX9 55 RX9 yX9_daysOn wzX9_daysOn) := wz_co bm_248 (wz_co bm_249 (wz_co bm_250 (wz_co bm_5 (wz_in bm_251))))
theorem gX9_weightOf_X9_gives : GoodIn wzX9_weightOf (wsV RX9 58 RX9 yX9_gives wzX9_gives) := wz_co bm_252 (wz_co bm_253 (wz_co bm_254 (wz_co bm_5 (wz_in bm_255))))
theorem dS21_5 (x0 : Nat) : ∀ a k : Nat, (a = (x0) + 9 ∨ a = (x0) + 10) → (a = x0 + 9 ∨ a = x0 + 10) := by intro a k h; omega
theorem dS21_6 (x0 : Nat) : ¬ ((x0 + 1) = (x0) + 9 ∨ (x0 + 1) = (x0) + 10) := by omega
set_option maxHeartbeats 4000000 in
set_option maxRecDepth 100000 in
theorem c_X9_weightOf (l : Launch) (E : zz_E) (σ : zz_S) (h0 : Nat) (dd : Int32) (ho : Int32) (g0 : zz_M E h0) (hx : 0 ≤ dd.toInt ∧ dd.toInt ≤ 8) (hhr : 0 ≤ ho.toInt ∧ ho.toInt ≤ 20000) (hI : zz_IW σ (h0 + 1)) (K : zy_W) (hW : zy_YW σ (h0 + 1) K) : Met l yX9_weightOf wzX9_weightOf ({ frames := 3, cells := 0, slots := 0, locals := 72 }) (va_Pc [.ref h0, .int dd, .int ho] (zz_B E σ)) (va_Qi (fun r σ1 => zz_ch (fun a k => a = h0 + 9 ∨ a = h0 + 10) σ σ1 ∧ (r.toInt = zy_wt K ho.toInt dd.toInt.toNat)) (zz_B E) (zz_A E)) 0 0 (zz_A E) := by
  refine zz_met (cc := cX9_weightOf) (maxL := 3) (ret := (some .int)) (by decide) rfl (Nat.le_of_ble_eq_true rfl) ?_
  intro p e s m args below meth c ls hx hb hr hts hown hlocks hml hK hP hS hl
  have hl : lv_has ls 3 [(0, .ref h0), (1, .int dd), (2, .int ho)] := hl
  have hown : s.vm.findClass RX9 = some m.cls := hown
  have k_0 : (0 : Int32).toInt = 0 := by decide +kernel
  have k_1 : (1 : Int32).toInt = 1 := by decide +kernel
  replace t0 : σ (h0 + 1) 2 = σ (h0 + 1) 2 := rfl
  replace t1 : σ (h0 + 1) 3 = σ (h0 + 1) 3 := rfl
  replace t2 : σ (h0 + 1) 0 = σ (h0 + 1) 0 := rfl
  have hC : zz_ch (fun a k => a = h0 + 9 ∨ a = h0 + 10) σ σ := zz_ch.rf σ
  obtain ⟨hh, hsl, hd, hp, htc, hwc, hM, hT⟩ := id hI
  refine lv_aload_n hx hb dX9_weightOf_0 rfl (lv_at hl 0 rfl) ?_
  refine lv_iconst (v := 1) hx hb dX9_weightOf_1 (by decide) ?_
  refine lv_aload_n hx hb dX9_weightOf_2 rfl (lv_at hl 0 rfl) ?_
  refine lv_iload_n hx hb dX9_weightOf_3 rfl (lv_at hl 1 rfl) ?_
  refine lv_iconst (v := 0) hx hb dX9_weightOf_4 (by decide) ?_
  refine zz_callVp (As := [.int dd, .int 0]) (rest := [.int 1, .ref h0]) ⟨hx, hb, hml, hown, hts⟩ hK hP hS (c_X9_of l E σ h0 dd 0 g0 (by omega)) (cwV 2 hts gX9_weightOf_X9_of rfl rfl rfl (by decide +kernel) ⟨Nat.le_of_ble_eq_true rfl, Nat.le_of_ble_eq_true rfl⟩) (g0.1) rfl rfl hl.1 rfl (Nat.le_of_ble_eq_true rfl) dX9_weightOf_5 ⟨Nat.zero_le _, Nat.zero_le _⟩ (fun r1 H locs f1 hP1 hS1 => ?_)
  replace hP := hP1
  replace hS := hS1
  clear hP1 hS1
  have yo0 : r1.toInt = K.2.1 dd.toInt.toNat 0 := by rw [f1]; exact (congrArg (fun q => (σ (h0 + 1) q).toInt) (by omega)).trans (hW.at (j := dd.toInt.toNat) (f := 0) (by omega) (by decide))
  refine lv_aload_n hx hb dX9_weightOf_8 rfl (lv_at hl 0 rfl) ?_
  refine lv_iload_n hx hb dX9_weightOf_9 rfl (lv_at hl 1 rfl) ?_
  refine lv_iconst (v := 1) hx hb dX9_weightOf_10 (by decide) ?_
  refine zz_callVp (As := [.int dd, .int 1]) (rest := [.int r1, .int 1, .ref h0]) ⟨hx, hb, hml, hown, hts⟩ hK hP hS (c_X9_of l E σ h0 dd 1 g0 (by omega)) (cwV 2 hts gX9_weightOf_X9_of rfl rfl rfl (by decide +kernel) ⟨Nat.le_of_ble_eq_true rfl, Nat.le_of_ble_eq_true rfl⟩) (g0.1) rfl rfl hl.1 rfl (Nat.le_of_ble_eq_true rfl) dX9_weightOf_11 ⟨Nat.zero_le _, Nat.zero_le _⟩ (fun r2 H locs f2 hP1 hS1 => ?_)
  replace hP := hP1
  replace hS := hS1
  clear hP1 hS1
  have yo1 : r2.toInt = K.2.1 dd.toInt.toNat 1 := by rw [f2]; exact (congrArg (fun q => (σ (h0 + 1) q).toInt) (by omega)).trans (hW.at (j := dd.toInt.toNat) (f := 1) (by omega) (by decide))
  refine lv_aload_n hx hb dX9_weightOf_14 rfl (lv_at hl 0 rfl) ?_
  refine lv_iload_n hx hb dX9_weightOf_15 rfl (lv_at hl 1 rfl) ?_
  refine lv_iload_n hx hb dX9_weightOf_16 rfl (lv_at hl 2 rfl) ?_
  refine zz_callVp (As := [.int dd, .int ho]) (rest := [.int r2, .int r1, .int 1, .ref h0]) ⟨hx, hb, hml, hown, hts⟩ hK hP hS (c_X9_daysOn l E σ h0 dd ho g0 (by omega) (by first | omega | exact hI | exact hT) K (by exact hW)) (cwV 2 hts gX9_weightOf_X9_daysOn rfl rfl rfl (by decide +kernel) ⟨Nat.le_of_ble_eq_true rfl, Nat.le_of_ble_eq_true rfl⟩) (g0.1) rfl rfl hl.1 rfl (Nat.le_of_ble_eq_true rfl) dX9_weightOf_17 ⟨Nat.zero_le _, Nat.zero_le _⟩ (fun r3 H locs f3 hP1 hS1 => ?_)
  replace hP := hP1
  replace hS := hS1
  clear hP1 hS1
  skip
  refine zz_callVi (As := [.int 1, .int r1, .int r2, .int r3]) (rest := []) ⟨hx, hb, hml, hown, hts⟩ hK hP hS (c_X9_gives l E σ h0 1 r1 r2 r3 g0 (by first | omega | exact hI | exact hT) (by exact hI) K (by exact hW)) (cwV 4 hts gX9_weightOf_X9_gives rfl rfl rfl (by decide +kernel) ⟨Nat.le_of_ble_eq_true rfl, Nat.le_of_ble_eq_true rfl⟩) (g0.1) rfl rfl hl.1 rfl (Nat.le_of_ble_eq_true rfl) dX9_weightOf_20 ⟨Nat.zero_le _, Nat.zero_le _⟩ (fun r4 σ4 H locs q4 hP1 hS1 => ?_)
  replace hP := hP1
  replace hS := hS1
  clear hP1 hS1
  try dsimp only at q4
  obtain ⟨w4, f4⟩ := q4
  replace hC := hC.tr (w4.mono (dS21_5 h0))
  replace t0 : σ4 (h0 + 1) 2 = σ (h0 + 1) 2 := (w4 (h0 + 1) 2 (dS21_6 h0)).trans t0
  replace t1 : σ4 (h0 + 1) 3 = σ (h0 + 1) 3 := (w4 (h0 + 1) 3 (dS21_6 h0)).trans t1
  replace t2 : σ4 (h0 + 1) 0 = σ (h0 + 1) 0 := (w4 (h0 + 1) 0 (dS21_6 h0)).trans t2
  exact zz_iret hx hb hr hlocks hK hP hS dX9_weightOf_23 (by exact ⟨hC, by rw [zy_wt_eq, ← zz_ofI yo0, ← zz_ofI yo1, ← zz_ofI f3, f4, k_1]⟩)
theorem gX9_greatest_X9_of : GoodIn wzX9_greatest (wsV RX9 51 RX9 yX9_of wzX9_of) := wz_co bm_240 (wz_co bm_241 (wz_co bm_242 (wz_co bm_5 (wz_in bm_243))))
theorem gX9_greatest_X9_isInForce : GoodIn wzX9_greatest (wsV RX9 62 RX9 yX9_isInForce wzX9_isInForce) := wz_co bm_266 (wz_co bm_267 (wz_co bm_268 (wz_co bm_5 (wz_in bm_269))))
theorem gX9_greatest_X9_weightOf : GoodIn wzX9_greatest (wsV RX9 66 RX9 yX9_weightOf wzX9_weightOf) := wz_co bm_244 (wz_co bm_245 (wz_co bm_246 (wz_co bm_5 (wz_in bm_247))))
set_option maxHeartbeats 4000000 in
set_option maxRecDepth 100000 in
theorem c_X9_greatest (l : Launch) (E : zz_E) (σ : zz_S) (h0 : Nat) (mt : Int32) (si : Int32) (ho : Int32) (g0 : zz_M E h0) (hhr : 0 ≤ ho.toInt ∧ ho.toInt ≤ 20000) (hI : zz_IW σ (h0 + 1)) (K : zy_W) (hW : zy_YW σ (h0 + 1) K) : Met l yX9_greatest wzX9_greatest ({ frames := 4, cells := 0, slots := 0, locals := 94 }) (va_Pc [.ref h0, .int mt, .int si, .int ho] (zz_B E σ)) (va_Qi (fun r σ1 => zz_ch (fun a k => a = h0 + 9 ∨ a = h0 + 10) σ σ1 ∧ (r.toInt = zy_g K ho.toInt mt.toInt si.toInt)) (zz_B E) (zz_A E)) 0 0 (zz_A E) := by
  refine zz_met (cc := cX9_greatest) (maxL := 7) (ret := (some .int)) (by decide) rfl (Nat.le_of_ble_eq_true rfl) ?_
  intro p e s m args below meth c ls hx hb hr hts hown hlocks hml hK hP hS hl
  have hl : lv_has ls 7 [(0, .ref h0), (1, .int mt), (2, .int si), (3, .int ho)] := hl
  have hown : s.vm.findClass RX9 = some m.cls := hown
  have hi9 : ∀ w ∈ wsX90, w ∈ wzX9_greatest := fun w h => List.mem_cons_of_mem _ (hbw9 w h)
  have k_m1000000000 : ((-1000000000) : Int32).toInt = -1000000000 := by decide +kernel
  have k_0 : (0 : Int32).toInt = 0 := by decide +kernel
  have k_1 : (1 : Int32).toInt = 1 := by decide +kernel
  have k_2 : (2 : Int32).toInt = 2 := by decide +kernel
  have k_3 : (3 : Int32).toInt = 3 := by decide +kernel
  replace t0 : σ (h0 + 1) 2 = σ (h0 + 1) 2 := rfl
  replace t1 : σ (h0 + 1) 3 = σ (h0 + 1) 3 := rfl
  replace t2 : σ (h0 + 1) 0 = σ (h0 + 1) 0 := rfl
  have hC : zz_ch (fun a k => a = h0 + 9 ∨ a = h0 + 10) σ σ := zz_ch.rf σ
  obtain ⟨hh, hsl, hd, hp, htc, hwc, hM, hT⟩ := id hI
  have hct := hW.2.1
  refine lv_ldc (v := (-1000000000)) hx hb hown (hts (.constant RX9 46 (-1000000000)) (List.mem_cons_of_mem _ bm_150)) dX9_greatest_0 ?_
  refine lv_istore (lv' := [(4, .int (-1000000000)), (0, .ref h0), (1, .int mt), (2, .int si), (3, .int ho)]) hx hb dX9_greatest_2 hl (by decide) rfl (fun ls hl => ?_)
  refine lv_iconst (v := 0) hx hb dX9_greatest_4 (by decide) ?_
  refine lv_istore (lv' := [(5, .int 0), (4, .int (-1000000000)), (0, .ref h0), (1, .int mt), (2, .int si), (3, .int ho)]) hx hb dX9_greatest_5 hl (by decide) rfl (fun ls hl => ?_)
  have J7 : ∀ (n : Nat) (mo : Int32) (ii : Int32) (σa : zz_S) (H : Heap) (locs : List Loc) (ls : Array Slot), ((9 - ii.toInt).toNat) < n → (zz_ch (fun a k => a = h0 + 9 ∨ a = h0 + 10) σ σa) → (0 ≤ ii.toInt ∧ ii.toInt ≤ K.2.2.1) → (mo.toInt = zy_gx (-1000000000) (zy_Q K ho.toInt mt.toInt si.toInt) (zy_wt K ho.toInt) ii.toInt.toNat) → (σa (h0 + 1) 2 = σ (h0 + 1) 2) → (σa (h0 + 1) 3 = σ (h0 + 1) 3) → (σa (h0 + 1) 0 = σ (h0 + 1) 0) → zz_P E σa H → va_S (zz_A E) s.heap H locs → lv_has ls 7 [(5, .int ii), (4, .int mo), (0, .ref h0), (1, .int mt), (2, .int si), (3, .int ho)] → W p l e (headSpec wzX9_greatest ({ frames := 4, cells := 0, slots := 0, locals := 94 })).room s m args below meth c H locs 0 0 (MQ below (va_Qi (fun r σ1 => zz_ch (fun a k => a = h0 + 9 ∨ a = h0 + 10) σ σ1 ∧ (r.toInt = zy_g K ho.toInt mt.toInt si.toInt)) (zz_B E) (zz_A E)) args s 0 0 (zz_A E)) (F0 m 7 ls []) := by
    intro n
    induction n with
    | zero => intro mo ii σa H locs ls hm; exact absurd hm (Nat.not_lt_zero _)
    | succ n ih7 =>
      intro mo ii σa H locs ls hm hC f7_0 f7_1 t0 t1 t2 hP hS hl
      have hWb := hW.keep (fun k q => hC _ _ (by first | (dsimp only; omega) | omega))
      refine lv_iload hx hb dX9_greatest_7 (lv_at hl 0 rfl) ?_
      refine lv_aload_n hx hb dX9_greatest_9 rfl (lv_at hl 2 rfl) ?_
      refine zz_getr hx hb hts hi9 hown hK hP (g0.1) rfl 0 (by decide) (hts (.fieldLink RX9 9 "NoonLawModel" "row" "[I") (List.mem_cons_of_mem _ bm_93)) rfl rfl dX9_greatest_10 ?_
      refine lv_iconst (v := 2) hx hb dX9_greatest_13 (by decide) ?_
      refine zz_ialc hx hb hK hP (g0.2.1) 2 (by decide) (by decide) t0 dX9_greatest_14 ?_
      refine lv_icmp_ge (tgt := 81) hx hb dX9_greatest_15 (by decide) (fun c2 => ?_) (fun c2 => ?_)
      · have c2 := zz_leT c2
        refine lv_iload hx hb dX9_greatest_81 (lv_at hl 1 rfl) ?_
        exact zz_iret hx hb hr hlocks hK hP hS dX9_greatest_83 (by exact ⟨hC, by rw [f7_1, zy_g_eq, show ii.toInt.toNat = K.2.2.1.toNat from by omega]⟩)
      · have c2 := zz_nleT c2
        refine lv_aload_n hx hb dX9_greatest_18 rfl (lv_at hl 2 rfl) ?_
        refine lv_iload hx hb dX9_greatest_19 (lv_at hl 0 rfl) ?_
        refine lv_iconst (v := 2) hx hb dX9_greatest_21 (by decide) ?_
        refine zz_callVp (As := [.int ii, .int 2]) (rest := []) ⟨hx, hb, hml, hown, hts⟩ hK hP hS (c_X9_of l E σa h0 ii 2 g0 (by omega)) (cwV 2 hts gX9_greatest_X9_of rfl rfl rfl (by decide +kernel) ⟨Nat.le_of_ble_eq_true rfl, Nat.le_of_ble_eq_true rfl⟩) (g0.1) rfl rfl hl.1 rfl (Nat.le_of_ble_eq_true rfl) dX9_greatest_22 ⟨Nat.zero_le _, Nat.zero_le _⟩ (fun r3 H locs f3 hP1 hS1 => ?_)
        replace hP := hP1
        replace hS := hS1
        clear hP1 hS1
        have yo2 : r3.toInt = K.2.1 ii.toInt.toNat 2 := by rw [f3]; exact (congrArg (fun q => (σa (h0 + 1) q).toInt) (by omega)).trans (hWb.at (j := ii.toInt.toNat) (f := 2) (by omega) (by decide))
        refine lv_iload_n hx hb dX9_greatest_25 rfl (lv_at hl 3 rfl) ?_
        refine lv_icmp_ne (tgt := 75) hx hb dX9_greatest_26 (by decide) (fun c4 => ?_) (fun c4 => ?_)
        · have c4 := zz_neT c4
          obtain ⟨n5, e5⟩ : ∃ y : Int32, y = ii + 1 := ⟨_, rfl⟩
          have f5 : n5.toInt = (ii).toInt + (1) := by have h9 := zz_addT e5 (by omega) (by omega); omega
          refine lv_iinc (v := n5) (lv' := [(5, .int n5), (4, .int mo), (0, .ref h0), (1, .int mt), (2, .int si), (3, .int ho)]) hx hb dX9_greatest_75 hl (k := 0) rfl (by rw [e5]; rfl) (by decide) rfl (fun ls hl => ?_)
          refine lv_goto (tgt := 7) hx hb dX9_greatest_78 (by decide) ?_
          exact ih7 mo n5 σa _ _ _ (by omega) hC (by first | omega | exact hI | exact hT) (by rw [show n5.toInt.toNat = ii.toInt.toNat + 1 from by omega]; rw [zy_gx_0 (P := zy_Q K ho.toInt mt.toInt si.toInt) (fun q => by have q1 := q.1; omega)]; exact f7_1) t0 t1 t2 hP hS (lv_sub hl [0, 1, 2, 3, 4, 5] rfl)
        · have c4 := zz_eqT c4
          refine lv_aload_n hx hb dX9_greatest_29 rfl (lv_at hl 2 rfl) ?_
          refine lv_iload hx hb dX9_greatest_30 (lv_at hl 0 rfl) ?_
          refine lv_iconst (v := 3) hx hb dX9_greatest_32 (by decide) ?_
          refine zz_callVp (As := [.int ii, .int 3]) (rest := []) ⟨hx, hb, hml, hown, hts⟩ hK hP hS (c_X9_of l E σa h0 ii 3 g0 (by omega)) (cwV 2 hts gX9_greatest_X9_of rfl rfl rfl (by decide +kernel) ⟨Nat.le_of_ble_eq_true rfl, Nat.le_of_ble_eq_true rfl⟩) (g0.1) rfl rfl hl.1 rfl (Nat.le_of_ble_eq_true rfl) dX9_greatest_33 ⟨Nat.zero_le _, Nat.zero_le _⟩ (fun r6 H locs f6 hP1 hS1 => ?_)
          replace hP := hP1
          replace hS := hS1
          clear hP1 hS1
          have yo3 : r6.toInt = K.2.1 ii.toInt.toNat 3 := by rw [f6]; exact (congrArg (fun q => (σa (h0 + 1) q).toInt) (by omega)).trans (hWb.at (j := ii.toInt.toNat) (f := 3) (by omega) (by decide))
          refine lv_iload_n hx hb dX9_greatest_36 rfl (lv_at hl 4 rfl) ?_
          refine lv_icmp_ne (tgt := 75) hx hb dX9_greatest_37 (by decide) (fun c7 => ?_) (fun c7 => ?_)
          · have c7 := zz_neT c7
            obtain ⟨n8, e8⟩ : ∃ y : Int32, y = ii + 1 := ⟨_, rfl⟩
            have f8 : n8.toInt = (ii).toInt + (1) := by have h9 := zz_addT e8 (by omega) (by omega); omega
            refine lv_iinc (v := n8) (lv' := [(5, .int n8), (4, .int mo), (0, .ref h0), (1, .int mt), (2, .int si), (3, .int ho)]) hx hb dX9_greatest_75 hl (k := 0) rfl (by rw [e8]; rfl) (by decide) rfl (fun ls hl => ?_)
            refine lv_goto (tgt := 7) hx hb dX9_greatest_78 (by decide) ?_
            exact ih7 mo n8 σa _ _ _ (by omega) hC (by first | omega | exact hI | exact hT) (by rw [show n8.toInt.toNat = ii.toInt.toNat + 1 from by omega]; rw [zy_gx_0 (P := zy_Q K ho.toInt mt.toInt si.toInt) (fun q => by have q2 := q.2.1; omega)]; exact f7_1) t0 t1 t2 hP hS (lv_sub hl [0, 1, 2, 3, 4, 5] rfl)
          · have c7 := zz_eqT c7
            refine lv_aload_n hx hb dX9_greatest_40 rfl (lv_at hl 2 rfl) ?_
            refine lv_iload hx hb dX9_greatest_41 (lv_at hl 0 rfl) ?_
            refine lv_iload_n hx hb dX9_greatest_43 rfl (lv_at hl 5 rfl) ?_
            refine zz_callVp (As := [.int ii, .int ho]) (rest := []) ⟨hx, hb, hml, hown, hts⟩ hK hP hS (c_X9_isInForce l E σa h0 ii ho g0 (by omega) (by first | omega | exact hI | exact hT) K (by exact hW.keep (fun k q => hC _ _ (by first | (dsimp only; omega) | omega)))) (cwV 2 hts gX9_greatest_X9_isInForce rfl rfl rfl (by decide +kernel) ⟨Nat.le_of_ble_eq_true rfl, Nat.le_of_ble_eq_true rfl⟩) (g0.1) rfl rfl hl.1 rfl (Nat.le_of_ble_eq_true rfl) dX9_greatest_44 ⟨Nat.zero_le _, Nat.zero_le _⟩ (fun r9 H locs f9 hP1 hS1 => ?_)
            replace hP := hP1
            replace hS := hS1
            clear hP1 hS1
            have hF9 := f9
            refine lv_if_eq (tgt := 75) hx hb dX9_greatest_47 (by decide) (fun c10 => ?_) (fun c10 => ?_)
            · have c10 := zz_eqT c10
              obtain ⟨n11, e11⟩ : ∃ y : Int32, y = ii + 1 := ⟨_, rfl⟩
              have f11 : n11.toInt = (ii).toInt + (1) := by have h9 := zz_addT e11 (by omega) (by omega); omega
              refine lv_iinc (v := n11) (lv' := [(5, .int n11), (4, .int mo), (0, .ref h0), (1, .int mt), (2, .int si), (3, .int ho)]) hx hb dX9_greatest_75 hl (k := 0) rfl (by rw [e11]; rfl) (by decide) rfl (fun ls hl => ?_)
              refine lv_goto (tgt := 7) hx hb dX9_greatest_78 (by decide) ?_
              exact ih7 mo n11 σa _ _ _ (by omega) hC (by first | omega | exact hI | exact hT) (by rw [show n11.toInt.toNat = ii.toInt.toNat + 1 from by omega]; rw [zy_gx_0 (P := zy_Q K ho.toInt mt.toInt si.toInt) (fun q => (hF9.n (by omega)) q.2.2)]; exact f7_1) t0 t1 t2 hP hS (lv_sub hl [0, 1, 2, 3, 4, 5] rfl)
            · have c10 := zz_neT c10
              refine lv_aload_n hx hb dX9_greatest_50 rfl (lv_at hl 2 rfl) ?_
              refine lv_iload hx hb dX9_greatest_51 (lv_at hl 0 rfl) ?_
              refine lv_iload_n hx hb dX9_greatest_53 rfl (lv_at hl 5 rfl) ?_
              refine zz_callVi (As := [.int ii, .int ho]) (rest := []) ⟨hx, hb, hml, hown, hts⟩ hK hP hS (c_X9_weightOf l E σa h0 ii ho g0 (by omega) (by first | omega | exact hI | exact hT) (by exact hI.keep (fun k => hC _ _ (by first | (dsimp only; omega) | omega))) K (by exact hW.keep (fun k q => hC _ _ (by first | (dsimp only; omega) | omega)))) (cwV 2 hts gX9_greatest_X9_weightOf rfl rfl rfl (by decide +kernel) ⟨Nat.le_of_ble_eq_true rfl, Nat.le_of_ble_eq_true rfl⟩) (g0.1) rfl rfl hl.1 rfl (Nat.le_of_ble_eq_true rfl) dX9_greatest_54 ⟨Nat.zero_le _, Nat.zero_le _⟩ (fun r12 σ12 H locs q12 hP1 hS1 => ?_)
              replace hP := hP1
              replace hS := hS1
              clear hP1 hS1
              try dsimp only at q12
              obtain ⟨w12, f12⟩ := q12
              replace hC := hC.tr (w12.mono (dS21_5 h0))
              try simp only [t0, t1, t2] at f12
              replace t0 : σ12 (h0 + 1) 2 = σ (h0 + 1) 2 := (w12 (h0 + 1) 2 (dS21_6 h0)).trans t0
              replace t1 : σ12 (h0 + 1) 3 = σ (h0 + 1) 3 := (w12 (h0 + 1) 3 (dS21_6 h0)).trans t1
              replace t2 : σ12 (h0 + 1) 0 = σ (h0 + 1) 0 := (w12 (h0 + 1) 0 (dS21_6 h0)).trans t2
              have gw9 := f12
              refine lv_istore (lv' := [(6, .int r12), (5, .int ii), (4, .int mo), (0, .ref h0), (1, .int mt), (2, .int si), (3, .int ho)]) hx hb dX9_greatest_57 hl (by decide) rfl (fun ls hl => ?_)
              refine lv_iload hx hb dX9_greatest_59 (lv_at hl 0 rfl) ?_
              refine lv_iload hx hb dX9_greatest_61 (lv_at hl 2 rfl) ?_
              refine lv_icmp_le (tgt := 71) hx hb dX9_greatest_63 (by decide) (fun c13 => ?_) (fun c13 => ?_)
              · have c13 := zz_leT c13
                refine lv_iload hx hb dX9_greatest_71 (lv_at hl 2 rfl) ?_
                refine lv_istore (lv' := [(4, .int mo), (6, .int r12), (5, .int ii), (0, .ref h0), (1, .int mt), (2, .int si), (3, .int ho)]) hx hb dX9_greatest_73 hl (by decide) rfl (fun ls hl => ?_)
                obtain ⟨n14, e14⟩ : ∃ y : Int32, y = ii + 1 := ⟨_, rfl⟩
                have f14 : n14.toInt = (ii).toInt + (1) := by have h9 := zz_addT e14 (by omega) (by omega); omega
                refine lv_iinc (v := n14) (lv' := [(5, .int n14), (4, .int mo), (6, .int r12), (0, .ref h0), (1, .int mt), (2, .int si), (3, .int ho)]) hx hb dX9_greatest_75 hl (k := 2) rfl (by rw [e14]; rfl) (by decide) rfl (fun ls hl => ?_)
                refine lv_goto (tgt := 7) hx hb dX9_greatest_78 (by decide) ?_
                exact ih7 mo n14 σ12 _ _ _ (by omega) hC (by first | omega | exact hI | exact hT) (by rw [show n14.toInt.toNat = ii.toInt.toNat + 1 from by omega]; exact zy_gx_m (P := zy_Q K ho.toInt mt.toInt si.toInt) ⟨by omega, by omega, hF9.y (by omega)⟩ f7_1 ⟨by omega, by omega, by omega⟩ rfl) t0 t1 t2 hP hS (lv_sub hl [0, 1, 3, 4, 5, 6] rfl)
              · have c13 := zz_nleT c13
                refine lv_iload hx hb dX9_greatest_66 (lv_at hl 0 rfl) ?_
                refine lv_goto (tgt := 73) hx hb dX9_greatest_68 (by decide) ?_
                refine lv_istore (lv' := [(4, .int r12), (6, .int r12), (5, .int ii), (0, .ref h0), (1, .int mt), (2, .int si), (3, .int ho)]) hx hb dX9_greatest_73 hl (by decide) rfl (fun ls hl => ?_)
                obtain ⟨n15, e15⟩ : ∃ y : Int32, y = ii + 1 := ⟨_, rfl⟩
                have f15 : n15.toInt = (ii).toInt + (1) := by have h9 := zz_addT e15 (by omega) (by omega); omega
                refine lv_iinc (v := n15) (lv' := [(5, .int n15), (4, .int r12), (6, .int r12), (0, .ref h0), (1, .int mt), (2, .int si), (3, .int ho)]) hx hb dX9_greatest_75 hl (k := 2) rfl (by rw [e15]; rfl) (by decide) rfl (fun ls hl => ?_)
                refine lv_goto (tgt := 7) hx hb dX9_greatest_78 (by decide) ?_
                exact ih7 r12 n15 σ12 _ _ _ (by omega) hC (by first | omega | exact hI | exact hT) (by rw [show n15.toInt.toNat = ii.toInt.toNat + 1 from by omega]; exact zy_gx_m (P := zy_Q K ho.toInt mt.toInt si.toInt) ⟨by omega, by omega, hF9.y (by omega)⟩ f7_1 ⟨by omega, by omega, by omega⟩ rfl) t0 t1 t2 hP hS (lv_sub hl [0, 1, 3, 4, 5, 6] rfl)
  exact J7 _ (-1000000000) 0 σ _ _ _ (Nat.lt_succ_self _) hC (by first | omega | exact hI | exact hT) (by rw [show (0 : Int32).toInt.toNat = 0 from by decide, k_m1000000000]; rfl) t0 t1 t2 hP hS (lv_sub hl [0, 1, 2, 3, 4, 5] rfl)
theorem gX9_underAt_X9_greatest : GoodIn wzX9_underAt (wsV RX9 69 RX9 yX9_greatest wzX9_greatest) := wz_co bm_397 (wz_co bm_398 (wz_co bm_399 (wz_co bm_5 (wz_in bm_400))))
set_option maxHeartbeats 4000000 in
set_option maxRecDepth 100000 in
theorem c_X9_underAt (l : Launch) (E : zz_E) (σ : zz_S) (h0 : Nat) (mt : Int32) (ho : Int32) (g0 : zz_M E h0) (hhr : 0 ≤ ho.toInt ∧ ho.toInt ≤ 20000) (hI : zz_IW σ (h0 + 1)) (K : zy_W) (hW : zy_YW σ (h0 + 1) K) : Met l yX9_underAt wzX9_underAt ({ frames := 5, cells := 0, slots := 0, locals := 120 }) (va_Pc [.ref h0, .int mt, .int ho] (zz_B E σ)) (va_Qi (fun r σ1 => zz_ch (fun a k => a = h0 + 9 ∨ a = h0 + 10) σ σ1 ∧ (r.toInt = zy_u K ho.toInt mt.toInt)) (zz_B E) (zz_A E)) 0 0 (zz_A E) := by
  refine zz_met (cc := cX9_underAt) (maxL := 5) (ret := (some .int)) (by decide) rfl (Nat.le_of_ble_eq_true rfl) ?_
  intro p e s m args below meth c ls hx hb hr hts hown hlocks hml hK hP hS hl
  have hl : lv_has ls 5 [(0, .ref h0), (1, .int mt), (2, .int ho)] := hl
  have hown : s.vm.findClass RX9 = some m.cls := hown
  have k_m1 : ((-1) : Int32).toInt = -1 := by decide +kernel
  have k_0 : (0 : Int32).toInt = 0 := by decide +kernel
  have k_1 : (1 : Int32).toInt = 1 := by decide +kernel
  replace t0 : σ (h0 + 1) 2 = σ (h0 + 1) 2 := rfl
  replace t1 : σ (h0 + 1) 3 = σ (h0 + 1) 3 := rfl
  replace t2 : σ (h0 + 1) 0 = σ (h0 + 1) 0 := rfl
  have hC : zz_ch (fun a k => a = h0 + 9 ∨ a = h0 + 10) σ σ := zz_ch.rf σ
  obtain ⟨hh, hsl, hd, hp, htc, hwc, hM, hT⟩ := id hI
  refine lv_aload_n hx hb dX9_underAt_0 rfl (lv_at hl 0 rfl) ?_
  refine lv_iload_n hx hb dX9_underAt_1 rfl (lv_at hl 1 rfl) ?_
  refine lv_iconst (v := 1) hx hb dX9_underAt_2 (by decide) ?_
  refine lv_iload_n hx hb dX9_underAt_3 rfl (lv_at hl 2 rfl) ?_
  refine zz_callVi (As := [.int mt, .int 1, .int ho]) (rest := []) ⟨hx, hb, hml, hown, hts⟩ hK hP hS (c_X9_greatest l E σ h0 mt 1 ho g0 (by first | omega | exact hI | exact hT) (by exact hI) K (by exact hW)) (cwV 3 hts gX9_underAt_X9_greatest rfl rfl rfl (by decide +kernel) ⟨Nat.le_of_ble_eq_true rfl, Nat.le_of_ble_eq_true rfl⟩) (g0.1) rfl rfl hl.1 rfl (Nat.le_of_ble_eq_true rfl) dX9_underAt_4 ⟨Nat.zero_le _, Nat.zero_le _⟩ (fun r1 σ1 H locs q1 hP1 hS1 => ?_)
  replace hP := hP1
  replace hS := hS1
  clear hP1 hS1
  try dsimp only at q1
  obtain ⟨w1, f1⟩ := q1
  replace hC := hC.tr (w1.mono (dS21_5 h0))
  replace t0 : σ1 (h0 + 1) 2 = σ (h0 + 1) 2 := (w1 (h0 + 1) 2 (dS21_6 h0)).trans t0
  replace t1 : σ1 (h0 + 1) 3 = σ (h0 + 1) 3 := (w1 (h0 + 1) 3 (dS21_6 h0)).trans t1
  replace t2 : σ1 (h0 + 1) 0 = σ (h0 + 1) 0 := (w1 (h0 + 1) 0 (dS21_6 h0)).trans t2
  have gb := f1
  rw [k_1] at gb
  refine lv_istore_n (lv' := [(3, .int r1), (0, .ref h0), (1, .int mt), (2, .int ho)]) hx hb dX9_underAt_7 rfl hl (by decide) rfl (fun ls hl => ?_)
  skip
  refine lv_aload_n hx hb dX9_underAt_8 rfl (lv_at hl 1 rfl) ?_
  refine lv_iload_n hx hb dX9_underAt_9 rfl (lv_at hl 2 rfl) ?_
  refine lv_iconst (v := 0) hx hb dX9_underAt_10 (by decide) ?_
  refine lv_iload_n hx hb dX9_underAt_11 rfl (lv_at hl 3 rfl) ?_
  refine zz_callVi (As := [.int mt, .int 0, .int ho]) (rest := []) ⟨hx, hb, hml, hown, hts⟩ hK hP hS (c_X9_greatest l E σ1 h0 mt 0 ho g0 (by first | omega | exact hI | exact hT) (by exact hI.keep (fun k => hC _ _ (by first | (dsimp only; omega) | omega))) K (by exact hW.keep (fun k q => hC _ _ (by first | (dsimp only; omega) | omega)))) (cwV 3 hts gX9_underAt_X9_greatest rfl rfl rfl (by decide +kernel) ⟨Nat.le_of_ble_eq_true rfl, Nat.le_of_ble_eq_true rfl⟩) (g0.1) rfl rfl hl.1 rfl (Nat.le_of_ble_eq_true rfl) dX9_underAt_12 ⟨Nat.zero_le _, Nat.zero_le _⟩ (fun r2 σ2 H locs q2 hP1 hS1 => ?_)
  replace hP := hP1
  replace hS := hS1
  clear hP1 hS1
  try dsimp only at q2
  obtain ⟨w2, f2⟩ := q2
  replace hC := hC.tr (w2.mono (dS21_5 h0))
  try simp only [t0, t1, t2] at f2
  replace t0 : σ2 (h0 + 1) 2 = σ (h0 + 1) 2 := (w2 (h0 + 1) 2 (dS21_6 h0)).trans t0
  replace t1 : σ2 (h0 + 1) 3 = σ (h0 + 1) 3 := (w2 (h0 + 1) 3 (dS21_6 h0)).trans t1
  replace t2 : σ2 (h0 + 1) 0 = σ (h0 + 1) 0 := (w2 (h0 + 1) 0 (dS21_6 h0)).trans t2
  have ga := f2
  rw [k_0] at ga
  refine lv_istore (lv' := [(4, .int r2), (3, .int r1), (0, .ref h0), (1, .int mt), (2, .int ho)]) hx hb dX9_underAt_15 hl (by decide) rfl (fun ls hl => ?_)
  refine lv_iload_n hx hb dX9_underAt_17 rfl (lv_at hl 1 rfl) ?_
  refine lv_iload hx hb dX9_underAt_18 (lv_at hl 0 rfl) ?_
  refine lv_icmp_ne (tgt := 27) hx hb dX9_underAt_20 (by decide) (fun c3 => ?_) (fun c3 => ?_)
  · have c3 := zz_neT c3
    refine lv_iload_n hx hb dX9_underAt_27 rfl (lv_at hl 1 rfl) ?_
    refine lv_iload hx hb dX9_underAt_28 (lv_at hl 0 rfl) ?_
    refine lv_icmp_le (tgt := 37) hx hb dX9_underAt_30 (by decide) (fun c4 => ?_) (fun c4 => ?_)
    · have c4 := zz_leT c4
      refine lv_iconst (v := 0) hx hb dX9_underAt_37 (by decide) ?_
      have hu9 := zy_u_c K ho.toInt mt.toInt
      exact zz_iret hx hb hr hlocks hK hP hS dX9_underAt_38 (by exact ⟨hC, by omega⟩)
    · have c4 := zz_nleT c4
      refine lv_iconst (v := 1) hx hb dX9_underAt_33 (by decide) ?_
      refine lv_goto (tgt := 38) hx hb dX9_underAt_34 (by decide) ?_
      have hu9 := zy_u_c K ho.toInt mt.toInt
      exact zz_iret hx hb hr hlocks hK hP hS dX9_underAt_38 (by exact ⟨hC, by omega⟩)
  · have c3 := zz_eqT c3
    refine lv_iconst (v := (-1)) hx hb dX9_underAt_23 (by decide) ?_
    refine lv_goto (tgt := 38) hx hb dX9_underAt_24 (by decide) ?_
    have hu9 := zy_u_c K ho.toInt mt.toInt
    exact zz_iret hx hb hr hlocks hK hP hS dX9_underAt_38 (by exact ⟨hC, by omega⟩)
theorem gX9_mattersUnder_X9_underAt : GoodIn wzX9_mattersUnder (wsV RX9 73 RX9 yX9_underAt wzX9_underAt) := wz_co bm_393 (wz_co bm_394 (wz_co bm_395 (wz_co bm_5 (wz_in bm_396))))
set_option maxHeartbeats 4000000 in
set_option maxRecDepth 100000 in
theorem c_X9_mattersUnder (l : Launch) (E : zz_E) (σ : zz_S) (h0 : Nat) (ru : Int32) (ho : Int32) (g0 : zz_M E h0) (hhr : 0 ≤ ho.toInt ∧ ho.toInt ≤ 20000) (hI : zz_IW σ (h0 + 1)) (K : zy_W) (hW : zy_YW σ (h0 + 1) K) : Met l yX9_mattersUnder wzX9_mattersUnder ({ frames := 6, cells := 0, slots := 0, locals := 144 }) (va_Pc [.ref h0, .int ru, .int ho] (zz_B E σ)) (va_Qi (fun r σ1 => zz_ch (fun a k => a = h0 + 9 ∨ a = h0 + 10) σ σ1 ∧ (r = zy_st (fun m => zy_u K ho.toInt (m : Int) = ru.toInt) 10)) (zz_B E) (zz_A E)) 0 0 (zz_A E) := by
  refine zz_met (cc := cX9_mattersUnder) (maxL := 5) (ret := (some .int)) (by decide) rfl (Nat.le_of_ble_eq_true rfl) ?_
  intro p e s m args below meth c ls hx hb hr hts hown hlocks hml hK hP hS hl
  have hl : lv_has ls 5 [(0, .ref h0), (1, .int ru), (2, .int ho)] := hl
  have hown : s.vm.findClass RX9 = some m.cls := hown
  have k_0 : (0 : Int32).toInt = 0 := by decide +kernel
  have k_1 : (1 : Int32).toInt = 1 := by decide +kernel
  have k_10 : (10 : Int32).toInt = 10 := by decide +kernel
  replace t0 : σ (h0 + 1) 2 = σ (h0 + 1) 2 := rfl
  replace t1 : σ (h0 + 1) 3 = σ (h0 + 1) 3 := rfl
  replace t2 : σ (h0 + 1) 0 = σ (h0 + 1) 0 := rfl
  have hC : zz_ch (fun a k => a = h0 + 9 ∨ a = h0 + 10) σ σ := zz_ch.rf σ
  obtain ⟨hh, hsl, hd, hp, htc, hwc, hM, hT⟩ := id hI
  refine lv_iconst (v := 0) hx hb dX9_mattersUnder_0 (by decide) ?_
  refine lv_istore_n (lv' := [(3, .int 0), (0, .ref h0), (1, .int ru), (2, .int ho)]) hx hb dX9_mattersUnder_1 rfl hl (by decide) rfl (fun ls hl => ?_)
  refine lv_iconst (v := 0) hx hb dX9_mattersUnder_2 (by decide) ?_
  refine lv_istore (lv' := [(4, .int 0), (3, .int 0), (0, .ref h0), (1, .int ru), (2, .int ho)]) hx hb dX9_mattersUnder_3 hl (by decide) rfl (fun ls hl => ?_)
  have J5 : ∀ (n : Nat) (se : Int32) (ii : Int32) (σa : zz_S) (H : Heap) (locs : List Loc) (ls : Array Slot), ((10 - ii.toInt).toNat) < n → (zz_ch (fun a k => a = h0 + 9 ∨ a = h0 + 10) σ σa) → (0 ≤ ii.toInt ∧ ii.toInt ≤ 10) → (se = zy_st (fun m => zy_u K ho.toInt (m : Int) = ru.toInt) ii.toInt.toNat) → (σa (h0 + 1) 2 = σ (h0 + 1) 2) → (σa (h0 + 1) 3 = σ (h0 + 1) 3) → (σa (h0 + 1) 0 = σ (h0 + 1) 0) → zz_P E σa H → va_S (zz_A E) s.heap H locs → lv_has ls 5 [(4, .int ii), (3, .int se), (0, .ref h0), (1, .int ru), (2, .int ho)] → W p l e (headSpec wzX9_mattersUnder ({ frames := 6, cells := 0, slots := 0, locals := 144 })).room s m args below meth c H locs 0 0 (MQ below (va_Qi (fun r σ1 => zz_ch (fun a k => a = h0 + 9 ∨ a = h0 + 10) σ σ1 ∧ (r = zy_st (fun m => zy_u K ho.toInt (m : Int) = ru.toInt) 10)) (zz_B E) (zz_A E)) args s 0 0 (zz_A E)) (F0 m 5 ls []) := by
    intro n
    induction n with
    | zero => intro se ii σa H locs ls hm; exact absurd hm (Nat.not_lt_zero _)
    | succ n ih5 =>
      intro se ii σa H locs ls hm hC f5_0 f5_1 t0 t1 t2 hP hS hl
      refine lv_iload hx hb dX9_mattersUnder_5 (lv_at hl 0 rfl) ?_
      refine lv_bipush (v := 10) hx hb dX9_mattersUnder_7 (by decide) ?_
      refine lv_icmp_ge (tgt := 40) hx hb dX9_mattersUnder_9 (by decide) (fun c1 => ?_) (fun c1 => ?_)
      · have c1 := zz_leT c1
        refine lv_iload_n hx hb dX9_mattersUnder_40 rfl (lv_at hl 1 rfl) ?_
        exact zz_iret hx hb hr hlocks hK hP hS dX9_mattersUnder_41 (by exact ⟨hC, by rw [f5_1, show ii.toInt.toNat = 10 from by omega]⟩)
      · have c1 := zz_nleT c1
        refine lv_iload_n hx hb dX9_mattersUnder_12 rfl (lv_at hl 1 rfl) ?_
        refine lv_aload_n hx hb dX9_mattersUnder_13 rfl (lv_at hl 2 rfl) ?_
        refine lv_iload hx hb dX9_mattersUnder_14 (lv_at hl 0 rfl) ?_
        refine lv_iload_n hx hb dX9_mattersUnder_16 rfl (lv_at hl 4 rfl) ?_
        refine zz_callVi (As := [.int ii, .int ho]) (rest := [.int se]) ⟨hx, hb, hml, hown, hts⟩ hK hP hS (c_X9_underAt l E σa h0 ii ho g0 (by first | omega | exact hI | exact hT) (by exact hI.keep (fun k => hC _ _ (by first | (dsimp only; omega) | omega))) K (by exact hW.keep (fun k q => hC _ _ (by first | (dsimp only; omega) | omega)))) (cwV 2 hts gX9_mattersUnder_X9_underAt rfl rfl rfl (by decide +kernel) ⟨Nat.le_of_ble_eq_true rfl, Nat.le_of_ble_eq_true rfl⟩) (g0.1) rfl rfl hl.1 rfl (Nat.le_of_ble_eq_true rfl) dX9_mattersUnder_17 ⟨Nat.zero_le _, Nat.zero_le _⟩ (fun r2 σ2 H locs q2 hP1 hS1 => ?_)
        replace hP := hP1
        replace hS := hS1
        clear hP1 hS1
        try dsimp only at q2
        obtain ⟨w2, f2⟩ := q2
        replace hC := hC.tr (w2.mono (dS21_5 h0))
        try simp only [t0, t1, t2] at f2
        replace t0 : σ2 (h0 + 1) 2 = σ (h0 + 1) 2 := (w2 (h0 + 1) 2 (dS21_6 h0)).trans t0
        replace t1 : σ2 (h0 + 1) 3 = σ (h0 + 1) 3 := (w2 (h0 + 1) 3 (dS21_6 h0)).trans t1
        replace t2 : σ2 (h0 + 1) 0 = σ (h0 + 1) 0 := (w2 (h0 + 1) 0 (dS21_6 h0)).trans t2
        have hu9 : zy_u K ho.toInt ((ii.toInt.toNat : Nat) : Int) = r2.toInt := by rw [f2, show ((ii.toInt.toNat : Nat) : Int) = ii.toInt from by omega]
        refine lv_iload_n hx hb dX9_mattersUnder_20 rfl (lv_at hl 3 rfl) ?_
        refine lv_icmp_ne (tgt := 31) hx hb dX9_mattersUnder_21 (by decide) (fun c3 => ?_) (fun c3 => ?_)
        · have c3 := zz_neT c3
          refine lv_iconst (v := 0) hx hb dX9_mattersUnder_31 (by decide) ?_
          refine lv_ior hx hb dX9_mattersUnder_32 ?_
          refine lv_topi (fun n4 e4 => ?_)
          refine lv_istore_n (lv' := [(3, .int n4), (4, .int ii), (0, .ref h0), (1, .int ru), (2, .int ho)]) hx hb dX9_mattersUnder_33 rfl hl (by decide) rfl (fun ls hl => ?_)
          obtain ⟨n5, e5⟩ : ∃ y : Int32, y = ii + 1 := ⟨_, rfl⟩
          have f5 : n5.toInt = (ii).toInt + (1) := by have h9 := zz_addT e5 (by omega) (by omega); omega
          refine lv_iinc (v := n5) (lv' := [(4, .int n5), (3, .int n4), (0, .ref h0), (1, .int ru), (2, .int ho)]) hx hb dX9_mattersUnder_34 hl (k := 1) rfl (by rw [e5]; rfl) (by decide) rfl (fun ls hl => ?_)
          refine lv_goto (tgt := 5) hx hb dX9_mattersUnder_37 (by decide) ?_
          exact ih5 n4 n5 σ2 _ _ _ (by omega) hC (by first | omega | exact hI | exact hT) (by rw [show n5.toInt.toNat = ii.toInt.toNat + 1 from by omega]; exact zy_st_no0 (P := fun m => zy_u K ho.toInt (m : Int) = ru.toInt) (show ¬ zy_u K ho.toInt ((ii.toInt.toNat : Nat) : Int) = ru.toInt by rw [hu9]; omega) f5_1 e4 rfl) t0 t1 t2 hP hS (lv_sub hl [0, 1, 2, 3, 4] rfl)
        · have c3 := zz_eqT c3
          skip
          refine lv_iconst (v := 1) hx hb dX9_mattersUnder_24 (by decide) ?_
          refine lv_iload hx hb dX9_mattersUnder_25 (lv_at hl 0 rfl) ?_
          refine lv_ishl hx hb dX9_mattersUnder_27 ?_
          refine lv_topi (fun n6 e6 => ?_)
          refine lv_goto (tgt := 32) hx hb dX9_mattersUnder_28 (by decide) ?_
          refine lv_ior hx hb dX9_mattersUnder_32 ?_
          refine lv_topi (fun n7 e7 => ?_)
          refine lv_istore_n (lv' := [(3, .int n7), (4, .int ii), (0, .ref h0), (1, .int ru), (2, .int ho)]) hx hb dX9_mattersUnder_33 rfl hl (by decide) rfl (fun ls hl => ?_)
          obtain ⟨n8, e8⟩ : ∃ y : Int32, y = ii + 1 := ⟨_, rfl⟩
          have f8 : n8.toInt = (ii).toInt + (1) := by have h9 := zz_addT e8 (by omega) (by omega); omega
          refine lv_iinc (v := n8) (lv' := [(4, .int n8), (3, .int n7), (0, .ref h0), (1, .int ru), (2, .int ho)]) hx hb dX9_mattersUnder_34 hl (k := 1) rfl (by rw [e8]; rfl) (by decide) rfl (fun ls hl => ?_)
          refine lv_goto (tgt := 5) hx hb dX9_mattersUnder_37 (by decide) ?_
          exact ih5 n7 n8 σ2 _ _ _ (by omega) hC (by first | omega | exact hI | exact hT) (by rw [show n8.toInt.toNat = ii.toInt.toNat + 1 from by omega]; exact zy_st_in (P := fun m => zy_u K ho.toInt (m : Int) = ru.toInt) (show zy_u K ho.toInt ((ii.toInt.toNat : Nat) : Int) = ru.toInt by rw [hu9]; omega) f5_1 (i := ii) (by omega) e6 e7 rfl) t0 t1 t2 hP hS (lv_sub hl [0, 1, 2, 3, 4] rfl)
  exact J5 _ 0 0 σ _ _ _ (Nat.lt_succ_self _) hC (by first | omega | exact hI | exact hT) (by rw [show (0 : Int32).toInt.toNat = 0 from by decide]; rfl) t0 t1 t2 hP hS (lv_sub hl [0, 1, 2, 3, 4] rfl)
theorem gX9_disputes_X9_greatest : GoodIn wzX9_disputes (wsV RX9 69 RX9 yX9_greatest wzX9_greatest) := wz_co bm_397 (wz_co bm_398 (wz_co bm_399 (wz_co bm_5 (wz_in bm_400))))
set_option maxHeartbeats 4000000 in
set_option maxRecDepth 100000 in
theorem c_X9_disputes (l : Launch) (E : zz_E) (σ : zz_S) (h0 : Nat) (ho : Int32) (g0 : zz_M E h0) (hhr : 0 ≤ ho.toInt ∧ ho.toInt ≤ 20000) (hI : zz_IW σ (h0 + 1)) (K : zy_W) (hW : zy_YW σ (h0 + 1) K) : Met l yX9_disputes wzX9_disputes ({ frames := 5, cells := 0, slots := 0, locals := 120 }) (va_Pc [.ref h0, .int ho] (zz_B E σ)) (va_Qi (fun r σ1 => zz_ch (fun a k => a = h0 + 9 ∨ a = h0 + 10) σ σ1 ∧ (r.toInt = zy_nd K ho.toInt)) (zz_B E) (zz_A E)) 0 0 (zz_A E) := by
  refine zz_met (cc := cX9_disputes) (maxL := 4) (ret := (some .int)) (by decide) rfl (Nat.le_of_ble_eq_true rfl) ?_
  intro p e s m args below meth c ls hx hb hr hts hown hlocks hml hK hP hS hl
  have hl : lv_has ls 4 [(0, .ref h0), (1, .int ho)] := hl
  have hown : s.vm.findClass RX9 = some m.cls := hown
  have k_m1000000000 : ((-1000000000) : Int32).toInt = -1000000000 := by decide +kernel
  have k_0 : (0 : Int32).toInt = 0 := by decide +kernel
  have k_1 : (1 : Int32).toInt = 1 := by decide +kernel
  have k_10 : (10 : Int32).toInt = 10 := by decide +kernel
  replace t0 : σ (h0 + 1) 2 = σ (h0 + 1) 2 := rfl
  replace t1 : σ (h0 + 1) 3 = σ (h0 + 1) 3 := rfl
  replace t2 : σ (h0 + 1) 0 = σ (h0 + 1) 0 := rfl
  have hC : zz_ch (fun a k => a = h0 + 9 ∨ a = h0 + 10) σ σ := zz_ch.rf σ
  obtain ⟨hh, hsl, hd, hp, htc, hwc, hM, hT⟩ := id hI
  refine lv_iconst (v := 0) hx hb dX9_disputes_0 (by decide) ?_
  refine lv_istore_n (lv' := [(2, .int 0), (0, .ref h0), (1, .int ho)]) hx hb dX9_disputes_1 rfl hl (by decide) rfl (fun ls hl => ?_)
  refine lv_iconst (v := 0) hx hb dX9_disputes_2 (by decide) ?_
  refine lv_istore_n (lv' := [(3, .int 0), (2, .int 0), (0, .ref h0), (1, .int ho)]) hx hb dX9_disputes_3 rfl hl (by decide) rfl (fun ls hl => ?_)
  have J4 : ∀ (n : Nat) (nn : Int32) (ii : Int32) (σa : zz_S) (H : Heap) (locs : List Loc) (ls : Array Slot), ((10 - ii.toInt).toNat) < n → (zz_ch (fun a k => a = h0 + 9 ∨ a = h0 + 10) σ σa) → (0 ≤ ii.toInt ∧ ii.toInt ≤ 10) → (nn.toInt = zy_cn (fun m => zy_dp K ho.toInt (m : Int)) ii.toInt.toNat) → (σa (h0 + 1) 2 = σ (h0 + 1) 2) → (σa (h0 + 1) 3 = σ (h0 + 1) 3) → (σa (h0 + 1) 0 = σ (h0 + 1) 0) → zz_P E σa H → va_S (zz_A E) s.heap H locs → lv_has ls 4 [(3, .int ii), (2, .int nn), (0, .ref h0), (1, .int ho)] → W p l e (headSpec wzX9_disputes ({ frames := 5, cells := 0, slots := 0, locals := 120 })).room s m args below meth c H locs 0 0 (MQ below (va_Qi (fun r σ1 => zz_ch (fun a k => a = h0 + 9 ∨ a = h0 + 10) σ σ1 ∧ (r.toInt = zy_nd K ho.toInt)) (zz_B E) (zz_A E)) args s 0 0 (zz_A E)) (F0 m 4 ls []) := by
    intro n
    induction n with
    | zero => intro nn ii σa H locs ls hm; exact absurd hm (Nat.not_lt_zero _)
    | succ n ih4 =>
      intro nn ii σa H locs ls hm hC f4_0 f4_1 t0 t1 t2 hP hS hl
      have hcr := zy_cn_rng (fun m => zy_dp K ho.toInt (m : Int)) ii.toInt.toNat
      refine lv_iload_n hx hb dX9_disputes_4 rfl (lv_at hl 0 rfl) ?_
      refine lv_bipush (v := 10) hx hb dX9_disputes_5 (by decide) ?_
      refine lv_icmp_ge (tgt := 48) hx hb dX9_disputes_7 (by decide) (fun c1 => ?_) (fun c1 => ?_)
      · have c1 := zz_leT c1
        refine lv_iload_n hx hb dX9_disputes_48 rfl (lv_at hl 1 rfl) ?_
        exact zz_iret hx hb hr hlocks hK hP hS dX9_disputes_49 (by exact ⟨hC, by rw [zy_nd_eq, f4_1, show ii.toInt.toNat = 10 from by omega]⟩)
      · have c1 := zz_nleT c1
        refine lv_iload_n hx hb dX9_disputes_10 rfl (lv_at hl 1 rfl) ?_
        refine lv_aload_n hx hb dX9_disputes_11 rfl (lv_at hl 2 rfl) ?_
        refine lv_iload_n hx hb dX9_disputes_12 rfl (lv_at hl 0 rfl) ?_
        refine lv_iconst (v := 0) hx hb dX9_disputes_13 (by decide) ?_
        refine lv_iload_n hx hb dX9_disputes_14 rfl (lv_at hl 3 rfl) ?_
        refine zz_callVi (As := [.int ii, .int 0, .int ho]) (rest := [.int nn]) ⟨hx, hb, hml, hown, hts⟩ hK hP hS (c_X9_greatest l E σa h0 ii 0 ho g0 (by first | omega | exact hI | exact hT) (by exact hI.keep (fun k => hC _ _ (by first | (dsimp only; omega) | omega))) K (by exact hW.keep (fun k q => hC _ _ (by first | (dsimp only; omega) | omega)))) (cwV 3 hts gX9_disputes_X9_greatest rfl rfl rfl (by decide +kernel) ⟨Nat.le_of_ble_eq_true rfl, Nat.le_of_ble_eq_true rfl⟩) (g0.1) rfl rfl hl.1 rfl (Nat.le_of_ble_eq_true rfl) dX9_disputes_15 ⟨Nat.zero_le _, Nat.zero_le _⟩ (fun r2 σ2 H locs q2 hP1 hS1 => ?_)
        replace hP := hP1
        replace hS := hS1
        clear hP1 hS1
        try dsimp only at q2
        obtain ⟨w2, f2⟩ := q2
        replace hC := hC.tr (w2.mono (dS21_5 h0))
        try simp only [t0, t1, t2] at f2
        replace t0 : σ2 (h0 + 1) 2 = σ (h0 + 1) 2 := (w2 (h0 + 1) 2 (dS21_6 h0)).trans t0
        replace t1 : σ2 (h0 + 1) 3 = σ (h0 + 1) 3 := (w2 (h0 + 1) 3 (dS21_6 h0)).trans t1
        replace t2 : σ2 (h0 + 1) 0 = σ (h0 + 1) 0 := (w2 (h0 + 1) 0 (dS21_6 h0)).trans t2
        have hi9 : ((ii.toInt.toNat : Nat) : Int) = ii.toInt := by omega
        have ga := f2
        rw [k_0] at ga
        refine lv_ldc (v := (-1000000000)) hx hb hown (hts (.constant RX9 46 (-1000000000)) (List.mem_cons_of_mem _ bm_150)) dX9_disputes_18 ?_
        refine lv_icmp_le (tgt := 39) hx hb dX9_disputes_20 (by decide) (fun c3 => ?_) (fun c3 => ?_)
        · have c3 := zz_leT c3
          refine lv_iconst (v := 0) hx hb dX9_disputes_39 (by decide) ?_
          refine lv_iadd hx hb dX9_disputes_40 ?_
          refine lv_topi (fun n4 e4 => ?_)
          have f4 : n4.toInt = (nn).toInt + (0 : Int32).toInt := zz_addT e4 (by omega) (by omega)
          refine lv_istore_n (lv' := [(2, .int n4), (3, .int ii), (0, .ref h0), (1, .int ho)]) hx hb dX9_disputes_41 rfl hl (by decide) rfl (fun ls hl => ?_)
          obtain ⟨n5, e5⟩ : ∃ y : Int32, y = ii + 1 := ⟨_, rfl⟩
          have f5 : n5.toInt = (ii).toInt + (1) := by have h9 := zz_addT e5 (by omega) (by omega); omega
          refine lv_iinc (v := n5) (lv' := [(3, .int n5), (2, .int n4), (0, .ref h0), (1, .int ho)]) hx hb dX9_disputes_42 hl (k := 1) rfl (by rw [e5]; rfl) (by decide) rfl (fun ls hl => ?_)
          refine lv_goto (tgt := 4) hx hb dX9_disputes_45 (by decide) ?_
          exact ih4 n4 n5 σ2 _ _ _ (by omega) hC (by first | omega | exact hI | exact hT) (by rw [show n5.toInt.toNat = ii.toInt.toNat + 1 from by omega]; rw [zy_cn_0 (show ¬ zy_dp K ho.toInt ((ii.toInt.toNat : Nat) : Int) from by unfold zy_dp; rw [hi9]; omega)]; omega) t0 t1 t2 hP hS (lv_sub hl [0, 1, 2, 3] rfl)
        · have c3 := zz_nleT c3
          refine lv_aload_n hx hb dX9_disputes_23 rfl (lv_at hl 2 rfl) ?_
          refine lv_iload_n hx hb dX9_disputes_24 rfl (lv_at hl 0 rfl) ?_
          refine lv_iconst (v := 1) hx hb dX9_disputes_25 (by decide) ?_
          refine lv_iload_n hx hb dX9_disputes_26 rfl (lv_at hl 3 rfl) ?_
          refine zz_callVi (As := [.int ii, .int 1, .int ho]) (rest := [.int nn]) ⟨hx, hb, hml, hown, hts⟩ hK hP hS (c_X9_greatest l E σ2 h0 ii 1 ho g0 (by first | omega | exact hI | exact hT) (by exact hI.keep (fun k => hC _ _ (by first | (dsimp only; omega) | omega))) K (by exact hW.keep (fun k q => hC _ _ (by first | (dsimp only; omega) | omega)))) (cwV 3 hts gX9_disputes_X9_greatest rfl rfl rfl (by decide +kernel) ⟨Nat.le_of_ble_eq_true rfl, Nat.le_of_ble_eq_true rfl⟩) (g0.1) rfl rfl hl.1 rfl (Nat.le_of_ble_eq_true rfl) dX9_disputes_27 ⟨Nat.zero_le _, Nat.zero_le _⟩ (fun r6 σ6 H locs q6 hP1 hS1 => ?_)
          replace hP := hP1
          replace hS := hS1
          clear hP1 hS1
          try dsimp only at q6
          obtain ⟨w6, f6⟩ := q6
          replace hC := hC.tr (w6.mono (dS21_5 h0))
          try simp only [t0, t1, t2] at f6
          replace t0 : σ6 (h0 + 1) 2 = σ (h0 + 1) 2 := (w6 (h0 + 1) 2 (dS21_6 h0)).trans t0
          replace t1 : σ6 (h0 + 1) 3 = σ (h0 + 1) 3 := (w6 (h0 + 1) 3 (dS21_6 h0)).trans t1
          replace t2 : σ6 (h0 + 1) 0 = σ (h0 + 1) 0 := (w6 (h0 + 1) 0 (dS21_6 h0)).trans t2
          have gb := f6
          rw [k_1] at gb
          refine lv_ldc (v := (-1000000000)) hx hb hown (hts (.constant RX9 46 (-1000000000)) (List.mem_cons_of_mem _ bm_150)) dX9_disputes_30 ?_
          refine lv_icmp_le (tgt := 39) hx hb dX9_disputes_32 (by decide) (fun c7 => ?_) (fun c7 => ?_)
          · have c7 := zz_leT c7
            refine lv_iconst (v := 0) hx hb dX9_disputes_39 (by decide) ?_
            refine lv_iadd hx hb dX9_disputes_40 ?_
            refine lv_topi (fun n8 e8 => ?_)
            have f8 : n8.toInt = (nn).toInt + (0 : Int32).toInt := zz_addT e8 (by omega) (by omega)
            refine lv_istore_n (lv' := [(2, .int n8), (3, .int ii), (0, .ref h0), (1, .int ho)]) hx hb dX9_disputes_41 rfl hl (by decide) rfl (fun ls hl => ?_)
            obtain ⟨n9, e9⟩ : ∃ y : Int32, y = ii + 1 := ⟨_, rfl⟩
            have f9 : n9.toInt = (ii).toInt + (1) := by have h9 := zz_addT e9 (by omega) (by omega); omega
            refine lv_iinc (v := n9) (lv' := [(3, .int n9), (2, .int n8), (0, .ref h0), (1, .int ho)]) hx hb dX9_disputes_42 hl (k := 1) rfl (by rw [e9]; rfl) (by decide) rfl (fun ls hl => ?_)
            refine lv_goto (tgt := 4) hx hb dX9_disputes_45 (by decide) ?_
            exact ih4 n8 n9 σ6 _ _ _ (by omega) hC (by first | omega | exact hI | exact hT) (by rw [show n9.toInt.toNat = ii.toInt.toNat + 1 from by omega]; rw [zy_cn_0 (show ¬ zy_dp K ho.toInt ((ii.toInt.toNat : Nat) : Int) from by unfold zy_dp; rw [hi9]; omega)]; omega) t0 t1 t2 hP hS (lv_sub hl [0, 1, 2, 3] rfl)
          · have c7 := zz_nleT c7
            skip
            refine lv_iconst (v := 1) hx hb dX9_disputes_35 (by decide) ?_
            refine lv_goto (tgt := 40) hx hb dX9_disputes_36 (by decide) ?_
            refine lv_iadd hx hb dX9_disputes_40 ?_
            refine lv_topi (fun n10 e10 => ?_)
            have f10 : n10.toInt = (nn).toInt + (1 : Int32).toInt := zz_addT e10 (by omega) (by omega)
            refine lv_istore_n (lv' := [(2, .int n10), (3, .int ii), (0, .ref h0), (1, .int ho)]) hx hb dX9_disputes_41 rfl hl (by decide) rfl (fun ls hl => ?_)
            obtain ⟨n11, e11⟩ : ∃ y : Int32, y = ii + 1 := ⟨_, rfl⟩
            have f11 : n11.toInt = (ii).toInt + (1) := by have h9 := zz_addT e11 (by omega) (by omega); omega
            refine lv_iinc (v := n11) (lv' := [(3, .int n11), (2, .int n10), (0, .ref h0), (1, .int ho)]) hx hb dX9_disputes_42 hl (k := 1) rfl (by rw [e11]; rfl) (by decide) rfl (fun ls hl => ?_)
            refine lv_goto (tgt := 4) hx hb dX9_disputes_45 (by decide) ?_
            exact ih4 n10 n11 σ6 _ _ _ (by omega) hC (by first | omega | exact hI | exact hT) (by rw [show n11.toInt.toNat = ii.toInt.toNat + 1 from by omega]; rw [zy_cn_1 (show zy_dp K ho.toInt ((ii.toInt.toNat : Nat) : Int) from by unfold zy_dp; rw [hi9]; omega)]; omega) t0 t1 t2 hP hS (lv_sub hl [0, 1, 2, 3] rfl)
  exact J4 _ 0 0 σ _ _ _ (Nat.lt_succ_self _) hC (by first | omega | exact hI | exact hT) (by rw [show (0 : Int32).toInt.toNat = 0 from by decide, k_0]; rfl) t0 t1 t2 hP hS (lv_sub hl [0, 1, 2, 3] rfl)
theorem gX9_guiltOf_X9_about : GoodIn wzX9_guiltOf (wsV RX9 76 RX9 yX9_about wzX9_about) := wz_co bm_381 (wz_co bm_382 (wz_co bm_383 (wz_co bm_5 (wz_in bm_384))))
theorem gX9_guiltOf_X9_mattersUnder : GoodIn wzX9_guiltOf (wsV RX9 79 RX9 yX9_mattersUnder wzX9_mattersUnder) := wz_co bm_389 (wz_co bm_390 (wz_co bm_391 (wz_co bm_5 (wz_in bm_392))))
theorem gX9_guiltOf_X9_bits : GoodIn wzX9_guiltOf (va_wsS RX9 82 yX9_bits wzX9_bits) := wz_co bm_401 (wz_co bm_402 (wz_co bm_5 (wz_in bm_403)))
set_option maxHeartbeats 4000000 in
set_option maxRecDepth 100000 in
theorem c_X9_guiltOf (l : Launch) (E : zz_E) (σ : zz_S) (h0 : Nat) (pp : Int32) (ho : Int32) (g0 : zz_M E h0) (hx : 0 ≤ pp.toInt ∧ pp.toInt ≤ 5) (hhr : 0 ≤ ho.toInt ∧ ho.toInt ≤ 20000) (hI : zz_IW σ (h0 + 1)) (K : zy_W) (hW : zy_YW σ (h0 + 1) K) : Met l yX9_guiltOf wzX9_guiltOf ({ frames := 7, cells := 0, slots := 0, locals := 168 }) (va_Pc [.ref h0, .int pp, .int ho] (zz_B E σ)) (va_Qi (fun r σ1 => zz_ch (fun a k => a = h0 + 9 ∨ a = h0 + 10) σ σ1 ∧ (r.toInt = zy_gl K ho.toInt (σ (h0 + 1) (61 + 2 * pp.toInt.toNat)))) (zz_B E) (zz_A E)) 0 0 (zz_A E) := by
  refine zz_met (cc := cX9_guiltOf) (maxL := 4) (ret := (some .int)) (by decide) rfl (Nat.le_of_ble_eq_true rfl) ?_
  intro p e s m args below meth c ls hx hb hr hts hown hlocks hml hK hP hS hl
  have hl : lv_has ls 4 [(0, .ref h0), (1, .int pp), (2, .int ho)] := hl
  have hown : s.vm.findClass RX9 = some m.cls := hown
  have k_m1 : ((-1) : Int32).toInt = -1 := by decide +kernel
  have k_0 : (0 : Int32).toInt = 0 := by decide +kernel
  have k_1 : (1 : Int32).toInt = 1 := by decide +kernel
  replace t0 : σ (h0 + 1) 2 = σ (h0 + 1) 2 := rfl
  replace t1 : σ (h0 + 1) 3 = σ (h0 + 1) 3 := rfl
  replace t2 : σ (h0 + 1) 0 = σ (h0 + 1) 0 := rfl
  have hC : zz_ch (fun a k => a = h0 + 9 ∨ a = h0 + 10) σ σ := zz_ch.rf σ
  obtain ⟨hh, hsl, hd, hp, htc, hwc, hM, hT⟩ := id hI
  refine lv_aload_n hx hb dX9_guiltOf_0 rfl (lv_at hl 0 rfl) ?_
  refine lv_iload_n hx hb dX9_guiltOf_1 rfl (lv_at hl 1 rfl) ?_
  refine lv_iconst (v := 0) hx hb dX9_guiltOf_2 (by decide) ?_
  refine zz_callVp (As := [.int pp, .int 0]) (rest := []) ⟨hx, hb, hml, hown, hts⟩ hK hP hS (c_X9_about l E σ h0 pp 0 g0 (by omega)) (cwV 2 hts gX9_guiltOf_X9_about rfl rfl rfl (by decide +kernel) ⟨Nat.le_of_ble_eq_true rfl, Nat.le_of_ble_eq_true rfl⟩) (g0.1) rfl rfl hl.1 rfl (Nat.le_of_ble_eq_true rfl) dX9_guiltOf_3 ⟨Nat.zero_le _, Nat.zero_le _⟩ (fun r1 H locs f1 hP1 hS1 => ?_)
  replace hP := hP1
  replace hS := hS1
  clear hP1 hS1
  have hwo : r1 = σ (h0 + 1) (61 + 2 * pp.toInt.toNat) := by rw [f1]; exact congrArg (σ (h0 + 1)) (by omega)
  refine lv_istore_n (lv' := [(3, .int r1), (0, .ref h0), (1, .int pp), (2, .int ho)]) hx hb dX9_guiltOf_6 rfl hl (by decide) rfl (fun ls hl => ?_)
  refine lv_aload_n hx hb dX9_guiltOf_7 rfl (lv_at hl 1 rfl) ?_
  refine lv_iconst (v := 0) hx hb dX9_guiltOf_8 (by decide) ?_
  refine lv_iload_n hx hb dX9_guiltOf_9 rfl (lv_at hl 3 rfl) ?_
  refine zz_callVi (As := [.int 0, .int ho]) (rest := []) ⟨hx, hb, hml, hown, hts⟩ hK hP hS (c_X9_mattersUnder l E σ h0 0 ho g0 (by first | omega | exact hI | exact hT) (by exact hI) K (by exact hW)) (cwV 2 hts gX9_guiltOf_X9_mattersUnder rfl rfl rfl (by decide +kernel) ⟨Nat.le_of_ble_eq_true rfl, Nat.le_of_ble_eq_true rfl⟩) (g0.1) rfl rfl hl.1 rfl (Nat.le_of_ble_eq_true rfl) dX9_guiltOf_10 ⟨Nat.zero_le _, Nat.zero_le _⟩ (fun r2 σ2 H locs q2 hP1 hS1 => ?_)
  replace hP := hP1
  replace hS := hS1
  clear hP1 hS1
  try dsimp only at q2
  obtain ⟨w2, f2⟩ := q2
  replace hC := hC.tr (w2.mono (dS21_5 h0))
  replace t0 : σ2 (h0 + 1) 2 = σ (h0 + 1) 2 := (w2 (h0 + 1) 2 (dS21_6 h0)).trans t0
  replace t1 : σ2 (h0 + 1) 3 = σ (h0 + 1) 3 := (w2 (h0 + 1) 3 (dS21_6 h0)).trans t1
  replace t2 : σ2 (h0 + 1) 0 = σ (h0 + 1) 0 := (w2 (h0 + 1) 0 (dS21_6 h0)).trans t2
  refine lv_iload_n hx hb dX9_guiltOf_13 rfl (lv_at hl 0 rfl) ?_
  refine lv_iand hx hb dX9_guiltOf_14 ?_
  refine lv_topi (fun n3 e3 => ?_)
  have hra := zy_and_rng (by rw [f2]; exact zy_st_rng _ (Nat.le_refl 10)) e3
  refine zz_callSp (As := [.int n3]) (rest := []) ⟨hx, hb, hml, hown, hts⟩ hK hP hS (c_X9_bits l E σ2 n3 (by exact hra)) (va_cwS 1 hts gX9_guiltOf_X9_bits rfl rfl rfl (by decide +kernel) ⟨Nat.le_of_ble_eq_true rfl, Nat.le_of_ble_eq_true rfl⟩) rfl hl.1 rfl (Nat.le_of_ble_eq_true rfl) dX9_guiltOf_15 ⟨Nat.zero_le _, Nat.zero_le _⟩ (fun r4 H locs f4 hP1 hS1 => ?_)
  replace hP := hP1
  replace hS := hS1
  clear hP1 hS1
  refine lv_aload_n hx hb dX9_guiltOf_18 rfl (lv_at hl 1 rfl) ?_
  refine lv_iconst (v := 1) hx hb dX9_guiltOf_19 (by decide) ?_
  refine lv_iload_n hx hb dX9_guiltOf_20 rfl (lv_at hl 3 rfl) ?_
  refine zz_callVi (As := [.int 1, .int ho]) (rest := [.int r4]) ⟨hx, hb, hml, hown, hts⟩ hK hP hS (c_X9_mattersUnder l E σ2 h0 1 ho g0 (by first | omega | exact hI | exact hT) (by exact hI.keep (fun k => hC _ _ (by first | (dsimp only; omega) | omega))) K (by exact hW.keep (fun k q => hC _ _ (by first | (dsimp only; omega) | omega)))) (cwV 2 hts gX9_guiltOf_X9_mattersUnder rfl rfl rfl (by decide +kernel) ⟨Nat.le_of_ble_eq_true rfl, Nat.le_of_ble_eq_true rfl⟩) (g0.1) rfl rfl hl.1 rfl (Nat.le_of_ble_eq_true rfl) dX9_guiltOf_21 ⟨Nat.zero_le _, Nat.zero_le _⟩ (fun r5 σ5 H locs q5 hP1 hS1 => ?_)
  replace hP := hP1
  replace hS := hS1
  clear hP1 hS1
  try dsimp only at q5
  obtain ⟨w5, f5⟩ := q5
  replace hC := hC.tr (w5.mono (dS21_5 h0))
  try simp only [t0, t1, t2] at f5
  replace t0 : σ5 (h0 + 1) 2 = σ (h0 + 1) 2 := (w5 (h0 + 1) 2 (dS21_6 h0)).trans t0
  replace t1 : σ5 (h0 + 1) 3 = σ (h0 + 1) 3 := (w5 (h0 + 1) 3 (dS21_6 h0)).trans t1
  replace t2 : σ5 (h0 + 1) 0 = σ (h0 + 1) 0 := (w5 (h0 + 1) 0 (dS21_6 h0)).trans t2
  refine lv_iload_n hx hb dX9_guiltOf_24 rfl (lv_at hl 0 rfl) ?_
  refine lv_iconst (v := (-1)) hx hb dX9_guiltOf_25 (by decide) ?_
  refine lv_ixor hx hb dX9_guiltOf_26 ?_
  refine lv_topi (fun n6 e6 => ?_)
  refine lv_iand hx hb dX9_guiltOf_27 ?_
  refine lv_topi (fun n7 e7 => ?_)
  have hrb := zy_and_rng (by rw [f5]; exact zy_st_rng _ (Nat.le_refl 10)) e7
  refine zz_callSp (As := [.int n7]) (rest := [.int r4]) ⟨hx, hb, hml, hown, hts⟩ hK hP hS (c_X9_bits l E σ5 n7 (by exact hrb)) (va_cwS 1 hts gX9_guiltOf_X9_bits rfl rfl rfl (by decide +kernel) ⟨Nat.le_of_ble_eq_true rfl, Nat.le_of_ble_eq_true rfl⟩) rfl hl.1 rfl (Nat.le_of_ble_eq_true rfl) dX9_guiltOf_28 ⟨Nat.zero_le _, Nat.zero_le _⟩ (fun r8 H locs f8 hP1 hS1 => ?_)
  replace hP := hP1
  replace hS := hS1
  clear hP1 hS1
  have g9 := zy_gl_mk (K := K) (h := ho.toInt) (w := r1) f4.1 f8.1 e3 e7 e6 (by rw [f2, k_0]) (by rw [f5, k_1])
  refine lv_iadd hx hb dX9_guiltOf_31 ?_
  refine lv_topi (fun n9 e9 => ?_)
  have f9 : n9.toInt = (r4).toInt + (r8).toInt := zz_addT e9 (by omega) (by omega)
  exact zz_iret hx hb hr hlocks hK hP hS dX9_guiltOf_32 (by exact ⟨hC, by rw [← hwo, g9]; omega⟩)
theorem gX9_fineOf_X9_guiltOf : GoodIn wzX9_fineOf (wsV RX9 86 RX9 yX9_guiltOf wzX9_guiltOf) := wz_co bm_385 (wz_co bm_386 (wz_co bm_387 (wz_co bm_5 (wz_in bm_388))))
theorem gX9_fineOf_X9_gives : GoodIn wzX9_fineOf (wsV RX9 58 RX9 yX9_gives wzX9_gives) := wz_co bm_252 (wz_co bm_253 (wz_co bm_254 (wz_co bm_5 (wz_in bm_255))))
set_option maxHeartbeats 4000000 in
set_option maxRecDepth 100000 in
theorem c_X9_fineOf (l : Launch) (E : zz_E) (σ : zz_S) (h0 : Nat) (pp : Int32) (ho : Int32) (g0 : zz_M E h0) (hx : 0 ≤ pp.toInt ∧ pp.toInt ≤ 5) (hhr : 0 ≤ ho.toInt ∧ ho.toInt ≤ 20000) (hI : zz_IW σ (h0 + 1)) (K : zy_W) (hW : zy_YW σ (h0 + 1) K) : Met l yX9_fineOf wzX9_fineOf ({ frames := 8, cells := 0, slots := 0, locals := 191 }) (va_Pc [.ref h0, .int pp, .int ho] (zz_B E σ)) (va_Qi (fun r σ1 => zz_ch (fun a k => a = h0 + 9 ∨ a = h0 + 10) σ σ1 ∧ (r.toInt = zy_fn K ho.toInt (σ (h0 + 1) (61 + 2 * pp.toInt.toNat)) pp)) (zz_B E) (zz_A E)) 0 0 (zz_A E) := by
  refine zz_met (cc := cX9_fineOf) (maxL := 3) (ret := (some .int)) (by decide) rfl (Nat.le_of_ble_eq_true rfl) ?_
  intro p e s m args below meth c ls hx hb hr hts hown hlocks hml hK hP hS hl
  have hl : lv_has ls 3 [(0, .ref h0), (1, .int pp), (2, .int ho)] := hl
  have hown : s.vm.findClass RX9 = some m.cls := hown
  have k_0 : (0 : Int32).toInt = 0 := by decide +kernel
  have k_24 : (24 : Int32).toInt = 24 := by decide +kernel
  replace t0 : σ (h0 + 1) 2 = σ (h0 + 1) 2 := rfl
  replace t1 : σ (h0 + 1) 3 = σ (h0 + 1) 3 := rfl
  replace t2 : σ (h0 + 1) 0 = σ (h0 + 1) 0 := rfl
  have hC : zz_ch (fun a k => a = h0 + 9 ∨ a = h0 + 10) σ σ := zz_ch.rf σ
  obtain ⟨hh, hsl, hd, hp, htc, hwc, hM, hT⟩ := id hI
  refine lv_aload_n hx hb dX9_fineOf_0 rfl (lv_at hl 0 rfl) ?_
  refine lv_iconst (v := 0) hx hb dX9_fineOf_1 (by decide) ?_
  refine lv_aload_n hx hb dX9_fineOf_2 rfl (lv_at hl 0 rfl) ?_
  refine lv_iload_n hx hb dX9_fineOf_3 rfl (lv_at hl 1 rfl) ?_
  refine lv_iload_n hx hb dX9_fineOf_4 rfl (lv_at hl 2 rfl) ?_
  refine zz_callVi (As := [.int pp, .int ho]) (rest := [.int 0, .ref h0]) ⟨hx, hb, hml, hown, hts⟩ hK hP hS (c_X9_guiltOf l E σ h0 pp ho g0 (by omega) (by first | omega | exact hI | exact hT) (by exact hI) K (by exact hW)) (cwV 2 hts gX9_fineOf_X9_guiltOf rfl rfl rfl (by decide +kernel) ⟨Nat.le_of_ble_eq_true rfl, Nat.le_of_ble_eq_true rfl⟩) (g0.1) rfl rfl hl.1 rfl (Nat.le_of_ble_eq_true rfl) dX9_fineOf_5 ⟨Nat.zero_le _, Nat.zero_le _⟩ (fun r1 σ1 H locs q1 hP1 hS1 => ?_)
  replace hP := hP1
  replace hS := hS1
  clear hP1 hS1
  try dsimp only at q1
  obtain ⟨w1, f1⟩ := q1
  replace hC := hC.tr (w1.mono (dS21_5 h0))
  replace t0 : σ1 (h0 + 1) 2 = σ (h0 + 1) 2 := (w1 (h0 + 1) 2 (dS21_6 h0)).trans t0
  replace t1 : σ1 (h0 + 1) 3 = σ (h0 + 1) 3 := (w1 (h0 + 1) 3 (dS21_6 h0)).trans t1
  replace t2 : σ1 (h0 + 1) 0 = σ (h0 + 1) 0 := (w1 (h0 + 1) 0 (dS21_6 h0)).trans t2
  skip
  refine lv_iload_n hx hb dX9_fineOf_8 rfl (lv_at hl 2 rfl) ?_
  refine lv_bipush (v := 24) hx hb dX9_fineOf_9 (by decide) ?_
  refine lv_irem hx hb dX9_fineOf_11 (by decide) ?_
  refine lv_topi (fun n2 e2 => ?_)
  have f2 : n2.toInt = (ho).toInt % 24 := zz_remT 24 e2 (by decide) (by omega)
  refine lv_iload_n hx hb dX9_fineOf_12 rfl (lv_at hl 1 rfl) ?_
  refine zz_callVi (As := [.int 0, .int r1, .int n2, .int pp]) (rest := []) ⟨hx, hb, hml, hown, hts⟩ hK hP hS (c_X9_gives l E σ1 h0 0 r1 n2 pp g0 (by omega) (by exact hI.keep (fun k => hC _ _ (by first | (dsimp only; omega) | omega))) K (by exact hW.keep (fun k q => hC _ _ (by first | (dsimp only; omega) | omega)))) (cwV 4 hts gX9_fineOf_X9_gives rfl rfl rfl (by decide +kernel) ⟨Nat.le_of_ble_eq_true rfl, Nat.le_of_ble_eq_true rfl⟩) (g0.1) rfl rfl hl.1 rfl (Nat.le_of_ble_eq_true rfl) dX9_fineOf_13 ⟨Nat.zero_le _, Nat.zero_le _⟩ (fun r3 σ3 H locs q3 hP1 hS1 => ?_)
  replace hP := hP1
  replace hS := hS1
  clear hP1 hS1
  try dsimp only at q3
  obtain ⟨w3, f3⟩ := q3
  replace hC := hC.tr (w3.mono (dS21_5 h0))
  try simp only [t0, t1, t2] at f3
  replace t0 : σ3 (h0 + 1) 2 = σ (h0 + 1) 2 := (w3 (h0 + 1) 2 (dS21_6 h0)).trans t0
  replace t1 : σ3 (h0 + 1) 3 = σ (h0 + 1) 3 := (w3 (h0 + 1) 3 (dS21_6 h0)).trans t1
  replace t2 : σ3 (h0 + 1) 0 = σ (h0 + 1) 0 := (w3 (h0 + 1) 0 (dS21_6 h0)).trans t2
  exact zz_iret hx hb hr hlocks hK hP hS dX9_fineOf_16 (by exact ⟨hC, by rw [zy_fn_eq, ← f1, ← zz_ofI (rfl : r1.toInt = _), f3, k_0, show ho.toInt % 24 = n2.toInt from by omega, ← zz_ofI (rfl : n2.toInt = _)]⟩)
