theorem V_lshl {X : vCtx} {kc kn : Nat} {ws : va_W} {pc : Nat} {lv : List (Nat × Value)} {st : List Value} {cc : ByteArray} {nL : Nat} {Ts : List Cond} {own : String} {cl0 : List vw_C} {D0 : va_G} {tys : List (ClassId × FieldType)} {l0 : Launch} {R0 : Room} (C : vC X cc nL Ts own cl0 D0 tys l0 R0) {x v : Int64} {y : Int32} (hdg : decode cc pc = .ok (.lshl, 1)) (hv : x <<< (y.toInt64 &&& 63) = v) (k : V X kc kn ws (pc + 1) lv (.long v :: st)) : V X kc kn ws pc lv (.int y :: .long x :: st) := by
  obtain ⟨p, l, e, R, s, m, args, below, meth, c, Q, D, cl, A⟩ := X
  obtain ⟨hx, hb, hml, hown, hts, hK, hA, rfl, rfl, rfl, rfl, hlk⟩ := C
  intro H locs ls hP hD hS hl
  exact lv_lshl hx hb hdg hv (k H locs ls hP hD hS hl)
theorem lin {L : Nat} {i : Nat} (h : i < L) (hL : L ≤ 3584) : vp_in (nI i) L := by
  have e := nI_toInt (n := i) (by omega)
  have c := nI_clamp (n := i) (by omega)
  unfold vp_in
  rw [c]
  intro q
  rcases q with q | q
  · have := Int32.lt_iff_toInt_lt.mp q
    have l0 : (0 : Int32).toInt = 0 := by decide
    omega
  · omega
theorem lin_a {L j : Nat} {k : Nat} {y : Int32} (hy : y = nI k) (hj : 7 * j + 7 ≤ L) (hL : L ≤ 3584) (hk : k ≤ 6) : vp_in (nI (7 * j) + y) L := by
  rw [hy, nI_add]
  exact lin (by omega) hL
set_option maxHeartbeats 4000000 in
set_option maxRecDepth 100000 in
theorem k_instruction {X : vCtx} {l : Launch} (hlf : l.stackTraces = false) {D : va_G} {K : Nat → ClassId} {G : gE} {tb : Nat → Nat} (ga9 : gAll G tb) (gx : gXc G) (gc : gCa G) {h h2 : Nat → Nat} {ao : Nat} {f : Nat → Int64} {u : CS} {v : MS} (C : vC X cL_law 8 wsL_law RL vwCl D (tys0 K) l room_1) (hg : vG X G) {b L : Nat} {xs : Nat → Int32} (hs : vS X b L xs) {j : Nat} (hj : 7 * j + 7 ≤ L) (hL : L ≤ 3584) {kc kn : Nat} (hkc : kc + 1 ≤ 601024) (hkn : kn + 6 ≤ 7293034) (hR : RW u v) (next : ∀ (v9 : MS) (f9 : Nat → Int64) (u9 : CS), RW u9 v9 → V X (kc + 1) (kn + 6) (mw K h2 v9 ++ lwd K h ao (f9, u9)) 901 [(4, .int (nI (7 * j))), (3, .ref ao), (2, .ref (h2 0)), (1, .ref (h 0)), (0, .ref b)] []) : V X kc kn (mw K h2 v ++ lwd K h ao (f, u)) 104 [(4, .int (nI (7 * j))), (3, .ref ao), (2, .ref (h2 0)), (1, .ref (h 0)), (0, .ref b)] [] := by
  refine V_aload_n C dL_law_104 rfl 3 rfl ?_
  refine V_aload_n C dL_law_105 rfl 4 rfl ?_
  refine V_iload C dL_law_106 0 rfl ?_
  refine V_iconst (v := 1) C dL_law_108 (by decide) ?_
  refine V_iadd C dL_law_109 ?_
  refine V_sld C hs dL_law_110 (lin_a (k := 1) rfl hj hL (by omega)) ?_
  refine V_aload_n C dL_law_111 rfl 4 rfl ?_
  refine V_iload C dL_law_112 0 rfl ?_
  refine V_iconst (v := 2) C dL_law_114 (by decide) ?_
  refine V_iadd C dL_law_115 ?_
  refine V_sld C hs dL_law_116 (lin_a (k := 2) rfl hj hL (by omega)) ?_
  refine V_aload_n C dL_law_117 rfl 4 rfl ?_
  refine V_iload C dL_law_118 0 rfl ?_
  refine V_iconst (v := 3) C dL_law_120 (by decide) ?_
  refine V_iadd C dL_law_121 ?_
  refine V_sld C hs dL_law_122 (lin_a (k := 3) rfl hj hL (by omega)) ?_
  refine V_aload_n C dL_law_123 rfl 4 rfl ?_
  refine V_iload C dL_law_124 0 rfl ?_
  refine V_iconst (v := 4) C dL_law_126 (by decide) ?_
  refine V_iadd C dL_law_127 ?_
  refine V_sld C hs dL_law_128 (lin_a (k := 4) rfl hj hL (by omega)) ?_
  refine V_aload_n C dL_law_129 rfl 4 rfl ?_
  refine V_iload C dL_law_130 0 rfl ?_
  refine V_iconst (v := 5) C dL_law_132 (by decide) ?_
  refine V_iadd C dL_law_133 ?_
  refine V_sld C hs dL_law_134 (lin_a (k := 5) rfl hj hL (by omega)) ?_
  refine V_aload_n C dL_law_135 rfl 4 rfl ?_
  refine V_iload C dL_law_136 0 rfl ?_
  refine V_bipush (v := 6) C dL_law_138 (by decide) ?_
  refine V_iadd C dL_law_140 ?_
  refine V_sld C hs dL_law_141 (lin_a (k := 6) rfl hj hL (by omega)) ?_
  refine V_if_eq (tgt := 149) C dL_law_142 (by decide) (fun zh142 => ?_) (fun zh142 => ?_)
  · refine V_iconst (v := (b2i false)) C dL_law_149 (by decide) ?_
    refine V_aload_n C dL_law_150 rfl 1 rfl ?_
    obtain ⟨P9, r0, v0, hH, hM, hc9⟩ := p_instruction l hlf D K G tb ga9 gx gc h h2 ao f hR (xs ((nI (7 * j)) + 1).toNatClampNeg) (xs ((nI (7 * j)) + 2).toNatClampNeg) (xs ((nI (7 * j)) + 3).toNatClampNeg) (xs ((nI (7 * j)) + 4).toNatClampNeg) (xs ((nI (7 * j)) + 5).toNatClampNeg) false
    refine V_hcall C ga9.1 hg dL_law_151 hH gL_law_L_instruction rfl 8 rfl (by decide +kernel) (by decide) ⟨hkc, hkn⟩ rfl (Nat.le_of_ble_eq_true rfl) (fun k9 s9 hP9 => ?_)
    obtain ⟨f9, u9⟩ := s9
    obtain ⟨e1, e2, e3⟩ := hc9 k9 (f9, u9) hP9
    refine V_istore (lv' := [(5, .int k9), (4, .int (nI (7 * j))), (3, .ref ao), (2, .ref (h2 0)), (1, .ref (h 0)), (0, .ref b)]) C dL_law_154 (by decide) rfl ?_
    refine V_aload_n C dL_law_156 rfl 3 rfl ?_
    refine V_aload_n C dL_law_157 rfl 5 rfl ?_
    refine V_iload C dL_law_158 1 rfl ?_
    refine V_iconst (v := 1) C dL_law_160 (by decide) ?_
    refine V_iadd C dL_law_161 ?_
    refine V_sld C hs dL_law_162 (lin_a (k := 1) rfl hj hL (by omega)) ?_
    refine V_aload_n C dL_law_163 rfl 5 rfl ?_
    refine V_iload C dL_law_164 1 rfl ?_
    refine V_iconst (v := 2) C dL_law_166 (by decide) ?_
    refine V_iadd C dL_law_167 ?_
    refine V_sld C hs dL_law_168 (lin_a (k := 2) rfl hj hL (by omega)) ?_
    refine V_aload_n C dL_law_169 rfl 5 rfl ?_
    refine V_iload C dL_law_170 1 rfl ?_
    refine V_iconst (v := 3) C dL_law_172 (by decide) ?_
    refine V_iadd C dL_law_173 ?_
    refine V_sld C hs dL_law_174 (lin_a (k := 3) rfl hj hL (by omega)) ?_
    refine V_aload_n C dL_law_175 rfl 5 rfl ?_
    refine V_iload C dL_law_176 1 rfl ?_
    refine V_iconst (v := 4) C dL_law_178 (by decide) ?_
    refine V_iadd C dL_law_179 ?_
    refine V_sld C hs dL_law_180 (lin_a (k := 4) rfl hj hL (by omega)) ?_
    refine V_aload_n C dL_law_181 rfl 5 rfl ?_
    refine V_iload C dL_law_182 1 rfl ?_
    refine V_iconst (v := 5) C dL_law_184 (by decide) ?_
    refine V_iadd C dL_law_185 ?_
    refine V_sld C hs dL_law_186 (lin_a (k := 5) rfl hj hL (by omega)) ?_
    refine V_aload_n C dL_law_187 rfl 5 rfl ?_
    refine V_iload C dL_law_188 1 rfl ?_
    refine V_bipush (v := 6) C dL_law_190 (by decide) ?_
    refine V_iadd C dL_law_192 ?_
    refine V_sld C hs dL_law_193 (lin_a (k := 6) rfl hj hL (by omega)) ?_
    refine V_if_eq (tgt := 201) C dL_law_194 (by decide) (fun zh194 => ?_) (fun zh194 => ?_)
    · refine V_iconst (v := (b2i false)) C dL_law_201 (by decide) ?_
      refine V_fcalliV C dL_law_202 0 rfl rfl hM gL_law_X8_instruction rfl 6 rfl (by decide +kernel) (by decide) ⟨hkc, hkn⟩ rfl (Nat.le_of_ble_eq_true rfl) (det2 ?_)
      refine V_istore (lv' := [(6, .int r0), (5, .int k9), (4, .int (nI (7 * j))), (3, .ref ao), (2, .ref (h2 0)), (1, .ref (h 0)), (0, .ref b)]) C dL_law_205 (by decide) rfl ?_
      refine V_aload_n C dL_law_207 rfl 4 rfl ?_
      refine V_fcalliV C dL_law_208 0 rfl rfl (c_X8_thrown l D K h2 v0) gL_law_X8_thrown rfl 0 rfl (by decide +kernel) (by decide) ⟨hkc, hkn⟩ rfl (Nat.le_of_ble_eq_true rfl) (det2 ?_)
      refine V_iload C dL_law_211 1 rfl ?_
      refine V_icmp_eq (tgt := 218) C dL_law_213 (by decide) (fun zh213 => ?_) (fun zh213 => ?_)
      · refine V_iload C dL_law_218 1 rfl ?_
        refine V_if_ne (tgt := 235) C dL_law_220 (by decide) (fun zh220 => ?_) (fun zh220 => ?_)
        · refine V_goto (tgt := 901) C dL_law_235 (by decide) ?_
          exact V_sub [2, 3, 4, 5, 6] rfl (next v0 f9 u9 e3)
        · refine V_aload_n C dL_law_223 rfl 3 rfl ?_
          refine V_iconst (v := 0) C dL_law_224 (by decide) ?_
          refine V_laldn (v := (f9 0)) C dL_law_225 14 1 rfl rfl 0 (by decide) (by unfold vp_in; decide) rfl ?_
          refine V_iload C dL_law_226 0 rfl ?_
          refine V_i2l C dL_law_228 ?_
          refine V_lcmp C dL_law_229 ?_
          refine V_lc_eq (tgt := 235) C dL_law_230 (by decide) (fun zh230 => ?_) (fun zh230 => ?_)
          · refine V_goto (tgt := 901) C dL_law_235 (by decide) ?_
            exact V_sub [2, 3, 4, 5, 6] rfl (next v0 f9 u9 e3)
          · exact absurd (e2 zh220) zh230
      · exact absurd e1 zh213
    · first | exact absurd zh194 zh142 | exact absurd zh142 zh194 | exact absurd (Int32.not_lt.mp zh194) zh142 | exact absurd (Int32.not_le.mp zh194) zh142 | exact absurd zh194 (Int32.not_lt.mpr zh142) | exact absurd zh194 (Int32.not_le.mpr zh142) | exact absurd (Int32.not_lt.mp zh142) (Int32.not_le.mpr zh194) | (rw [zh142] at zh194; cases zh194)
  · refine V_iconst (v := (b2i true)) C dL_law_145 (by decide) ?_
    refine V_goto (tgt := 150) C dL_law_146 (by decide) ?_
    refine V_aload_n C dL_law_150 rfl 1 rfl ?_
    obtain ⟨P9, r0, v0, hH, hM, hc9⟩ := p_instruction l hlf D K G tb ga9 gx gc h h2 ao f hR (xs ((nI (7 * j)) + 1).toNatClampNeg) (xs ((nI (7 * j)) + 2).toNatClampNeg) (xs ((nI (7 * j)) + 3).toNatClampNeg) (xs ((nI (7 * j)) + 4).toNatClampNeg) (xs ((nI (7 * j)) + 5).toNatClampNeg) true
    refine V_hcall C ga9.1 hg dL_law_151 hH gL_law_L_instruction rfl 8 rfl (by decide +kernel) (by decide) ⟨hkc, hkn⟩ rfl (Nat.le_of_ble_eq_true rfl) (fun k9 s9 hP9 => ?_)
    obtain ⟨f9, u9⟩ := s9
    obtain ⟨e1, e2, e3⟩ := hc9 k9 (f9, u9) hP9
    refine V_istore (lv' := [(5, .int k9), (4, .int (nI (7 * j))), (3, .ref ao), (2, .ref (h2 0)), (1, .ref (h 0)), (0, .ref b)]) C dL_law_154 (by decide) rfl ?_
    refine V_aload_n C dL_law_156 rfl 3 rfl ?_
    refine V_aload_n C dL_law_157 rfl 5 rfl ?_
    refine V_iload C dL_law_158 1 rfl ?_
    refine V_iconst (v := 1) C dL_law_160 (by decide) ?_
    refine V_iadd C dL_law_161 ?_
    refine V_sld C hs dL_law_162 (lin_a (k := 1) rfl hj hL (by omega)) ?_
    refine V_aload_n C dL_law_163 rfl 5 rfl ?_
    refine V_iload C dL_law_164 1 rfl ?_
    refine V_iconst (v := 2) C dL_law_166 (by decide) ?_
    refine V_iadd C dL_law_167 ?_
    refine V_sld C hs dL_law_168 (lin_a (k := 2) rfl hj hL (by omega)) ?_
    refine V_aload_n C dL_law_169 rfl 5 rfl ?_
    refine V_iload C dL_law_170 1 rfl ?_
    refine V_iconst (v := 3) C dL_law_172 (by decide) ?_
    refine V_iadd C dL_law_173 ?_
    refine V_sld C hs dL_law_174 (lin_a (k := 3) rfl hj hL (by omega)) ?_
    refine V_aload_n C dL_law_175 rfl 5 rfl ?_
    refine V_iload C dL_law_176 1 rfl ?_
    refine V_iconst (v := 4) C dL_law_178 (by decide) ?_
    refine V_iadd C dL_law_179 ?_
    refine V_sld C hs dL_law_180 (lin_a (k := 4) rfl hj hL (by omega)) ?_
    refine V_aload_n C dL_law_181 rfl 5 rfl ?_
    refine V_iload C dL_law_182 1 rfl ?_
    refine V_iconst (v := 5) C dL_law_184 (by decide) ?_
    refine V_iadd C dL_law_185 ?_
    refine V_sld C hs dL_law_186 (lin_a (k := 5) rfl hj hL (by omega)) ?_
    refine V_aload_n C dL_law_187 rfl 5 rfl ?_
    refine V_iload C dL_law_188 1 rfl ?_
    refine V_bipush (v := 6) C dL_law_190 (by decide) ?_
    refine V_iadd C dL_law_192 ?_
    refine V_sld C hs dL_law_193 (lin_a (k := 6) rfl hj hL (by omega)) ?_
    refine V_if_eq (tgt := 201) C dL_law_194 (by decide) (fun zh194 => ?_) (fun zh194 => ?_)
    · first | exact absurd zh194 zh142 | exact absurd zh142 zh194 | exact absurd (Int32.not_lt.mp zh194) zh142 | exact absurd (Int32.not_le.mp zh194) zh142 | exact absurd zh194 (Int32.not_lt.mpr zh142) | exact absurd zh194 (Int32.not_le.mpr zh142) | exact absurd (Int32.not_lt.mp zh142) (Int32.not_le.mpr zh194) | (rw [zh142] at zh194; cases zh194)
    · refine V_iconst (v := (b2i true)) C dL_law_197 (by decide) ?_
      refine V_goto (tgt := 202) C dL_law_198 (by decide) ?_
      refine V_fcalliV C dL_law_202 0 rfl rfl hM gL_law_X8_instruction rfl 6 rfl (by decide +kernel) (by decide) ⟨hkc, hkn⟩ rfl (Nat.le_of_ble_eq_true rfl) (det2 ?_)
      refine V_istore (lv' := [(6, .int r0), (5, .int k9), (4, .int (nI (7 * j))), (3, .ref ao), (2, .ref (h2 0)), (1, .ref (h 0)), (0, .ref b)]) C dL_law_205 (by decide) rfl ?_
      refine V_aload_n C dL_law_207 rfl 4 rfl ?_
      refine V_fcalliV C dL_law_208 0 rfl rfl (c_X8_thrown l D K h2 v0) gL_law_X8_thrown rfl 0 rfl (by decide +kernel) (by decide) ⟨hkc, hkn⟩ rfl (Nat.le_of_ble_eq_true rfl) (det2 ?_)
      refine V_iload C dL_law_211 1 rfl ?_
      refine V_icmp_eq (tgt := 218) C dL_law_213 (by decide) (fun zh213 => ?_) (fun zh213 => ?_)
      · refine V_iload C dL_law_218 1 rfl ?_
        refine V_if_ne (tgt := 235) C dL_law_220 (by decide) (fun zh220 => ?_) (fun zh220 => ?_)
        · refine V_goto (tgt := 901) C dL_law_235 (by decide) ?_
          exact V_sub [2, 3, 4, 5, 6] rfl (next v0 f9 u9 e3)
        · refine V_aload_n C dL_law_223 rfl 3 rfl ?_
          refine V_iconst (v := 0) C dL_law_224 (by decide) ?_
          refine V_laldn (v := (f9 0)) C dL_law_225 14 1 rfl rfl 0 (by decide) (by unfold vp_in; decide) rfl ?_
          refine V_iload C dL_law_226 0 rfl ?_
          refine V_i2l C dL_law_228 ?_
          refine V_lcmp C dL_law_229 ?_
          refine V_lc_eq (tgt := 235) C dL_law_230 (by decide) (fun zh230 => ?_) (fun zh230 => ?_)
          · refine V_goto (tgt := 901) C dL_law_235 (by decide) ?_
            exact V_sub [2, 3, 4, 5, 6] rfl (next v0 f9 u9 e3)
          · exact absurd (e2 zh220) zh230
      · exact absurd e1 zh213
set_option maxHeartbeats 4000000 in
set_option maxRecDepth 100000 in
theorem k_take {X : vCtx} {l : Launch} (hlf : l.stackTraces = false) {D : va_G} {K : Nat → ClassId} {G : gE} {tb : Nat → Nat} (ga9 : gAll G tb) (gx : gXc G) (gc : gCa G) {h h2 : Nat → Nat} {ao : Nat} {f : Nat → Int64} {u : CS} {v : MS} (C : vC X cL_law 8 wsL_law RL vwCl D (tys0 K) l room_1) (hg : vG X G) {b L : Nat} {xs : Nat → Int32} (hs : vS X b L xs) {j : Nat} (hj : 7 * j + 7 ≤ L) (hL : L ≤ 3584) {kc kn : Nat} (hkc : kc + 1 ≤ 601024) (hkn : kn + 6 ≤ 7293034) (hR : RW u v) (next : ∀ (v9 : MS) (f9 : Nat → Int64) (u9 : CS), RW u9 v9 → V X (kc + 1) (kn + 6) (mw K h2 v9 ++ lwd K h ao (f9, u9)) 901 [(4, .int (nI (7 * j))), (3, .ref ao), (2, .ref (h2 0)), (1, .ref (h 0)), (0, .ref b)] []) : V X kc kn (mw K h2 v ++ lwd K h ao (f, u)) 238 [(4, .int (nI (7 * j))), (3, .ref ao), (2, .ref (h2 0)), (1, .ref (h 0)), (0, .ref b)] [] := by
  refine V_aload_n C dL_law_238 rfl 3 rfl ?_
  refine V_aload_n C dL_law_239 rfl 1 rfl ?_
  obtain ⟨P9, r0, v0, hH, hM, hc9⟩ := p_take l hlf D K G tb ga9 gx gc h h2 ao f hR 
  refine V_hcall C ga9.1 hg dL_law_240 hH gL_law_L_take rfl 2 rfl (by decide +kernel) (by decide) ⟨hkc, hkn⟩ rfl (Nat.le_of_ble_eq_true rfl) (fun k9 s9 hP9 => ?_)
  obtain ⟨f9, u9⟩ := s9
  obtain ⟨e1, e2, e3⟩ := hc9 k9 (f9, u9) hP9
  refine V_istore (lv' := [(5, .int k9), (4, .int (nI (7 * j))), (3, .ref ao), (2, .ref (h2 0)), (1, .ref (h 0)), (0, .ref b)]) C dL_law_243 (by decide) rfl ?_
  refine V_aload_n C dL_law_245 rfl 3 rfl ?_
  refine V_fcalliV C dL_law_246 0 rfl rfl hM gL_law_X8_take rfl 0 rfl (by decide +kernel) (by decide) ⟨hkc, hkn⟩ rfl (Nat.le_of_ble_eq_true rfl) (det2 ?_)
  refine V_istore (lv' := [(6, .int r0), (5, .int k9), (4, .int (nI (7 * j))), (3, .ref ao), (2, .ref (h2 0)), (1, .ref (h 0)), (0, .ref b)]) C dL_law_249 (by decide) rfl ?_
  refine V_aload_n C dL_law_251 rfl 4 rfl ?_
  refine V_fcalliV C dL_law_252 0 rfl rfl (c_X8_thrown l D K h2 v0) gL_law_X8_thrown rfl 0 rfl (by decide +kernel) (by decide) ⟨hkc, hkn⟩ rfl (Nat.le_of_ble_eq_true rfl) (det2 ?_)
  refine V_iload C dL_law_255 1 rfl ?_
  refine V_icmp_eq (tgt := 262) C dL_law_257 (by decide) (fun zh257 => ?_) (fun zh257 => ?_)
  · refine V_iload C dL_law_262 1 rfl ?_
    refine V_if_ne (tgt := 279) C dL_law_264 (by decide) (fun zh264 => ?_) (fun zh264 => ?_)
    · refine V_goto (tgt := 901) C dL_law_279 (by decide) ?_
      exact V_sub [2, 3, 4, 5, 6] rfl (next v0 f9 u9 e3)
    · refine V_aload_n C dL_law_267 rfl 3 rfl ?_
      refine V_iconst (v := 0) C dL_law_268 (by decide) ?_
      refine V_laldn (v := (f9 0)) C dL_law_269 14 1 rfl rfl 0 (by decide) (by unfold vp_in; decide) rfl ?_
      refine V_iload C dL_law_270 0 rfl ?_
      refine V_i2l C dL_law_272 ?_
      refine V_lcmp C dL_law_273 ?_
      refine V_lc_eq (tgt := 279) C dL_law_274 (by decide) (fun zh274 => ?_) (fun zh274 => ?_)
      · refine V_goto (tgt := 901) C dL_law_279 (by decide) ?_
        exact V_sub [2, 3, 4, 5, 6] rfl (next v0 f9 u9 e3)
      · exact absurd (e2 zh264) zh274
  · exact absurd e1 zh257
set_option maxHeartbeats 4000000 in
set_option maxRecDepth 100000 in
theorem k_fault {X : vCtx} {l : Launch} (hlf : l.stackTraces = false) {D : va_G} {K : Nat → ClassId} {G : gE} {tb : Nat → Nat} (ga9 : gAll G tb) (gx : gXc G) (gc : gCa G) {h h2 : Nat → Nat} {ao : Nat} {f : Nat → Int64} {u : CS} {v : MS} (C : vC X cL_law 8 wsL_law RL vwCl D (tys0 K) l room_1) (hg : vG X G) {b L : Nat} {xs : Nat → Int32} (hs : vS X b L xs) {j : Nat} (hj : 7 * j + 7 ≤ L) (hL : L ≤ 3584) {kc kn : Nat} (hkc : kc + 1 ≤ 601024) (hkn : kn + 6 ≤ 7293034) (hR : RW u v) (next : ∀ (v9 : MS) (f9 : Nat → Int64) (u9 : CS), RW u9 v9 → V X (kc + 1) (kn + 6) (mw K h2 v9 ++ lwd K h ao (f9, u9)) 901 [(4, .int (nI (7 * j))), (3, .ref ao), (2, .ref (h2 0)), (1, .ref (h 0)), (0, .ref b)] []) : V X kc kn (mw K h2 v ++ lwd K h ao (f, u)) 282 [(4, .int (nI (7 * j))), (3, .ref ao), (2, .ref (h2 0)), (1, .ref (h 0)), (0, .ref b)] [] := by
  refine V_aload_n C dL_law_282 rfl 3 rfl ?_
  refine V_aload_n C dL_law_283 rfl 4 rfl ?_
  refine V_iload C dL_law_284 0 rfl ?_
  refine V_iconst (v := 1) C dL_law_286 (by decide) ?_
  refine V_iadd C dL_law_287 ?_
  refine V_sld C hs dL_law_288 (lin_a (k := 1) rfl hj hL (by omega)) ?_
  refine V_aload_n C dL_law_289 rfl 1 rfl ?_
  obtain ⟨P9, r0, v0, hH, hM, hc9⟩ := p_fault l hlf D K G tb ga9 gx gc h h2 ao f hR (xs ((nI (7 * j)) + 1).toNatClampNeg)
  refine V_hcall C ga9.1 hg dL_law_290 hH gL_law_L_fault rfl 3 rfl (by decide +kernel) (by decide) ⟨hkc, hkn⟩ rfl (Nat.le_of_ble_eq_true rfl) (fun k9 s9 hP9 => ?_)
  obtain ⟨f9, u9⟩ := s9
  obtain ⟨e1, e2, e3⟩ := hc9 k9 (f9, u9) hP9
  refine V_istore (lv' := [(5, .int k9), (4, .int (nI (7 * j))), (3, .ref ao), (2, .ref (h2 0)), (1, .ref (h 0)), (0, .ref b)]) C dL_law_293 (by decide) rfl ?_
  refine V_aload_n C dL_law_295 rfl 3 rfl ?_
  refine V_aload_n C dL_law_296 rfl 5 rfl ?_
  refine V_iload C dL_law_297 1 rfl ?_
  refine V_iconst (v := 1) C dL_law_299 (by decide) ?_
  refine V_iadd C dL_law_300 ?_
  refine V_sld C hs dL_law_301 (lin_a (k := 1) rfl hj hL (by omega)) ?_
  refine V_fcalliV C dL_law_302 0 rfl rfl hM gL_law_X8_fault rfl 1 rfl (by decide +kernel) (by decide) ⟨hkc, hkn⟩ rfl (Nat.le_of_ble_eq_true rfl) (det2 ?_)
  refine V_istore (lv' := [(6, .int r0), (5, .int k9), (4, .int (nI (7 * j))), (3, .ref ao), (2, .ref (h2 0)), (1, .ref (h 0)), (0, .ref b)]) C dL_law_305 (by decide) rfl ?_
  refine V_aload_n C dL_law_307 rfl 4 rfl ?_
  refine V_fcalliV C dL_law_308 0 rfl rfl (c_X8_thrown l D K h2 v0) gL_law_X8_thrown rfl 0 rfl (by decide +kernel) (by decide) ⟨hkc, hkn⟩ rfl (Nat.le_of_ble_eq_true rfl) (det2 ?_)
  refine V_iload C dL_law_311 1 rfl ?_
  refine V_icmp_eq (tgt := 318) C dL_law_313 (by decide) (fun zh313 => ?_) (fun zh313 => ?_)
  · refine V_iload C dL_law_318 1 rfl ?_
    refine V_if_ne (tgt := 335) C dL_law_320 (by decide) (fun zh320 => ?_) (fun zh320 => ?_)
    · refine V_goto (tgt := 901) C dL_law_335 (by decide) ?_
      exact V_sub [2, 3, 4, 5, 6] rfl (next v0 f9 u9 e3)
    · refine V_aload_n C dL_law_323 rfl 3 rfl ?_
      refine V_iconst (v := 0) C dL_law_324 (by decide) ?_
      refine V_laldn (v := (f9 0)) C dL_law_325 14 1 rfl rfl 0 (by decide) (by unfold vp_in; decide) rfl ?_
      refine V_iload C dL_law_326 0 rfl ?_
      refine V_i2l C dL_law_328 ?_
      refine V_lcmp C dL_law_329 ?_
      refine V_lc_eq (tgt := 335) C dL_law_330 (by decide) (fun zh330 => ?_) (fun zh330 => ?_)
      · refine V_goto (tgt := 901) C dL_law_335 (by decide) ?_
        exact V_sub [2, 3, 4, 5, 6] rfl (next v0 f9 u9 e3)
      · exact absurd (e2 zh320) zh330
  · exact absurd e1 zh313
set_option maxHeartbeats 4000000 in
set_option maxRecDepth 100000 in
theorem k_run {X : vCtx} {l : Launch} (hlf : l.stackTraces = false) {D : va_G} {K : Nat → ClassId} {G : gE} {tb : Nat → Nat} (ga9 : gAll G tb) (gx : gXc G) (gc : gCa G) {h h2 : Nat → Nat} {ao : Nat} {f : Nat → Int64} {u : CS} {v : MS} (C : vC X cL_law 8 wsL_law RL vwCl D (tys0 K) l room_1) (hg : vG X G) {b L : Nat} {xs : Nat → Int32} (hs : vS X b L xs) {j : Nat} (hj : 7 * j + 7 ≤ L) (hL : L ≤ 3584) {kc kn : Nat} (hkc : kc + 1 ≤ 601024) (hkn : kn + 6 ≤ 7293034) (hR : RW u v) (next : ∀ (v9 : MS) (f9 : Nat → Int64) (u9 : CS), RW u9 v9 → V X (kc + 1) (kn + 6) (mw K h2 v9 ++ lwd K h ao (f9, u9)) 901 [(4, .int (nI (7 * j))), (3, .ref ao), (2, .ref (h2 0)), (1, .ref (h 0)), (0, .ref b)] []) : V X kc kn (mw K h2 v ++ lwd K h ao (f, u)) 338 [(4, .int (nI (7 * j))), (3, .ref ao), (2, .ref (h2 0)), (1, .ref (h 0)), (0, .ref b)] [] := by
  refine V_aload_n C dL_law_338 rfl 3 rfl ?_
  refine V_aload_n C dL_law_339 rfl 4 rfl ?_
  refine V_iload C dL_law_340 0 rfl ?_
  refine V_iconst (v := 1) C dL_law_342 (by decide) ?_
  refine V_iadd C dL_law_343 ?_
  refine V_sld C hs dL_law_344 (lin_a (k := 1) rfl hj hL (by omega)) ?_
  refine V_aload_n C dL_law_345 rfl 1 rfl ?_
  obtain ⟨P9, r0, v0, hH, hM, hc9⟩ := p_run l hlf D K G tb ga9 gx gc h h2 ao f hR (xs ((nI (7 * j)) + 1).toNatClampNeg)
  refine V_hcall C ga9.1 hg dL_law_346 hH gL_law_L_run rfl 3 rfl (by decide +kernel) (by decide) ⟨hkc, hkn⟩ rfl (Nat.le_of_ble_eq_true rfl) (fun k9 s9 hP9 => ?_)
  obtain ⟨f9, u9⟩ := s9
  obtain ⟨e1, e2, e3⟩ := hc9 k9 (f9, u9) hP9
  refine V_istore (lv' := [(5, .int k9), (4, .int (nI (7 * j))), (3, .ref ao), (2, .ref (h2 0)), (1, .ref (h 0)), (0, .ref b)]) C dL_law_349 (by decide) rfl ?_
  refine V_aload_n C dL_law_351 rfl 3 rfl ?_
  refine V_aload_n C dL_law_352 rfl 5 rfl ?_
  refine V_iload C dL_law_353 1 rfl ?_
  refine V_iconst (v := 1) C dL_law_355 (by decide) ?_
  refine V_iadd C dL_law_356 ?_
  refine V_sld C hs dL_law_357 (lin_a (k := 1) rfl hj hL (by omega)) ?_
  refine V_fcalliV C dL_law_358 0 rfl rfl hM gL_law_X8_run rfl 1 rfl (by decide +kernel) (by decide) ⟨hkc, hkn⟩ rfl (Nat.le_of_ble_eq_true rfl) (det2 ?_)
  refine V_istore (lv' := [(6, .int r0), (5, .int k9), (4, .int (nI (7 * j))), (3, .ref ao), (2, .ref (h2 0)), (1, .ref (h 0)), (0, .ref b)]) C dL_law_361 (by decide) rfl ?_
  refine V_aload_n C dL_law_363 rfl 4 rfl ?_
  refine V_fcalliV C dL_law_364 0 rfl rfl (c_X8_thrown l D K h2 v0) gL_law_X8_thrown rfl 0 rfl (by decide +kernel) (by decide) ⟨hkc, hkn⟩ rfl (Nat.le_of_ble_eq_true rfl) (det2 ?_)
  refine V_iload C dL_law_367 1 rfl ?_
  refine V_icmp_eq (tgt := 374) C dL_law_369 (by decide) (fun zh369 => ?_) (fun zh369 => ?_)
  · refine V_iload C dL_law_374 1 rfl ?_
    refine V_if_ne (tgt := 391) C dL_law_376 (by decide) (fun zh376 => ?_) (fun zh376 => ?_)
    · refine V_goto (tgt := 901) C dL_law_391 (by decide) ?_
      exact V_sub [2, 3, 4, 5, 6] rfl (next v0 f9 u9 e3)
    · refine V_aload_n C dL_law_379 rfl 3 rfl ?_
      refine V_iconst (v := 0) C dL_law_380 (by decide) ?_
      refine V_laldn (v := (f9 0)) C dL_law_381 14 1 rfl rfl 0 (by decide) (by unfold vp_in; decide) rfl ?_
      refine V_iload C dL_law_382 0 rfl ?_
      refine V_i2l C dL_law_384 ?_
      refine V_lcmp C dL_law_385 ?_
      refine V_lc_eq (tgt := 391) C dL_law_386 (by decide) (fun zh386 => ?_) (fun zh386 => ?_)
      · refine V_goto (tgt := 901) C dL_law_391 (by decide) ?_
        exact V_sub [2, 3, 4, 5, 6] rfl (next v0 f9 u9 e3)
      · exact absurd (e2 zh376) zh386
  · exact absurd e1 zh369
set_option maxHeartbeats 4000000 in
set_option maxRecDepth 100000 in
theorem k_set {X : vCtx} {l : Launch} (hlf : l.stackTraces = false) {D : va_G} {K : Nat → ClassId} {G : gE} {tb : Nat → Nat} (ga9 : gAll G tb) (gx : gXc G) (gc : gCa G) {h h2 : Nat → Nat} {ao : Nat} {f : Nat → Int64} {u : CS} {v : MS} (C : vC X cL_law 8 wsL_law RL vwCl D (tys0 K) l room_1) (hg : vG X G) {b L : Nat} {xs : Nat → Int32} (hs : vS X b L xs) {j : Nat} (hj : 7 * j + 7 ≤ L) (hL : L ≤ 3584) {kc kn : Nat} (hkc : kc + 1 ≤ 601024) (hkn : kn + 6 ≤ 7293034) (hR : RW u v) (next : ∀ (v9 : MS) (f9 : Nat → Int64) (u9 : CS), RW u9 v9 → V X (kc + 1) (kn + 6) (mw K h2 v9 ++ lwd K h ao (f9, u9)) 901 [(4, .int (nI (7 * j))), (3, .ref ao), (2, .ref (h2 0)), (1, .ref (h 0)), (0, .ref b)] []) : V X kc kn (mw K h2 v ++ lwd K h ao (f, u)) 394 [(4, .int (nI (7 * j))), (3, .ref ao), (2, .ref (h2 0)), (1, .ref (h 0)), (0, .ref b)] [] := by
  refine V_aload_n C dL_law_394 rfl 3 rfl ?_
  refine V_aload_n C dL_law_395 rfl 4 rfl ?_
  refine V_iload C dL_law_396 0 rfl ?_
  refine V_iconst (v := 1) C dL_law_398 (by decide) ?_
  refine V_iadd C dL_law_399 ?_
  refine V_sld C hs dL_law_400 (lin_a (k := 1) rfl hj hL (by omega)) ?_
  refine V_aload_n C dL_law_401 rfl 4 rfl ?_
  refine V_iload C dL_law_402 0 rfl ?_
  refine V_iconst (v := 2) C dL_law_404 (by decide) ?_
  refine V_iadd C dL_law_405 ?_
  refine V_sld C hs dL_law_406 (lin_a (k := 2) rfl hj hL (by omega)) ?_
  refine V_i2l C dL_law_407 ?_
  refine V_bipush (v := 32) C dL_law_408 (by decide) ?_
  refine V_lshl C dL_law_410 rfl ?_
  refine V_aload_n C dL_law_411 rfl 4 rfl ?_
  refine V_iload C dL_law_412 0 rfl ?_
  refine V_iconst (v := 3) C dL_law_414 (by decide) ?_
  refine V_iadd C dL_law_415 ?_
  refine V_sld C hs dL_law_416 (lin_a (k := 3) rfl hj hL (by omega)) ?_
  refine V_i2l C dL_law_417 ?_
  refine V_ldc2 (v := 4294967295) C dL_law_418 (List.mem_of_getElem? (i := 7) rfl) ?_
  refine V_land C dL_law_421 ?_
  refine V_lor C dL_law_422 ?_
  obtain ⟨P9, v0, hH, hM, hc9⟩ := p_set l hlf D K G tb ga9 gx gc h h2 ao f hR (xs ((nI (7 * j)) + 1).toNatClampNeg) (((Int32.toInt64 (xs ((nI (7 * j)) + 2).toNatClampNeg)) <<< (Int32.toInt64 32 &&& 63)) ||| ((Int32.toInt64 (xs ((nI (7 * j)) + 3).toNatClampNeg)) &&& 4294967295))
  refine V_hcall C ga9.1 hg dL_law_423 hH gL_law_L_set rfl 3 rfl (by decide +kernel) (by decide) ⟨hkc, hkn⟩ rfl (Nat.le_of_ble_eq_true rfl) (fun k9 s9 hP9 => ?_)
  obtain ⟨f9, u9⟩ := s9
  obtain ⟨e1, e3⟩ := hc9 k9 (f9, u9) hP9
  refine V_istore (lv' := [(5, .int k9), (4, .int (nI (7 * j))), (3, .ref ao), (2, .ref (h2 0)), (1, .ref (h 0)), (0, .ref b)]) C dL_law_426 (by decide) rfl ?_
  refine V_aload_n C dL_law_428 rfl 3 rfl ?_
  refine V_aload_n C dL_law_429 rfl 5 rfl ?_
  refine V_iload C dL_law_430 1 rfl ?_
  refine V_iconst (v := 1) C dL_law_432 (by decide) ?_
  refine V_iadd C dL_law_433 ?_
  refine V_sld C hs dL_law_434 (lin_a (k := 1) rfl hj hL (by omega)) ?_
  refine V_aload_n C dL_law_435 rfl 5 rfl ?_
  refine V_iload C dL_law_436 1 rfl ?_
  refine V_iconst (v := 2) C dL_law_438 (by decide) ?_
  refine V_iadd C dL_law_439 ?_
  refine V_sld C hs dL_law_440 (lin_a (k := 2) rfl hj hL (by omega)) ?_
  refine V_i2l C dL_law_441 ?_
  refine V_bipush (v := 32) C dL_law_442 (by decide) ?_
  refine V_lshl C dL_law_444 rfl ?_
  refine V_aload_n C dL_law_445 rfl 5 rfl ?_
  refine V_iload C dL_law_446 1 rfl ?_
  refine V_iconst (v := 3) C dL_law_448 (by decide) ?_
  refine V_iadd C dL_law_449 ?_
  refine V_sld C hs dL_law_450 (lin_a (k := 3) rfl hj hL (by omega)) ?_
  refine V_i2l C dL_law_451 ?_
  refine V_ldc2 (v := 4294967295) C dL_law_452 (List.mem_of_getElem? (i := 7) rfl) ?_
  refine V_land C dL_law_455 ?_
  refine V_lor C dL_law_456 ?_
  refine V_fcallvV C dL_law_457 0 rfl rfl hM gL_law_X8_set rfl 2 rfl (by decide +kernel) (by decide) ⟨hkc, hkn⟩ rfl (Nat.le_of_ble_eq_true rfl) (det1 ?_)
  refine V_aload_n C dL_law_460 rfl 3 rfl ?_
  refine V_fcalliV C dL_law_461 0 rfl rfl (c_X8_thrown l D K h2 v0) gL_law_X8_thrown rfl 0 rfl (by decide +kernel) (by decide) ⟨hkc, hkn⟩ rfl (Nat.le_of_ble_eq_true rfl) (det2 ?_)
  refine V_iload C dL_law_464 0 rfl ?_
  refine V_icmp_eq (tgt := 471) C dL_law_466 (by decide) (fun zh466 => ?_) (fun zh466 => ?_)
  · refine V_goto (tgt := 901) C dL_law_471 (by decide) ?_
    exact V_sub [1, 2, 3, 4, 5] rfl (next v0 f9 u9 e3)
  · exact absurd e1 zh466
set_option maxHeartbeats 4000000 in
set_option maxRecDepth 100000 in
theorem k_register {X : vCtx} {l : Launch} (hlf : l.stackTraces = false) {D : va_G} {K : Nat → ClassId} {G : gE} {tb : Nat → Nat} (ga9 : gAll G tb) (gx : gXc G) (gc : gCa G) {h h2 : Nat → Nat} {ao : Nat} {f : Nat → Int64} {u : CS} {v : MS} (C : vC X cL_law 8 wsL_law RL vwCl D (tys0 K) l room_1) (hg : vG X G) {b L : Nat} {xs : Nat → Int32} (hs : vS X b L xs) {j : Nat} (hj : 7 * j + 7 ≤ L) (hL : L ≤ 3584) {kc kn : Nat} (hkc : kc + 1 ≤ 601024) (hkn : kn + 6 ≤ 7293034) (hR : RW u v) (next : ∀ (v9 : MS) (f9 : Nat → Int64) (u9 : CS), RW u9 v9 → V X (kc + 1) (kn + 6) (mw K h2 v9 ++ lwd K h ao (f9, u9)) 901 [(4, .int (nI (7 * j))), (3, .ref ao), (2, .ref (h2 0)), (1, .ref (h 0)), (0, .ref b)] []) : V X kc kn (mw K h2 v ++ lwd K h ao (f, u)) 474 [(4, .int (nI (7 * j))), (3, .ref ao), (2, .ref (h2 0)), (1, .ref (h 0)), (0, .ref b)] [] := by
  refine V_aload_n C dL_law_474 rfl 3 rfl ?_
  refine V_aload_n C dL_law_475 rfl 4 rfl ?_
  refine V_iload C dL_law_476 0 rfl ?_
  refine V_iconst (v := 1) C dL_law_478 (by decide) ?_
  refine V_iadd C dL_law_479 ?_
  refine V_sld C hs dL_law_480 (lin_a (k := 1) rfl hj hL (by omega)) ?_
  refine V_aload_n C dL_law_481 rfl 1 rfl ?_
  obtain ⟨P9, r0, v0, hH, hM, hc9⟩ := p_register l hlf D K G tb ga9 gx gc h h2 ao f hR (xs ((nI (7 * j)) + 1).toNatClampNeg)
  refine V_hcall C ga9.1 hg dL_law_482 hH gL_law_L_register rfl 3 rfl (by decide +kernel) (by decide) ⟨hkc, hkn⟩ rfl (Nat.le_of_ble_eq_true rfl) (fun k9 s9 hP9 => ?_)
  obtain ⟨f9, u9⟩ := s9
  obtain ⟨e1, e2, e3⟩ := hc9 k9 (f9, u9) hP9
  refine V_istore (lv' := [(5, .int k9), (4, .int (nI (7 * j))), (3, .ref ao), (2, .ref (h2 0)), (1, .ref (h 0)), (0, .ref b)]) C dL_law_485 (by decide) rfl ?_
  refine V_aload_n C dL_law_487 rfl 3 rfl ?_
  refine V_aload_n C dL_law_488 rfl 5 rfl ?_
  refine V_iload C dL_law_489 1 rfl ?_
  refine V_iconst (v := 1) C dL_law_491 (by decide) ?_
  refine V_iadd C dL_law_492 ?_
  refine V_sld C hs dL_law_493 (lin_a (k := 1) rfl hj hL (by omega)) ?_
  refine V_fcalllV C dL_law_494 0 rfl rfl hM gL_law_X8_register rfl 1 rfl (by decide +kernel) (by decide) ⟨hkc, hkn⟩ rfl (Nat.le_of_ble_eq_true rfl) (det2 ?_)
  refine V_lstore (lv' := [(6, .long r0), (5, .int k9), (4, .int (nI (7 * j))), (3, .ref ao), (2, .ref (h2 0)), (1, .ref (h 0)), (0, .ref b)]) C dL_law_497 (by decide) rfl ?_
  refine V_aload_n C dL_law_499 rfl 4 rfl ?_
  refine V_fcalliV C dL_law_500 0 rfl rfl (c_X8_thrown l D K h2 v0) gL_law_X8_thrown rfl 0 rfl (by decide +kernel) (by decide) ⟨hkc, hkn⟩ rfl (Nat.le_of_ble_eq_true rfl) (det2 ?_)
  refine V_iload C dL_law_503 1 rfl ?_
  refine V_icmp_eq (tgt := 510) C dL_law_505 (by decide) (fun zh505 => ?_) (fun zh505 => ?_)
  · refine V_iload C dL_law_510 1 rfl ?_
    refine V_if_ne (tgt := 526) C dL_law_512 (by decide) (fun zh512 => ?_) (fun zh512 => ?_)
    · refine V_goto (tgt := 901) C dL_law_526 (by decide) ?_
      exact V_sub [2, 3, 4, 5, 6] rfl (next v0 f9 u9 e3)
    · refine V_aload_n C dL_law_515 rfl 3 rfl ?_
      refine V_iconst (v := 0) C dL_law_516 (by decide) ?_
      refine V_laldn (v := (f9 0)) C dL_law_517 14 1 rfl rfl 0 (by decide) (by unfold vp_in; decide) rfl ?_
      refine V_lload C dL_law_518 0 rfl ?_
      refine V_lcmp C dL_law_520 ?_
      refine V_lc_eq (tgt := 526) C dL_law_521 (by decide) (fun zh521 => ?_) (fun zh521 => ?_)
      · refine V_goto (tgt := 901) C dL_law_526 (by decide) ?_
        exact V_sub [2, 3, 4, 5, 6] rfl (next v0 f9 u9 e3)
      · exact absurd (e2 zh512) zh521
  · exact absurd e1 zh505
set_option maxHeartbeats 4000000 in
set_option maxRecDepth 100000 in
theorem k_nat {X : vCtx} {l : Launch} (hlf : l.stackTraces = false) {D : va_G} {K : Nat → ClassId} {G : gE} {tb : Nat → Nat} (ga9 : gAll G tb) (gx : gXc G) (gc : gCa G) {h h2 : Nat → Nat} {ao : Nat} {f : Nat → Int64} {u : CS} {v : MS} (C : vC X cL_law 8 wsL_law RL vwCl D (tys0 K) l room_1) (hg : vG X G) {b L : Nat} {xs : Nat → Int32} (hs : vS X b L xs) {j : Nat} (hj : 7 * j + 7 ≤ L) (hL : L ≤ 3584) {kc kn : Nat} (hkc : kc + 1 ≤ 601024) (hkn : kn + 6 ≤ 7293034) (hR : RW u v) (next : ∀ (v9 : MS) (f9 : Nat → Int64) (u9 : CS), RW u9 v9 → V X (kc + 1) (kn + 6) (mw K h2 v9 ++ lwd K h ao (f9, u9)) 901 [(4, .int (nI (7 * j))), (3, .ref ao), (2, .ref (h2 0)), (1, .ref (h 0)), (0, .ref b)] []) : V X kc kn (mw K h2 v ++ lwd K h ao (f, u)) 529 [(4, .int (nI (7 * j))), (3, .ref ao), (2, .ref (h2 0)), (1, .ref (h 0)), (0, .ref b)] [] := by
  refine V_aload_n C dL_law_529 rfl 3 rfl ?_
  refine V_aload_n C dL_law_530 rfl 4 rfl ?_
  refine V_iload C dL_law_531 0 rfl ?_
  refine V_iconst (v := 1) C dL_law_533 (by decide) ?_
  refine V_iadd C dL_law_534 ?_
  refine V_sld C hs dL_law_535 (lin_a (k := 1) rfl hj hL (by omega)) ?_
  refine V_aload_n C dL_law_536 rfl 1 rfl ?_
  obtain ⟨P9, r0, v0, hH, hM, hc9⟩ := p_nat l hlf D K G tb ga9 gx gc h h2 ao f hR (xs ((nI (7 * j)) + 1).toNatClampNeg)
  refine V_hcall C ga9.1 hg dL_law_537 hH gL_law_L_nat rfl 3 rfl (by decide +kernel) (by decide) ⟨hkc, hkn⟩ rfl (Nat.le_of_ble_eq_true rfl) (fun k9 s9 hP9 => ?_)
  obtain ⟨f9, u9⟩ := s9
  obtain ⟨e1, e2, e3⟩ := hc9 k9 (f9, u9) hP9
  refine V_istore (lv' := [(5, .int k9), (4, .int (nI (7 * j))), (3, .ref ao), (2, .ref (h2 0)), (1, .ref (h 0)), (0, .ref b)]) C dL_law_540 (by decide) rfl ?_
  refine V_aload_n C dL_law_542 rfl 3 rfl ?_
  refine V_aload_n C dL_law_543 rfl 5 rfl ?_
  refine V_iload C dL_law_544 1 rfl ?_
  refine V_iconst (v := 1) C dL_law_546 (by decide) ?_
  refine V_iadd C dL_law_547 ?_
  refine V_sld C hs dL_law_548 (lin_a (k := 1) rfl hj hL (by omega)) ?_
  refine V_fcalliV C dL_law_549 0 rfl rfl hM gL_law_X8_nat rfl 1 rfl (by decide +kernel) (by decide) ⟨hkc, hkn⟩ rfl (Nat.le_of_ble_eq_true rfl) (det2 ?_)
  refine V_istore (lv' := [(6, .int r0), (5, .int k9), (4, .int (nI (7 * j))), (3, .ref ao), (2, .ref (h2 0)), (1, .ref (h 0)), (0, .ref b)]) C dL_law_552 (by decide) rfl ?_
  refine V_aload_n C dL_law_554 rfl 4 rfl ?_
  refine V_fcalliV C dL_law_555 0 rfl rfl (c_X8_thrown l D K h2 v0) gL_law_X8_thrown rfl 0 rfl (by decide +kernel) (by decide) ⟨hkc, hkn⟩ rfl (Nat.le_of_ble_eq_true rfl) (det2 ?_)
  refine V_iload C dL_law_558 1 rfl ?_
  refine V_icmp_eq (tgt := 565) C dL_law_560 (by decide) (fun zh560 => ?_) (fun zh560 => ?_)
  · refine V_iload C dL_law_565 1 rfl ?_
    refine V_if_ne (tgt := 589) C dL_law_567 (by decide) (fun zh567 => ?_) (fun zh567 => ?_)
    · refine V_goto (tgt := 901) C dL_law_589 (by decide) ?_
      exact V_sub [2, 3, 4, 5, 6] rfl (next v0 f9 u9 e3)
    · refine V_aload_n C dL_law_570 rfl 3 rfl ?_
      refine V_iconst (v := 0) C dL_law_571 (by decide) ?_
      refine V_laldn (v := (f9 0)) C dL_law_572 14 1 rfl rfl 0 (by decide) (by unfold vp_in; decide) rfl ?_
      refine V_iload C dL_law_573 0 rfl ?_
      refine V_if_eq (tgt := 582) C dL_law_575 (by decide) (fun zh575 => ?_) (fun zh575 => ?_)
      · refine V_lconst (v := 0) C dL_law_582 (by decide) ?_
        refine V_lcmp C dL_law_583 ?_
        refine V_lc_eq (tgt := 589) C dL_law_584 (by decide) (fun zh584 => ?_) (fun zh584 => ?_)
        · refine V_goto (tgt := 901) C dL_law_589 (by decide) ?_
          exact V_sub [2, 3, 4, 5, 6] rfl (next v0 f9 u9 e3)
        · exact absurd ((e2 zh567).trans (if_pos zh575)) zh584
      · refine V_lconst (v := 1) C dL_law_578 (by decide) ?_
        refine V_goto (tgt := 583) C dL_law_579 (by decide) ?_
        refine V_lcmp C dL_law_583 ?_
        refine V_lc_eq (tgt := 589) C dL_law_584 (by decide) (fun zh584 => ?_) (fun zh584 => ?_)
        · refine V_goto (tgt := 901) C dL_law_589 (by decide) ?_
          exact V_sub [2, 3, 4, 5, 6] rfl (next v0 f9 u9 e3)
        · exact absurd ((e2 zh567).trans (if_neg zh575)) zh584
  · exact absurd e1 zh560
set_option maxHeartbeats 4000000 in
set_option maxRecDepth 100000 in
theorem k_predicate {X : vCtx} {l : Launch} (hlf : l.stackTraces = false) {D : va_G} {K : Nat → ClassId} {G : gE} {tb : Nat → Nat} (ga9 : gAll G tb) (gx : gXc G) (gc : gCa G) {h h2 : Nat → Nat} {ao : Nat} {f : Nat → Int64} {u : CS} {v : MS} (C : vC X cL_law 8 wsL_law RL vwCl D (tys0 K) l room_1) (hg : vG X G) {b L : Nat} {xs : Nat → Int32} (hs : vS X b L xs) {j : Nat} (hj : 7 * j + 7 ≤ L) (hL : L ≤ 3584) {kc kn : Nat} (hkc : kc + 1 ≤ 601024) (hkn : kn + 6 ≤ 7293034) (hR : RW u v) (next : ∀ (v9 : MS) (f9 : Nat → Int64) (u9 : CS), RW u9 v9 → V X (kc + 1) (kn + 6) (mw K h2 v9 ++ lwd K h ao (f9, u9)) 901 [(4, .int (nI (7 * j))), (3, .ref ao), (2, .ref (h2 0)), (1, .ref (h 0)), (0, .ref b)] []) : V X kc kn (mw K h2 v ++ lwd K h ao (f, u)) 592 [(4, .int (nI (7 * j))), (3, .ref ao), (2, .ref (h2 0)), (1, .ref (h 0)), (0, .ref b)] [] := by
  refine V_aload_n C dL_law_592 rfl 3 rfl ?_
  refine V_aload_n C dL_law_593 rfl 4 rfl ?_
  refine V_iload C dL_law_594 0 rfl ?_
  refine V_iconst (v := 1) C dL_law_596 (by decide) ?_
  refine V_iadd C dL_law_597 ?_
  refine V_sld C hs dL_law_598 (lin_a (k := 1) rfl hj hL (by omega)) ?_
  refine V_aload_n C dL_law_599 rfl 1 rfl ?_
  obtain ⟨P9, r0, v0, hH, hM, hc9⟩ := p_predicate l hlf D K G tb ga9 gx gc h h2 ao f hR (xs ((nI (7 * j)) + 1).toNatClampNeg)
  refine V_hcall C ga9.1 hg dL_law_600 hH gL_law_L_predicate rfl 3 rfl (by decide +kernel) (by decide) ⟨hkc, hkn⟩ rfl (Nat.le_of_ble_eq_true rfl) (fun k9 s9 hP9 => ?_)
  obtain ⟨f9, u9⟩ := s9
  obtain ⟨e1, e2, e3⟩ := hc9 k9 (f9, u9) hP9
  refine V_istore (lv' := [(5, .int k9), (4, .int (nI (7 * j))), (3, .ref ao), (2, .ref (h2 0)), (1, .ref (h 0)), (0, .ref b)]) C dL_law_603 (by decide) rfl ?_
  refine V_aload_n C dL_law_605 rfl 3 rfl ?_
  refine V_aload_n C dL_law_606 rfl 5 rfl ?_
  refine V_iload C dL_law_607 1 rfl ?_
  refine V_iconst (v := 1) C dL_law_609 (by decide) ?_
  refine V_iadd C dL_law_610 ?_
  refine V_sld C hs dL_law_611 (lin_a (k := 1) rfl hj hL (by omega)) ?_
  refine V_fcalliV C dL_law_612 0 rfl rfl hM gL_law_X8_predicate rfl 1 rfl (by decide +kernel) (by decide) ⟨hkc, hkn⟩ rfl (Nat.le_of_ble_eq_true rfl) (det2 ?_)
  refine V_istore (lv' := [(6, .int r0), (5, .int k9), (4, .int (nI (7 * j))), (3, .ref ao), (2, .ref (h2 0)), (1, .ref (h 0)), (0, .ref b)]) C dL_law_615 (by decide) rfl ?_
  refine V_aload_n C dL_law_617 rfl 4 rfl ?_
  refine V_fcalliV C dL_law_618 0 rfl rfl (c_X8_thrown l D K h2 v0) gL_law_X8_thrown rfl 0 rfl (by decide +kernel) (by decide) ⟨hkc, hkn⟩ rfl (Nat.le_of_ble_eq_true rfl) (det2 ?_)
  refine V_iload C dL_law_621 1 rfl ?_
  refine V_icmp_eq (tgt := 628) C dL_law_623 (by decide) (fun zh623 => ?_) (fun zh623 => ?_)
  · refine V_iload C dL_law_628 1 rfl ?_
    refine V_if_ne (tgt := 652) C dL_law_630 (by decide) (fun zh630 => ?_) (fun zh630 => ?_)
    · refine V_goto (tgt := 901) C dL_law_652 (by decide) ?_
      exact V_sub [2, 3, 4, 5, 6] rfl (next v0 f9 u9 e3)
    · refine V_aload_n C dL_law_633 rfl 3 rfl ?_
      refine V_iconst (v := 0) C dL_law_634 (by decide) ?_
      refine V_laldn (v := (f9 0)) C dL_law_635 14 1 rfl rfl 0 (by decide) (by unfold vp_in; decide) rfl ?_
      refine V_iload C dL_law_636 0 rfl ?_
      refine V_if_eq (tgt := 645) C dL_law_638 (by decide) (fun zh638 => ?_) (fun zh638 => ?_)
      · refine V_lconst (v := 0) C dL_law_645 (by decide) ?_
        refine V_lcmp C dL_law_646 ?_
        refine V_lc_eq (tgt := 652) C dL_law_647 (by decide) (fun zh647 => ?_) (fun zh647 => ?_)
        · refine V_goto (tgt := 901) C dL_law_652 (by decide) ?_
          exact V_sub [2, 3, 4, 5, 6] rfl (next v0 f9 u9 e3)
        · exact absurd ((e2 zh630).trans (if_pos zh638)) zh647
      · refine V_lconst (v := 1) C dL_law_641 (by decide) ?_
        refine V_goto (tgt := 646) C dL_law_642 (by decide) ?_
        refine V_lcmp C dL_law_646 ?_
        refine V_lc_eq (tgt := 652) C dL_law_647 (by decide) (fun zh647 => ?_) (fun zh647 => ?_)
        · refine V_goto (tgt := 901) C dL_law_652 (by decide) ?_
          exact V_sub [2, 3, 4, 5, 6] rfl (next v0 f9 u9 e3)
        · exact absurd ((e2 zh630).trans (if_neg zh638)) zh647
  · exact absurd e1 zh623
set_option maxHeartbeats 4000000 in
set_option maxRecDepth 100000 in
theorem k_memory {X : vCtx} {l : Launch} (hlf : l.stackTraces = false) {D : va_G} {K : Nat → ClassId} {G : gE} {tb : Nat → Nat} (ga9 : gAll G tb) (gx : gXc G) (gc : gCa G) {h h2 : Nat → Nat} {ao : Nat} {f : Nat → Int64} {u : CS} {v : MS} (C : vC X cL_law 8 wsL_law RL vwCl D (tys0 K) l room_1) (hg : vG X G) {b L : Nat} {xs : Nat → Int32} (hs : vS X b L xs) {j : Nat} (hj : 7 * j + 7 ≤ L) (hL : L ≤ 3584) {kc kn : Nat} (hkc : kc + 1 ≤ 601024) (hkn : kn + 6 ≤ 7293034) (hR : RW u v) (next : ∀ (v9 : MS) (f9 : Nat → Int64) (u9 : CS), RW u9 v9 → V X (kc + 1) (kn + 6) (mw K h2 v9 ++ lwd K h ao (f9, u9)) 901 [(4, .int (nI (7 * j))), (3, .ref ao), (2, .ref (h2 0)), (1, .ref (h 0)), (0, .ref b)] []) : V X kc kn (mw K h2 v ++ lwd K h ao (f, u)) 655 [(4, .int (nI (7 * j))), (3, .ref ao), (2, .ref (h2 0)), (1, .ref (h 0)), (0, .ref b)] [] := by
  refine V_aload_n C dL_law_655 rfl 3 rfl ?_
  refine V_aload_n C dL_law_656 rfl 4 rfl ?_
  refine V_iload C dL_law_657 0 rfl ?_
  refine V_iconst (v := 1) C dL_law_659 (by decide) ?_
  refine V_iadd C dL_law_660 ?_
  refine V_sld C hs dL_law_661 (lin_a (k := 1) rfl hj hL (by omega)) ?_
  refine V_aload_n C dL_law_662 rfl 1 rfl ?_
  obtain ⟨P9, r0, v0, hH, hM, hc9⟩ := p_memory l hlf D K G tb ga9 gx gc h h2 ao f hR (xs ((nI (7 * j)) + 1).toNatClampNeg)
  refine V_hcall C ga9.1 hg dL_law_663 hH gL_law_L_memory rfl 3 rfl (by decide +kernel) (by decide) ⟨hkc, hkn⟩ rfl (Nat.le_of_ble_eq_true rfl) (fun k9 s9 hP9 => ?_)
  obtain ⟨f9, u9⟩ := s9
  obtain ⟨e1, e2, e3⟩ := hc9 k9 (f9, u9) hP9
  refine V_istore (lv' := [(5, .int k9), (4, .int (nI (7 * j))), (3, .ref ao), (2, .ref (h2 0)), (1, .ref (h 0)), (0, .ref b)]) C dL_law_666 (by decide) rfl ?_
  refine V_aload_n C dL_law_668 rfl 3 rfl ?_
  refine V_aload_n C dL_law_669 rfl 5 rfl ?_
  refine V_iload C dL_law_670 1 rfl ?_
  refine V_iconst (v := 1) C dL_law_672 (by decide) ?_
  refine V_iadd C dL_law_673 ?_
  refine V_sld C hs dL_law_674 (lin_a (k := 1) rfl hj hL (by omega)) ?_
  refine V_fcalllV C dL_law_675 0 rfl rfl hM gL_law_X8_memory rfl 1 rfl (by decide +kernel) (by decide) ⟨hkc, hkn⟩ rfl (Nat.le_of_ble_eq_true rfl) (det2 ?_)
  refine V_lstore (lv' := [(6, .long r0), (5, .int k9), (4, .int (nI (7 * j))), (3, .ref ao), (2, .ref (h2 0)), (1, .ref (h 0)), (0, .ref b)]) C dL_law_678 (by decide) rfl ?_
  refine V_aload_n C dL_law_680 rfl 4 rfl ?_
  refine V_fcalliV C dL_law_681 0 rfl rfl (c_X8_thrown l D K h2 v0) gL_law_X8_thrown rfl 0 rfl (by decide +kernel) (by decide) ⟨hkc, hkn⟩ rfl (Nat.le_of_ble_eq_true rfl) (det2 ?_)
  refine V_iload C dL_law_684 1 rfl ?_
  refine V_icmp_eq (tgt := 691) C dL_law_686 (by decide) (fun zh686 => ?_) (fun zh686 => ?_)
  · refine V_iload C dL_law_691 1 rfl ?_
    refine V_if_ne (tgt := 707) C dL_law_693 (by decide) (fun zh693 => ?_) (fun zh693 => ?_)
    · refine V_goto (tgt := 901) C dL_law_707 (by decide) ?_
      exact V_sub [2, 3, 4, 5, 6] rfl (next v0 f9 u9 e3)
    · refine V_aload_n C dL_law_696 rfl 3 rfl ?_
      refine V_iconst (v := 0) C dL_law_697 (by decide) ?_
      refine V_laldn (v := (f9 0)) C dL_law_698 14 1 rfl rfl 0 (by decide) (by unfold vp_in; decide) rfl ?_
      refine V_lload C dL_law_699 0 rfl ?_
      refine V_lcmp C dL_law_701 ?_
      refine V_lc_eq (tgt := 707) C dL_law_702 (by decide) (fun zh702 => ?_) (fun zh702 => ?_)
      · refine V_goto (tgt := 901) C dL_law_707 (by decide) ?_
        exact V_sub [2, 3, 4, 5, 6] rfl (next v0 f9 u9 e3)
      · exact absurd (e2 zh693) zh702
  · exact absurd e1 zh686
set_option maxHeartbeats 4000000 in
set_option maxRecDepth 100000 in
theorem k_poke {X : vCtx} {l : Launch} (hlf : l.stackTraces = false) {D : va_G} {K : Nat → ClassId} {G : gE} {tb : Nat → Nat} (ga9 : gAll G tb) (gx : gXc G) (gc : gCa G) {h h2 : Nat → Nat} {ao : Nat} {f : Nat → Int64} {u : CS} {v : MS} (C : vC X cL_law 8 wsL_law RL vwCl D (tys0 K) l room_1) (hg : vG X G) {b L : Nat} {xs : Nat → Int32} (hs : vS X b L xs) {j : Nat} (hj : 7 * j + 7 ≤ L) (hL : L ≤ 3584) {kc kn : Nat} (hkc : kc + 1 ≤ 601024) (hkn : kn + 6 ≤ 7293034) (hR : RW u v) (next : ∀ (v9 : MS) (f9 : Nat → Int64) (u9 : CS), RW u9 v9 → V X (kc + 1) (kn + 6) (mw K h2 v9 ++ lwd K h ao (f9, u9)) 901 [(4, .int (nI (7 * j))), (3, .ref ao), (2, .ref (h2 0)), (1, .ref (h 0)), (0, .ref b)] []) : V X kc kn (mw K h2 v ++ lwd K h ao (f, u)) 710 [(4, .int (nI (7 * j))), (3, .ref ao), (2, .ref (h2 0)), (1, .ref (h 0)), (0, .ref b)] [] := by
  refine V_aload_n C dL_law_710 rfl 3 rfl ?_
  refine V_aload_n C dL_law_711 rfl 4 rfl ?_
  refine V_iload C dL_law_712 0 rfl ?_
  refine V_iconst (v := 1) C dL_law_714 (by decide) ?_
  refine V_iadd C dL_law_715 ?_
  refine V_sld C hs dL_law_716 (lin_a (k := 1) rfl hj hL (by omega)) ?_
  refine V_aload_n C dL_law_717 rfl 4 rfl ?_
  refine V_iload C dL_law_718 0 rfl ?_
  refine V_iconst (v := 2) C dL_law_720 (by decide) ?_
  refine V_iadd C dL_law_721 ?_
  refine V_sld C hs dL_law_722 (lin_a (k := 2) rfl hj hL (by omega)) ?_
  refine V_i2l C dL_law_723 ?_
  refine V_bipush (v := 32) C dL_law_724 (by decide) ?_
  refine V_lshl C dL_law_726 rfl ?_
  refine V_aload_n C dL_law_727 rfl 4 rfl ?_
  refine V_iload C dL_law_728 0 rfl ?_
  refine V_iconst (v := 3) C dL_law_730 (by decide) ?_
  refine V_iadd C dL_law_731 ?_
  refine V_sld C hs dL_law_732 (lin_a (k := 3) rfl hj hL (by omega)) ?_
  refine V_i2l C dL_law_733 ?_
  refine V_ldc2 (v := 4294967295) C dL_law_734 (List.mem_of_getElem? (i := 7) rfl) ?_
  refine V_land C dL_law_737 ?_
  refine V_lor C dL_law_738 ?_
  obtain ⟨P9, v0, hH, hM, hc9⟩ := p_poke l hlf D K G tb ga9 gx gc h h2 ao f hR (xs ((nI (7 * j)) + 1).toNatClampNeg) (((Int32.toInt64 (xs ((nI (7 * j)) + 2).toNatClampNeg)) <<< (Int32.toInt64 32 &&& 63)) ||| ((Int32.toInt64 (xs ((nI (7 * j)) + 3).toNatClampNeg)) &&& 4294967295))
  refine V_hcall C ga9.1 hg dL_law_739 hH gL_law_L_poke rfl 3 rfl (by decide +kernel) (by decide) ⟨hkc, hkn⟩ rfl (Nat.le_of_ble_eq_true rfl) (fun k9 s9 hP9 => ?_)
  obtain ⟨f9, u9⟩ := s9
  obtain ⟨e1, e3⟩ := hc9 k9 (f9, u9) hP9
  refine V_istore (lv' := [(5, .int k9), (4, .int (nI (7 * j))), (3, .ref ao), (2, .ref (h2 0)), (1, .ref (h 0)), (0, .ref b)]) C dL_law_742 (by decide) rfl ?_
  refine V_aload_n C dL_law_744 rfl 3 rfl ?_
  refine V_aload_n C dL_law_745 rfl 5 rfl ?_
  refine V_iload C dL_law_746 1 rfl ?_
  refine V_iconst (v := 1) C dL_law_748 (by decide) ?_
  refine V_iadd C dL_law_749 ?_
  refine V_sld C hs dL_law_750 (lin_a (k := 1) rfl hj hL (by omega)) ?_
  refine V_aload_n C dL_law_751 rfl 5 rfl ?_
  refine V_iload C dL_law_752 1 rfl ?_
  refine V_iconst (v := 2) C dL_law_754 (by decide) ?_
  refine V_iadd C dL_law_755 ?_
  refine V_sld C hs dL_law_756 (lin_a (k := 2) rfl hj hL (by omega)) ?_
  refine V_i2l C dL_law_757 ?_
  refine V_bipush (v := 32) C dL_law_758 (by decide) ?_
  refine V_lshl C dL_law_760 rfl ?_
  refine V_aload_n C dL_law_761 rfl 5 rfl ?_
  refine V_iload C dL_law_762 1 rfl ?_
  refine V_iconst (v := 3) C dL_law_764 (by decide) ?_
  refine V_iadd C dL_law_765 ?_
  refine V_sld C hs dL_law_766 (lin_a (k := 3) rfl hj hL (by omega)) ?_
  refine V_i2l C dL_law_767 ?_
  refine V_ldc2 (v := 4294967295) C dL_law_768 (List.mem_of_getElem? (i := 7) rfl) ?_
  refine V_land C dL_law_771 ?_
  refine V_lor C dL_law_772 ?_
  refine V_fcallvV C dL_law_773 0 rfl rfl hM gL_law_X8_poke rfl 2 rfl (by decide +kernel) (by decide) ⟨hkc, hkn⟩ rfl (Nat.le_of_ble_eq_true rfl) (det1 ?_)
  refine V_aload_n C dL_law_776 rfl 3 rfl ?_
  refine V_fcalliV C dL_law_777 0 rfl rfl (c_X8_thrown l D K h2 v0) gL_law_X8_thrown rfl 0 rfl (by decide +kernel) (by decide) ⟨hkc, hkn⟩ rfl (Nat.le_of_ble_eq_true rfl) (det2 ?_)
  refine V_iload C dL_law_780 0 rfl ?_
  refine V_icmp_eq (tgt := 787) C dL_law_782 (by decide) (fun zh782 => ?_) (fun zh782 => ?_)
  · refine V_goto (tgt := 901) C dL_law_787 (by decide) ?_
    exact V_sub [1, 2, 3, 4, 5] rfl (next v0 f9 u9 e3)
  · exact absurd e1 zh782
set_option maxHeartbeats 4000000 in
set_option maxRecDepth 100000 in
theorem k_look {X : vCtx} {l : Launch} (hlf : l.stackTraces = false) {D : va_G} {K : Nat → ClassId} {G : gE} {tb : Nat → Nat} (ga9 : gAll G tb) (gx : gXc G) (gc : gCa G) {h h2 : Nat → Nat} {ao : Nat} {f : Nat → Int64} {u : CS} {v : MS} (C : vC X cL_law 8 wsL_law RL vwCl D (tys0 K) l room_1) (hg : vG X G) {b L : Nat} {xs : Nat → Int32} (hs : vS X b L xs) {j : Nat} (hj : 7 * j + 7 ≤ L) (hL : L ≤ 3584) {kc kn : Nat} (hkc : kc + 1 ≤ 601024) (hkn : kn + 6 ≤ 7293034) (hR : RW u v) (next : ∀ (v9 : MS) (f9 : Nat → Int64) (u9 : CS), RW u9 v9 → V X (kc + 1) (kn + 6) (mw K h2 v9 ++ lwd K h ao (f9, u9)) 901 [(4, .int (nI (7 * j))), (3, .ref ao), (2, .ref (h2 0)), (1, .ref (h 0)), (0, .ref b)] []) : V X kc kn (mw K h2 v ++ lwd K h ao (f, u)) 790 [(4, .int (nI (7 * j))), (3, .ref ao), (2, .ref (h2 0)), (1, .ref (h 0)), (0, .ref b)] [] := by
  refine V_aload_n C dL_law_790 rfl 3 rfl ?_
  refine V_aload_n C dL_law_791 rfl 4 rfl ?_
  refine V_iload C dL_law_792 0 rfl ?_
  refine V_iconst (v := 1) C dL_law_794 (by decide) ?_
  refine V_iadd C dL_law_795 ?_
  refine V_sld C hs dL_law_796 (lin_a (k := 1) rfl hj hL (by omega)) ?_
  refine V_aload_n C dL_law_797 rfl 1 rfl ?_
  obtain ⟨P9, r0, v0, hH, hM, hc9⟩ := p_look l hlf D K G tb ga9 gx gc h h2 ao f hR (xs ((nI (7 * j)) + 1).toNatClampNeg)
  refine V_hcall C ga9.1 hg dL_law_798 hH gL_law_L_look rfl 3 rfl (by decide +kernel) (by decide) ⟨hkc, hkn⟩ rfl (Nat.le_of_ble_eq_true rfl) (fun k9 s9 hP9 => ?_)
  obtain ⟨f9, u9⟩ := s9
  obtain ⟨e1, e2, e3⟩ := hc9 k9 (f9, u9) hP9
  refine V_istore (lv' := [(5, .int k9), (4, .int (nI (7 * j))), (3, .ref ao), (2, .ref (h2 0)), (1, .ref (h 0)), (0, .ref b)]) C dL_law_801 (by decide) rfl ?_
  refine V_aload_n C dL_law_803 rfl 3 rfl ?_
  refine V_aload_n C dL_law_804 rfl 5 rfl ?_
  refine V_iload C dL_law_805 1 rfl ?_
  refine V_iconst (v := 1) C dL_law_807 (by decide) ?_
  refine V_iadd C dL_law_808 ?_
  refine V_sld C hs dL_law_809 (lin_a (k := 1) rfl hj hL (by omega)) ?_
  refine V_fcalliV C dL_law_810 0 rfl rfl hM gL_law_X8_look rfl 1 rfl (by decide +kernel) (by decide) ⟨hkc, hkn⟩ rfl (Nat.le_of_ble_eq_true rfl) (det2 ?_)
  refine V_istore (lv' := [(6, .int r0), (5, .int k9), (4, .int (nI (7 * j))), (3, .ref ao), (2, .ref (h2 0)), (1, .ref (h 0)), (0, .ref b)]) C dL_law_813 (by decide) rfl ?_
  refine V_aload_n C dL_law_815 rfl 4 rfl ?_
  refine V_fcalliV C dL_law_816 0 rfl rfl (c_X8_thrown l D K h2 v0) gL_law_X8_thrown rfl 0 rfl (by decide +kernel) (by decide) ⟨hkc, hkn⟩ rfl (Nat.le_of_ble_eq_true rfl) (det2 ?_)
  refine V_iload C dL_law_819 1 rfl ?_
  refine V_icmp_eq (tgt := 826) C dL_law_821 (by decide) (fun zh821 => ?_) (fun zh821 => ?_)
  · refine V_iload C dL_law_826 1 rfl ?_
    refine V_if_ne (tgt := 843) C dL_law_828 (by decide) (fun zh828 => ?_) (fun zh828 => ?_)
    · refine V_goto (tgt := 901) C dL_law_843 (by decide) ?_
      exact V_sub [2, 3, 4, 5, 6] rfl (next v0 f9 u9 e3)
    · refine V_aload_n C dL_law_831 rfl 3 rfl ?_
      refine V_iconst (v := 0) C dL_law_832 (by decide) ?_
      refine V_laldn (v := (f9 0)) C dL_law_833 14 1 rfl rfl 0 (by decide) (by unfold vp_in; decide) rfl ?_
      refine V_iload C dL_law_834 0 rfl ?_
      refine V_i2l C dL_law_836 ?_
      refine V_lcmp C dL_law_837 ?_
      refine V_lc_eq (tgt := 843) C dL_law_838 (by decide) (fun zh838 => ?_) (fun zh838 => ?_)
      · refine V_goto (tgt := 901) C dL_law_843 (by decide) ?_
        exact V_sub [2, 3, 4, 5, 6] rfl (next v0 f9 u9 e3)
      · exact absurd (e2 zh828) zh838
  · exact absurd e1 zh821
set_option maxHeartbeats 4000000 in
set_option maxRecDepth 100000 in
theorem k_backing {X : vCtx} {l : Launch} (hlf : l.stackTraces = false) {D : va_G} {K : Nat → ClassId} {G : gE} {tb : Nat → Nat} (ga9 : gAll G tb) (gx : gXc G) (gc : gCa G) {h h2 : Nat → Nat} {ao : Nat} {f : Nat → Int64} {u : CS} {v : MS} (C : vC X cL_law 8 wsL_law RL vwCl D (tys0 K) l room_1) (hg : vG X G) {b L : Nat} {xs : Nat → Int32} (hs : vS X b L xs) {j : Nat} (hj : 7 * j + 7 ≤ L) (hL : L ≤ 3584) {kc kn : Nat} (hkc : kc + 1 ≤ 601024) (hkn : kn + 6 ≤ 7293034) (hR : RW u v) (next : ∀ (v9 : MS) (f9 : Nat → Int64) (u9 : CS), RW u9 v9 → V X (kc + 1) (kn + 6) (mw K h2 v9 ++ lwd K h ao (f9, u9)) 901 [(4, .int (nI (7 * j))), (3, .ref ao), (2, .ref (h2 0)), (1, .ref (h 0)), (0, .ref b)] []) : V X kc kn (mw K h2 v ++ lwd K h ao (f, u)) 846 [(4, .int (nI (7 * j))), (3, .ref ao), (2, .ref (h2 0)), (1, .ref (h 0)), (0, .ref b)] [] := by
  refine V_aload_n C dL_law_846 rfl 3 rfl ?_
  refine V_aload_n C dL_law_847 rfl 4 rfl ?_
  refine V_iload C dL_law_848 0 rfl ?_
  refine V_iconst (v := 1) C dL_law_850 (by decide) ?_
  refine V_iadd C dL_law_851 ?_
  refine V_sld C hs dL_law_852 (lin_a (k := 1) rfl hj hL (by omega)) ?_
  refine V_aload_n C dL_law_853 rfl 1 rfl ?_
  obtain ⟨P9, r0, v0, hH, hM, hc9⟩ := p_backing l hlf D K G tb ga9 gx gc h h2 ao f hR (xs ((nI (7 * j)) + 1).toNatClampNeg)
  refine V_hcall C ga9.1 hg dL_law_854 hH gL_law_L_backing rfl 3 rfl (by decide +kernel) (by decide) ⟨hkc, hkn⟩ rfl (Nat.le_of_ble_eq_true rfl) (fun k9 s9 hP9 => ?_)
  obtain ⟨f9, u9⟩ := s9
  obtain ⟨e1, e2, e3⟩ := hc9 k9 (f9, u9) hP9
  refine V_istore (lv' := [(5, .int k9), (4, .int (nI (7 * j))), (3, .ref ao), (2, .ref (h2 0)), (1, .ref (h 0)), (0, .ref b)]) C dL_law_857 (by decide) rfl ?_
  refine V_aload_n C dL_law_859 rfl 3 rfl ?_
  refine V_aload_n C dL_law_860 rfl 5 rfl ?_
  refine V_iload C dL_law_861 1 rfl ?_
  refine V_iconst (v := 1) C dL_law_863 (by decide) ?_
  refine V_iadd C dL_law_864 ?_
  refine V_sld C hs dL_law_865 (lin_a (k := 1) rfl hj hL (by omega)) ?_
  refine V_fcalllV C dL_law_866 0 rfl rfl hM gL_law_X8_backing rfl 1 rfl (by decide +kernel) (by decide) ⟨hkc, hkn⟩ rfl (Nat.le_of_ble_eq_true rfl) (det2 ?_)
  refine V_lstore (lv' := [(6, .long r0), (5, .int k9), (4, .int (nI (7 * j))), (3, .ref ao), (2, .ref (h2 0)), (1, .ref (h 0)), (0, .ref b)]) C dL_law_869 (by decide) rfl ?_
  refine V_aload_n C dL_law_871 rfl 4 rfl ?_
  refine V_fcalliV C dL_law_872 0 rfl rfl (c_X8_thrown l D K h2 v0) gL_law_X8_thrown rfl 0 rfl (by decide +kernel) (by decide) ⟨hkc, hkn⟩ rfl (Nat.le_of_ble_eq_true rfl) (det2 ?_)
  refine V_iload C dL_law_875 1 rfl ?_
  refine V_icmp_eq (tgt := 882) C dL_law_877 (by decide) (fun zh877 => ?_) (fun zh877 => ?_)
  · refine V_iload C dL_law_882 1 rfl ?_
    refine V_if_ne (tgt := 898) C dL_law_884 (by decide) (fun zh884 => ?_) (fun zh884 => ?_)
    · refine V_goto (tgt := 901) C dL_law_898 (by decide) ?_
      exact V_sub [2, 3, 4, 5, 6] rfl (next v0 f9 u9 e3)
    · refine V_aload_n C dL_law_887 rfl 3 rfl ?_
      refine V_iconst (v := 0) C dL_law_888 (by decide) ?_
      refine V_laldn (v := (f9 0)) C dL_law_889 14 1 rfl rfl 0 (by decide) (by unfold vp_in; decide) rfl ?_
      refine V_lload C dL_law_890 0 rfl ?_
      refine V_lcmp C dL_law_892 ?_
      refine V_lc_eq (tgt := 898) C dL_law_893 (by decide) (fun zh893 => ?_) (fun zh893 => ?_)
      · refine V_goto (tgt := 901) C dL_law_898 (by decide) ?_
        exact V_sub [2, 3, 4, 5, 6] rfl (next v0 f9 u9 e3)
      · exact absurd (e2 zh884) zh893
  · exact absurd e1 zh877
