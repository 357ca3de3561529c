theorem l2i_in {k : Int64} (h : decide (0 ≤ k ∧ k < 32) = true) : vp_in k.toInt32 32 := by
  obtain ⟨h1, h2⟩ := of_decide_eq_true h
  have g1 := Int64.le_iff_toInt_le.mp h1
  have g2 := Int64.lt_iff_toInt_lt.mp h2
  have e0 : (0 : Int64).toInt = 0 := by decide
  have e32 : (32 : Int64).toInt = 32 := by decide
  have e : k.toInt32.toInt = k.toInt := by
    rw [Int64.toInt_toInt32]
    apply Int.bmod_eq_of_le <;> omega
  exact vp_in_iff.mpr ⟨by omega, by omega⟩
theorem mNat_sl (u : MS) (k i : Nat) (v : Int64) (r : Int32) : mNat (sl u k i v) r = mNat u r := rfl
def mInc (u : MS) : MS := si u 27 (gi u 27 + 1)
def mMem (u : MS) (o a b : Int32) (s : Bool) (y : Int32) (k : Int64) (t : Bool) : Int32 × MS :=
  if o = 9 ∧ (mNat u y = true ∨ t = false) then (-1, mInc (mPut u a 0 true))
  else if mNat u y = true ∨ (o = 10 ∧ mNat u b = true) then (3, u)
  else if t = false then (2, u)
  else if s = true then (-1, mInc (sz (sl u 18 k.toInt32.toNatClampNeg (mGet u b)) 19 k.toInt32.toNatClampNeg (mNat u b)))
  else (-1, mInc (mPut u a (gl u 18 k.toInt32.toNatClampNeg) (decide (o = 12) && gz u 19 k.toInt32.toNatClampNeg)))
def mMemory (u : MS) (o a b : Int32) : Int32 × MS := mMem u o a b (decide (o = 10 ∨ o = 11)) (if decide (o = 10 ∨ o = 11) = true then a else b) (mGet u (if decide (o = 10 ∨ o = 11) = true then a else b)) (decide (0 ≤ mGet u (if decide (o = 10 ∨ o = 11) = true then a else b) ∧ mGet u (if decide (o = 10 ∨ o = 11) = true then a else b) < 32))
theorem mPut_27 (u : MS) (r : Int32) (v : Int64) (b : Bool) : gi (mPut u r v b) 27 = gi u 27 := by unfold mPut; split <;> rfl
theorem gi_mPut (u : MS) (r : Int32) (v : Int64) (b : Bool) (k : Nat) : gi (mPut u r v b) k = gi u k := by unfold mPut; split <;> rfl
set_option maxHeartbeats 4000000 in
set_option maxRecDepth 100000 in
theorem c_X8_memoryStep (l : Launch) (D : va_G) (K : Nat → ClassId) (h : Nat → Nat) (u : MS) (xo : Int32) (xa : Int32) (xb : Int32) (hpa : mOk u xa) (hpb : mOk u xb) : vMi l D vwCl (tys0 K) yX8_memoryStep wsX8_memoryStep ({ frames := 2, cells := 0, slots := 0, locals := 46 } : Room) [.ref (h 0), .int xo, .int xa, .int xb] (mw K h u) (mw K h) (fun r9 u9 => r9 = (mMemory u xo xa xb).1 ∧ u9 = (mMemory u xo xa xb).2) := by
  refine vMi_of (cc := cX8_memoryStep) (nL := 10) (rt := .int) (by decide) rfl (Nat.le_of_ble_eq_true rfl) ?_
  intro X C E
  show V X 0 0 (mw K h u) 0 [(0, .ref (h 0)), (1, .int xo), (2, .int xa), (3, .int xb)] []
  have hi8 : ∀ w ∈ wsX80, w ∈ wsX8_memoryStep := fun _ h => List.mem_cons_of_mem _ (List.mem_append_right _ h)
  suffices zj17 : ∀ xs : Bool, xs = (decide (xo = 10 ∨ xo = 11)) → V X 0 0 (mw K h u) 17 [(0, .ref (h 0)), (1, .int xo), (2, .int xa), (3, .int xb)] [.int (b2i xs)] by
    refine V_iload_n C dX8_memoryStep_0 rfl 1 rfl ?_
    refine V_bipush (v := 10) C dX8_memoryStep_1 (by decide) ?_
    refine V_icmp_eq (tgt := 12) C dX8_memoryStep_3 (by decide) (fun zh3 => ?_) (fun zh3 => ?_)
    · refine V_iconst (v := 1) C dX8_memoryStep_12 (by decide) ?_
      refine V_goto (tgt := 17) C dX8_memoryStep_13 (by decide) ?_
      refine V_sub [0, 1, 2, 3] rfl ?_
      exact zj17 true (by first | rfl | (simp (decide := true) [b2i, gi_si, ga_si, gz_si, gl_si, gb_si, mPl_si, mGet_si, mNat_si, mSlot_si, mBy_si, mThr, zh3]; done) | (simp (decide := true) [b2i, gi_si, ga_si, gz_si, gl_si, gb_si, mPl_si, mGet_si, mNat_si, mSlot_si, mBy_si, mThr, zh3]; rfl) | (simp_all (decide := true) [b2i, gi_si, ga_si, gz_si, gl_si, gb_si, mPl_si, mGet_si, mNat_si, mSlot_si, mBy_si, mThr]; done))
    · refine V_iload_n C dX8_memoryStep_6 rfl 1 rfl ?_
      refine V_bipush (v := 11) C dX8_memoryStep_7 (by decide) ?_
      refine V_icmp_ne (tgt := 16) C dX8_memoryStep_9 (by decide) (fun zh9 => ?_) (fun zh9 => ?_)
      · refine V_iconst (v := 0) C dX8_memoryStep_16 (by decide) ?_
        refine V_sub [0, 1, 2, 3] rfl ?_
        exact zj17 false (by first | rfl | (simp (decide := true) [b2i, gi_si, ga_si, gz_si, gl_si, gb_si, mPl_si, mGet_si, mNat_si, mSlot_si, mBy_si, mThr, zh3, zh9]; done) | (simp (decide := true) [b2i, gi_si, ga_si, gz_si, gl_si, gb_si, mPl_si, mGet_si, mNat_si, mSlot_si, mBy_si, mThr, zh3, zh9]; rfl) | (simp_all (decide := true) [b2i, gi_si, ga_si, gz_si, gl_si, gb_si, mPl_si, mGet_si, mNat_si, mSlot_si, mBy_si, mThr]; done))
      · refine V_iconst (v := 1) C dX8_memoryStep_12 (by decide) ?_
        refine V_goto (tgt := 17) C dX8_memoryStep_13 (by decide) ?_
        refine V_sub [0, 1, 2, 3] rfl ?_
        exact zj17 true (by first | rfl | (simp (decide := true) [b2i, gi_si, ga_si, gz_si, gl_si, gb_si, mPl_si, mGet_si, mNat_si, mSlot_si, mBy_si, mThr, zh3, zh9]; done) | (simp (decide := true) [b2i, gi_si, ga_si, gz_si, gl_si, gb_si, mPl_si, mGet_si, mNat_si, mSlot_si, mBy_si, mThr, zh3, zh9]; rfl) | (simp_all (decide := true) [b2i, gi_si, ga_si, gz_si, gl_si, gb_si, mPl_si, mGet_si, mNat_si, mSlot_si, mBy_si, mThr]; done))
  intro xs e_xs
  refine V_istore (lv' := [(4, .int (b2i xs)), (0, .ref (h 0)), (1, .int xo), (2, .int xa), (3, .int xb)]) C dX8_memoryStep_17 (by decide) rfl ?_
  suffices zj29 : ∀ xy : Int32, xy = (if xs = true then xa else xb) → V X 0 0 (mw K h u) 29 [(4, .int (b2i xs)), (0, .ref (h 0)), (1, .int xo), (2, .int xa), (3, .int xb)] [.int xy] by
    refine V_iload C dX8_memoryStep_19 0 rfl ?_
    refine V_ifz_eq (tgt := 28) C dX8_memoryStep_21 (by decide) (fun zh21 => ?_) (fun zh21 => ?_)
    · refine V_iload_n C dX8_memoryStep_28 rfl 4 rfl ?_
      refine V_sub [0, 1, 2, 3, 4] rfl ?_
      exact zj29 xb (by first | rfl | (simp (decide := true) [b2i, gi_si, ga_si, gz_si, gl_si, gb_si, mPl_si, mGet_si, mNat_si, mSlot_si, mBy_si, mThr, zh21]; done) | (simp (decide := true) [b2i, gi_si, ga_si, gz_si, gl_si, gb_si, mPl_si, mGet_si, mNat_si, mSlot_si, mBy_si, mThr, zh21]; rfl) | (simp_all (decide := true) [b2i, gi_si, ga_si, gz_si, gl_si, gb_si, mPl_si, mGet_si, mNat_si, mSlot_si, mBy_si, mThr]; done))
    · refine V_iload_n C dX8_memoryStep_24 rfl 3 rfl ?_
      refine V_goto (tgt := 29) C dX8_memoryStep_25 (by decide) ?_
      refine V_sub [0, 1, 2, 3, 4] rfl ?_
      exact zj29 xa (by first | rfl | (simp (decide := true) [b2i, gi_si, ga_si, gz_si, gl_si, gb_si, mPl_si, mGet_si, mNat_si, mSlot_si, mBy_si, mThr, zh21]; done) | (simp (decide := true) [b2i, gi_si, ga_si, gz_si, gl_si, gb_si, mPl_si, mGet_si, mNat_si, mSlot_si, mBy_si, mThr, zh21]; rfl) | (simp_all (decide := true) [b2i, gi_si, ga_si, gz_si, gl_si, gb_si, mPl_si, mGet_si, mNat_si, mSlot_si, mBy_si, mThr]; done))
  intro xy e_xy
  refine V_istore (lv' := [(5, .int xy), (4, .int (b2i xs)), (0, .ref (h 0)), (1, .int xo), (2, .int xa), (3, .int xb)]) C dX8_memoryStep_29 (by decide) rfl ?_
  have zy : mOk u xy := by rw [e_xy]; cases xs; exact hpb; exact hpa
  refine V_aload_n C dX8_memoryStep_31 rfl 2 rfl ?_
  refine V_iload C dX8_memoryStep_32 0 rfl ?_
  refine V_calllV C dX8_memoryStep_34 0 rfl rfl (c_X8_get l D K h u xy zy) gX8_memoryStep_X8_get rfl 1 rfl (by decide +kernel) (by decide) ⟨Nat.le_of_ble_eq_true rfl, Nat.le_of_ble_eq_true rfl⟩ rfl (Nat.le_of_ble_eq_true rfl) (det2 ?_)
  refine V_topl (fun xk e_xk => ?_)
  refine V_lstore (lv' := [(6, .long xk), (5, .int xy), (4, .int (b2i xs)), (0, .ref (h 0)), (1, .int xo), (2, .int xa), (3, .int xb)]) C dX8_memoryStep_37 (by decide) rfl ?_
  suffices zj60 : ∀ xt : Bool, xt = (decide (0 ≤ xk ∧ xk < 32)) → V X 0 0 (mw K h u) 60 [(6, .long xk), (5, .int xy), (4, .int (b2i xs)), (0, .ref (h 0)), (1, .int xo), (2, .int xa), (3, .int xb)] [.int (b2i xt)] by
    refine V_lload C dX8_memoryStep_39 0 rfl ?_
    refine V_lconst (v := 0) C dX8_memoryStep_41 (by decide) ?_
    refine V_lcmp C dX8_memoryStep_42 ?_
    refine V_lc_lt (tgt := 59) C dX8_memoryStep_43 (by decide) (fun zh43 => ?_) (fun zh43 => ?_)
    · refine V_iconst (v := 0) C dX8_memoryStep_59 (by decide) ?_
      refine V_sub [0, 1, 2, 3, 4, 5, 6] rfl ?_
      exact zj60 false (by first | rfl | (simp (decide := true) [b2i, gi_si, ga_si, gz_si, gl_si, gb_si, mPl_si, mGet_si, mNat_si, mSlot_si, mBy_si, mThr, zh43, Int64.not_le.mpr zh43]; done) | (simp (decide := true) [b2i, gi_si, ga_si, gz_si, gl_si, gb_si, mPl_si, mGet_si, mNat_si, mSlot_si, mBy_si, mThr, zh43, Int64.not_le.mpr zh43]; rfl) | (simp_all (decide := true) [b2i, gi_si, ga_si, gz_si, gl_si, gb_si, mPl_si, mGet_si, mNat_si, mSlot_si, mBy_si, mThr]; done))
    · refine V_lload C dX8_memoryStep_46 0 rfl ?_
      refine V_ldc2 (v := 32) C dX8_memoryStep_48 (List.mem_of_getElem? (i := 1) rfl) ?_
      refine V_lcmp C dX8_memoryStep_51 ?_
      refine V_lc_ge (tgt := 59) C dX8_memoryStep_52 (by decide) (fun zh52 => ?_) (fun zh52 => ?_)
      · refine V_iconst (v := 0) C dX8_memoryStep_59 (by decide) ?_
        refine V_sub [0, 1, 2, 3, 4, 5, 6] rfl ?_
        exact zj60 false (by first | rfl | (simp (decide := true) [b2i, gi_si, ga_si, gz_si, gl_si, gb_si, mPl_si, mGet_si, mNat_si, mSlot_si, mBy_si, mThr, zh43, Int64.not_lt.mp zh43, zh52, Int64.not_lt.mpr zh52]; done) | (simp (decide := true) [b2i, gi_si, ga_si, gz_si, gl_si, gb_si, mPl_si, mGet_si, mNat_si, mSlot_si, mBy_si, mThr, zh43, Int64.not_lt.mp zh43, zh52, Int64.not_lt.mpr zh52]; rfl) | (simp_all (decide := true) [b2i, gi_si, ga_si, gz_si, gl_si, gb_si, mPl_si, mGet_si, mNat_si, mSlot_si, mBy_si, mThr]; done))
      · refine V_iconst (v := 1) C dX8_memoryStep_55 (by decide) ?_
        refine V_goto (tgt := 60) C dX8_memoryStep_56 (by decide) ?_
        refine V_sub [0, 1, 2, 3, 4, 5, 6] rfl ?_
        exact zj60 true (by first | rfl | (simp (decide := true) [b2i, gi_si, ga_si, gz_si, gl_si, gb_si, mPl_si, mGet_si, mNat_si, mSlot_si, mBy_si, mThr, zh43, Int64.not_lt.mp zh43, zh52, Int64.not_le.mp zh52]; done) | (simp (decide := true) [b2i, gi_si, ga_si, gz_si, gl_si, gb_si, mPl_si, mGet_si, mNat_si, mSlot_si, mBy_si, mThr, zh43, Int64.not_lt.mp zh43, zh52, Int64.not_le.mp zh52]; rfl) | (simp_all (decide := true) [b2i, gi_si, ga_si, gz_si, gl_si, gb_si, mPl_si, mGet_si, mNat_si, mSlot_si, mBy_si, mThr]; done))
  intro xt e_xt
  refine V_istore (lv' := [(8, .int (b2i xt)), (6, .long xk), (5, .int xy), (4, .int (b2i xs)), (0, .ref (h 0)), (1, .int xo), (2, .int xa), (3, .int xb)]) C dX8_memoryStep_60 (by decide) rfl ?_
  have zme : mMemory u xo xa xb = mMem u xo xa xb xs xy xk xt := by subst e_xt; subst e_xk; subst e_xy; subst e_xs; rfl
  refine V_aload_n C dX8_memoryStep_62 rfl 4 rfl ?_
  refine V_iload C dX8_memoryStep_63 2 rfl ?_
  refine V_calliV C dX8_memoryStep_65 0 rfl rfl (c_X8_isNat l D K h u xy zy) gX8_memoryStep_X8_isNat rfl 1 rfl (by decide +kernel) (by decide) ⟨Nat.le_of_ble_eq_true rfl, Nat.le_of_ble_eq_true rfl⟩ rfl (Nat.le_of_ble_eq_true rfl) (det2 ?_)
  refine V_istore (lv' := [(9, .int (b2i (mNat u xy))), (8, .int (b2i xt)), (6, .long xk), (5, .int xy), (4, .int (b2i xs)), (0, .ref (h 0)), (1, .int xo), (2, .int xa), (3, .int xb)]) C dX8_memoryStep_68 (by decide) rfl ?_
  refine V_iload_n C dX8_memoryStep_70 rfl 6 rfl ?_
  refine V_bipush (v := 9) C dX8_memoryStep_71 (by decide) ?_
  refine V_icmp_ne (tgt := 96) C dX8_memoryStep_73 (by decide) (fun zh73 => ?_) (fun zh73 => ?_)
  · refine V_iload C dX8_memoryStep_96 0 rfl ?_
    refine V_ifz_ne (tgt := 115) C dX8_memoryStep_98 (by decide) (fun zh98 => ?_) (fun zh98 => ?_)
    · refine V_iconst (v := 3) C dX8_memoryStep_115 (by decide) ?_
      exact E 3 u _ _ dX8_memoryStep_116 rfl ⟨by rw [zme]; simp (decide := true) [mMem, zh73, zh98], by rw [zme]; first | (simp (decide := true) [mMem, mInc, gi_mPut, mNat_sl, zh73, zh98]; done) | (simp (decide := true) [mMem, mInc, gi_mPut, mNat_sl, zh73, zh98]; rfl)⟩
    · refine V_iload_n C dX8_memoryStep_101 rfl 6 rfl ?_
      refine V_bipush (v := 10) C dX8_memoryStep_102 (by decide) ?_
      refine V_icmp_ne (tgt := 117) C dX8_memoryStep_104 (by decide) (fun zh104 => ?_) (fun zh104 => ?_)
      · refine V_iload C dX8_memoryStep_117 1 rfl ?_
        refine V_ifz_ne (tgt := 124) C dX8_memoryStep_119 (by decide) (fun zh119 => ?_) (fun zh119 => ?_)
        · refine V_iload C dX8_memoryStep_124 4 rfl ?_
          refine V_ifz_eq (tgt := 158) C dX8_memoryStep_126 (by decide) (fun zh126 => ?_) (fun zh126 => ?_)
          · refine V_aload_n C dX8_memoryStep_158 rfl 5 rfl ?_
            refine V_iload_n C dX8_memoryStep_159 rfl 7 rfl ?_
            refine V_aload_n C dX8_memoryStep_160 rfl 5 rfl ?_
            refine V_get (v := .ref (h 19)) C dX8_memoryStep_161 hi8 0 rfl rfl 18 (by decide) (List.mem_of_getElem? (i := 2) rfl) rfl rfl ?_
            refine V_lload C dX8_memoryStep_164 2 rfl ?_
            refine V_l2i C dX8_memoryStep_166 ?_
            refine V_laldn (v := (gl u 18 (Int64.toInt32 xk).toNatClampNeg)) C dX8_memoryStep_167 10 1 rfl rfl ((Int64.toInt32 xk).toNatClampNeg) rfl (l2i_in (e_xt.symm.trans zh119)) rfl ?_
            suffices zj190 : ∀ xz : Bool, xz = (decide (xo = 12) && gz u 19 (xk.toInt32).toNatClampNeg) → V X 0 0 (mw K h u) 190 [(9, .int (b2i (mNat u xy))), (8, .int (b2i xt)), (6, .long xk), (5, .int xy), (4, .int (b2i xs)), (0, .ref (h 0)), (1, .int xo), (2, .int xa), (3, .int xb)] [.int (b2i xz), .long (gl u 18 (Int64.toInt32 xk).toNatClampNeg), .int xa, .ref (h 0)] by
              refine V_iload_n C dX8_memoryStep_168 rfl 6 rfl ?_
              refine V_bipush (v := 12) C dX8_memoryStep_169 (by decide) ?_
              refine V_icmp_ne (tgt := 189) C dX8_memoryStep_171 (by decide) (fun zh171 => ?_) (fun zh171 => ?_)
              · refine V_iconst (v := 0) C dX8_memoryStep_189 (by decide) ?_
                refine V_sub [0, 1, 2, 3, 4, 5, 6, 7, 8] rfl ?_
                exact zj190 false (by first | rfl | (simp (decide := true) [b2i, gi_si, ga_si, gz_si, gl_si, gb_si, mPl_si, mGet_si, mNat_si, mSlot_si, mBy_si, mThr, zh73, zh98, zh104, zh119, zh126, zh171]; done) | (simp (decide := true) [b2i, gi_si, ga_si, gz_si, gl_si, gb_si, mPl_si, mGet_si, mNat_si, mSlot_si, mBy_si, mThr, zh73, zh98, zh104, zh119, zh126, zh171]; rfl) | (simp_all (decide := true) [b2i, gi_si, ga_si, gz_si, gl_si, gb_si, mPl_si, mGet_si, mNat_si, mSlot_si, mBy_si, mThr]; done))
              · refine V_aload_n C dX8_memoryStep_174 rfl 5 rfl ?_
                refine V_get (v := .ref (h 20)) C dX8_memoryStep_175 hi8 0 rfl rfl 19 (by decide) (List.mem_of_getElem? (i := 3) rfl) rfl rfl ?_
                refine V_lload C dX8_memoryStep_178 2 rfl ?_
                refine V_l2i C dX8_memoryStep_180 ?_
                refine V_zaldn (v := (b2i (gz u 19 (Int64.toInt32 xk).toNatClampNeg))) C dX8_memoryStep_181 11 2 rfl rfl ((Int64.toInt32 xk).toNatClampNeg) rfl (l2i_in (e_xt.symm.trans zh119)) rfl ?_
                refine V_ifz_eq (tgt := 189) C dX8_memoryStep_182 (by decide) (fun zh182 => ?_) (fun zh182 => ?_)
                · refine V_iconst (v := 0) C dX8_memoryStep_189 (by decide) ?_
                  refine V_sub [0, 1, 2, 3, 4, 5, 6, 7, 8] rfl ?_
                  exact zj190 false (by first | rfl | (simp (decide := true) [b2i, gi_si, ga_si, gz_si, gl_si, gb_si, mPl_si, mGet_si, mNat_si, mSlot_si, mBy_si, mThr, zh73, zh98, zh104, zh119, zh126, zh171, zh182]; done) | (simp (decide := true) [b2i, gi_si, ga_si, gz_si, gl_si, gb_si, mPl_si, mGet_si, mNat_si, mSlot_si, mBy_si, mThr, zh73, zh98, zh104, zh119, zh126, zh171, zh182]; rfl) | (simp_all (decide := true) [b2i, gi_si, ga_si, gz_si, gl_si, gb_si, mPl_si, mGet_si, mNat_si, mSlot_si, mBy_si, mThr]; done))
                · refine V_iconst (v := 1) C dX8_memoryStep_185 (by decide) ?_
                  refine V_goto (tgt := 190) C dX8_memoryStep_186 (by decide) ?_
                  refine V_sub [0, 1, 2, 3, 4, 5, 6, 7, 8] rfl ?_
                  exact zj190 true (by first | rfl | (simp (decide := true) [b2i, gi_si, ga_si, gz_si, gl_si, gb_si, mPl_si, mGet_si, mNat_si, mSlot_si, mBy_si, mThr, zh73, zh98, zh104, zh119, zh126, zh171, zh182]; done) | (simp (decide := true) [b2i, gi_si, ga_si, gz_si, gl_si, gb_si, mPl_si, mGet_si, mNat_si, mSlot_si, mBy_si, mThr, zh73, zh98, zh104, zh119, zh126, zh171, zh182]; rfl) | (simp_all (decide := true) [b2i, gi_si, ga_si, gz_si, gl_si, gb_si, mPl_si, mGet_si, mNat_si, mSlot_si, mBy_si, mThr]; done))
            intro xz e_xz
            refine V_callvV C dX8_memoryStep_190 0 rfl rfl (c_X8_put l D K h u xa (gl u 18 (Int64.toInt32 xk).toNatClampNeg) xz hpa) gX8_memoryStep_X8_put rfl 3 rfl (by decide +kernel) (by decide) ⟨Nat.le_of_ble_eq_true rfl, Nat.le_of_ble_eq_true rfl⟩ rfl (Nat.le_of_ble_eq_true rfl) (det1 ?_)
            refine V_aload_n C dX8_memoryStep_193 rfl 5 rfl ?_
            refine V_dup C dX8_memoryStep_194 rfl ?_
            refine V_get (v := .int (gi (mPut u xa (gl u 18 (Int64.toInt32 xk).toNatClampNeg) xz) 27)) C dX8_memoryStep_195 hi8 0 rfl rfl 27 (by decide) (List.mem_of_getElem? (i := 4) rfl) rfl rfl ?_
            refine V_iconst (v := 1) C dX8_memoryStep_198 (by decide) ?_
            refine V_iadd C dX8_memoryStep_199 ?_
            refine V_put (ws' := (mw K h (si (mPut u xa (gl u 18 (Int64.toInt32 xk).toNatClampNeg) xz) 27 ((gi (mPut u xa (gl u 18 (Int64.toInt32 xk).toNatClampNeg) xz) 27) + 1)))) C dX8_memoryStep_200 hi8 tyX8_ok nmX8 0 rfl rfl 27 (by decide) (List.mem_of_getElem? (i := 4) rfl) rfl rfl rfl rfl rfl (Nat.le_of_ble_eq_true rfl) (ms_27 K h (mPut u xa (gl u 18 (Int64.toInt32 xk).toNatClampNeg) xz) ((gi (mPut u xa (gl u 18 (Int64.toInt32 xk).toNatClampNeg) xz) 27) + 1)) ?_
            refine V_iconst (v := (-1)) C dX8_memoryStep_203 (by decide) ?_
            exact E (-1) (si (mPut u xa (gl u 18 (Int64.toInt32 xk).toNatClampNeg) xz) 27 ((gi (mPut u xa (gl u 18 (Int64.toInt32 xk).toNatClampNeg) xz) 27) + 1)) _ _ dX8_memoryStep_204 rfl ⟨by rw [zme]; simp (decide := true) [mMem, zh73, zh98, zh104, zh119, zh126], by subst e_xz; rw [zme]; simp (decide := true) [mMem, mInc, gi_mPut, zh73, zh98, zh104, zh119, zh126]⟩
          · refine V_aload_n C dX8_memoryStep_129 rfl 5 rfl ?_
            refine V_get (v := .ref (h 19)) C dX8_memoryStep_130 hi8 0 rfl rfl 18 (by decide) (List.mem_of_getElem? (i := 2) rfl) rfl rfl ?_
            refine V_lload C dX8_memoryStep_133 2 rfl ?_
            refine V_l2i C dX8_memoryStep_135 ?_
            refine V_aload_n C dX8_memoryStep_136 rfl 5 rfl ?_
            refine V_iload_n C dX8_memoryStep_137 rfl 8 rfl ?_
            refine V_calllV C dX8_memoryStep_138 0 rfl rfl (c_X8_get l D K h u xb hpb) gX8_memoryStep_X8_get rfl 1 rfl (by decide +kernel) (by decide) ⟨Nat.le_of_ble_eq_true rfl, Nat.le_of_ble_eq_true rfl⟩ rfl (Nat.le_of_ble_eq_true rfl) (det2 ?_)
            refine V_lastn (ws' := (mw K h (sl u 18 ((Int64.toInt32 xk).toNatClampNeg) (mGet u xb)))) C dX8_memoryStep_141 10 1 rfl rfl ((Int64.toInt32 xk).toNatClampNeg) rfl (l2i_in (e_xt.symm.trans zh119)) (ms_18 K h u ((Int64.toInt32 xk).toNatClampNeg) (mGet u xb)) ?_
            refine V_aload_n C dX8_memoryStep_142 rfl 5 rfl ?_
            refine V_get (v := .ref (h 20)) C dX8_memoryStep_143 hi8 0 rfl rfl 19 (by decide) (List.mem_of_getElem? (i := 3) rfl) rfl rfl ?_
            refine V_lload C dX8_memoryStep_146 2 rfl ?_
            refine V_l2i C dX8_memoryStep_148 ?_
            refine V_aload_n C dX8_memoryStep_149 rfl 5 rfl ?_
            refine V_iload_n C dX8_memoryStep_150 rfl 8 rfl ?_
            refine V_calliV C dX8_memoryStep_151 0 rfl rfl (c_X8_isNat l D K h (sl u 18 ((Int64.toInt32 xk).toNatClampNeg) (mGet u xb)) xb hpb) gX8_memoryStep_X8_isNat rfl 1 rfl (by decide +kernel) (by decide) ⟨Nat.le_of_ble_eq_true rfl, Nat.le_of_ble_eq_true rfl⟩ rfl (Nat.le_of_ble_eq_true rfl) (det2 ?_)
            refine V_zastn (ws' := (mw K h (sz (sl u 18 ((Int64.toInt32 xk).toNatClampNeg) (mGet u xb)) 19 ((Int64.toInt32 xk).toNatClampNeg) (mNat (sl u 18 ((Int64.toInt32 xk).toNatClampNeg) (mGet u xb)) xb)))) C dX8_memoryStep_154 11 2 rfl rfl ((Int64.toInt32 xk).toNatClampNeg) rfl (l2i_in (e_xt.symm.trans zh119)) (ms_19 K h (sl u 18 ((Int64.toInt32 xk).toNatClampNeg) (mGet u xb)) ((Int64.toInt32 xk).toNatClampNeg) (mNat (sl u 18 ((Int64.toInt32 xk).toNatClampNeg) (mGet u xb)) xb)) ?_
            refine V_goto (tgt := 193) C dX8_memoryStep_155 (by decide) ?_
            refine V_aload_n C dX8_memoryStep_193 rfl 5 rfl ?_
            refine V_dup C dX8_memoryStep_194 rfl ?_
            refine V_get (v := .int (gi u 27)) C dX8_memoryStep_195 hi8 0 rfl rfl 27 (by decide) (List.mem_of_getElem? (i := 4) rfl) rfl rfl ?_
            refine V_iconst (v := 1) C dX8_memoryStep_198 (by decide) ?_
            refine V_iadd C dX8_memoryStep_199 ?_
            refine V_put (ws' := (mw K h (si (sz (sl u 18 ((Int64.toInt32 xk).toNatClampNeg) (mGet u xb)) 19 ((Int64.toInt32 xk).toNatClampNeg) (mNat (sl u 18 ((Int64.toInt32 xk).toNatClampNeg) (mGet u xb)) xb)) 27 ((gi u 27) + 1)))) C dX8_memoryStep_200 hi8 tyX8_ok nmX8 0 rfl rfl 27 (by decide) (List.mem_of_getElem? (i := 4) rfl) rfl rfl rfl rfl rfl (Nat.le_of_ble_eq_true rfl) (ms_27 K h (sz (sl u 18 ((Int64.toInt32 xk).toNatClampNeg) (mGet u xb)) 19 ((Int64.toInt32 xk).toNatClampNeg) (mNat (sl u 18 ((Int64.toInt32 xk).toNatClampNeg) (mGet u xb)) xb)) ((gi u 27) + 1)) ?_
            refine V_iconst (v := (-1)) C dX8_memoryStep_203 (by decide) ?_
            exact E (-1) (si (sz (sl u 18 ((Int64.toInt32 xk).toNatClampNeg) (mGet u xb)) 19 ((Int64.toInt32 xk).toNatClampNeg) (mNat (sl u 18 ((Int64.toInt32 xk).toNatClampNeg) (mGet u xb)) xb)) 27 ((gi u 27) + 1)) _ _ dX8_memoryStep_204 rfl ⟨by rw [zme]; simp (decide := true) [mMem, zh73, zh98, zh104, zh119, zh126], by rw [zme]; first | (simp (decide := true) [mMem, mInc, gi_mPut, mNat_sl, zh73, zh98, zh104, zh119, zh126]; done) | (simp (decide := true) [mMem, mInc, gi_mPut, mNat_sl, zh73, zh98, zh104, zh119, zh126]; rfl)⟩
        · refine V_iconst (v := 2) C dX8_memoryStep_122 (by decide) ?_
          exact E 2 u _ _ dX8_memoryStep_123 rfl ⟨by rw [zme]; simp (decide := true) [mMem, zh73, zh98, zh104, zh119], by rw [zme]; first | (simp (decide := true) [mMem, mInc, gi_mPut, mNat_sl, zh73, zh98, zh104, zh119]; done) | (simp (decide := true) [mMem, mInc, gi_mPut, mNat_sl, zh73, zh98, zh104, zh119]; rfl)⟩
      · refine V_aload_n C dX8_memoryStep_107 rfl 5 rfl ?_
        refine V_iload_n C dX8_memoryStep_108 rfl 8 rfl ?_
        refine V_calliV C dX8_memoryStep_109 0 rfl rfl (c_X8_isNat l D K h u xb hpb) gX8_memoryStep_X8_isNat rfl 1 rfl (by decide +kernel) (by decide) ⟨Nat.le_of_ble_eq_true rfl, Nat.le_of_ble_eq_true rfl⟩ rfl (Nat.le_of_ble_eq_true rfl) (det2 ?_)
        refine V_ifz_eq (tgt := 117) C dX8_memoryStep_112 (by decide) (fun zh112 => ?_) (fun zh112 => ?_)
        · refine V_iload C dX8_memoryStep_117 1 rfl ?_
          refine V_ifz_ne (tgt := 124) C dX8_memoryStep_119 (by decide) (fun zh119 => ?_) (fun zh119 => ?_)
          · refine V_iload C dX8_memoryStep_124 4 rfl ?_
            refine V_ifz_eq (tgt := 158) C dX8_memoryStep_126 (by decide) (fun zh126 => ?_) (fun zh126 => ?_)
            · refine V_aload_n C dX8_memoryStep_158 rfl 5 rfl ?_
              refine V_iload_n C dX8_memoryStep_159 rfl 7 rfl ?_
              refine V_aload_n C dX8_memoryStep_160 rfl 5 rfl ?_
              refine V_get (v := .ref (h 19)) C dX8_memoryStep_161 hi8 0 rfl rfl 18 (by decide) (List.mem_of_getElem? (i := 2) rfl) rfl rfl ?_
              refine V_lload C dX8_memoryStep_164 2 rfl ?_
              refine V_l2i C dX8_memoryStep_166 ?_
              refine V_laldn (v := (gl u 18 (Int64.toInt32 xk).toNatClampNeg)) C dX8_memoryStep_167 10 1 rfl rfl ((Int64.toInt32 xk).toNatClampNeg) rfl (l2i_in (e_xt.symm.trans zh119)) rfl ?_
              suffices zj190 : ∀ xz : Bool, xz = (decide (xo = 12) && gz u 19 (xk.toInt32).toNatClampNeg) → V X 0 0 (mw K h u) 190 [(9, .int (b2i (mNat u xy))), (8, .int (b2i xt)), (6, .long xk), (5, .int xy), (4, .int (b2i xs)), (0, .ref (h 0)), (1, .int xo), (2, .int xa), (3, .int xb)] [.int (b2i xz), .long (gl u 18 (Int64.toInt32 xk).toNatClampNeg), .int xa, .ref (h 0)] by
                refine V_iload_n C dX8_memoryStep_168 rfl 6 rfl ?_
                refine V_bipush (v := 12) C dX8_memoryStep_169 (by decide) ?_
                refine V_icmp_ne (tgt := 189) C dX8_memoryStep_171 (by decide) (fun zh171 => ?_) (fun zh171 => ?_)
                · refine V_iconst (v := 0) C dX8_memoryStep_189 (by decide) ?_
                  refine V_sub [0, 1, 2, 3, 4, 5, 6, 7, 8] rfl ?_
                  exact zj190 false (by first | rfl | (simp (decide := true) [b2i, gi_si, ga_si, gz_si, gl_si, gb_si, mPl_si, mGet_si, mNat_si, mSlot_si, mBy_si, mThr, zh73, zh98, zh104, zh112, zh119, zh126, zh171]; done) | (simp (decide := true) [b2i, gi_si, ga_si, gz_si, gl_si, gb_si, mPl_si, mGet_si, mNat_si, mSlot_si, mBy_si, mThr, zh73, zh98, zh104, zh112, zh119, zh126, zh171]; rfl) | (simp_all (decide := true) [b2i, gi_si, ga_si, gz_si, gl_si, gb_si, mPl_si, mGet_si, mNat_si, mSlot_si, mBy_si, mThr]; done))
                · exact absurd zh171 (by rw [zh104]; decide)
              intro xz e_xz
              refine V_callvV C dX8_memoryStep_190 0 rfl rfl (c_X8_put l D K h u xa (gl u 18 (Int64.toInt32 xk).toNatClampNeg) xz hpa) gX8_memoryStep_X8_put rfl 3 rfl (by decide +kernel) (by decide) ⟨Nat.le_of_ble_eq_true rfl, Nat.le_of_ble_eq_true rfl⟩ rfl (Nat.le_of_ble_eq_true rfl) (det1 ?_)
              refine V_aload_n C dX8_memoryStep_193 rfl 5 rfl ?_
              refine V_dup C dX8_memoryStep_194 rfl ?_
              refine V_get (v := .int (gi (mPut u xa (gl u 18 (Int64.toInt32 xk).toNatClampNeg) xz) 27)) C dX8_memoryStep_195 hi8 0 rfl rfl 27 (by decide) (List.mem_of_getElem? (i := 4) rfl) rfl rfl ?_
              refine V_iconst (v := 1) C dX8_memoryStep_198 (by decide) ?_
              refine V_iadd C dX8_memoryStep_199 ?_
              refine V_put (ws' := (mw K h (si (mPut u xa (gl u 18 (Int64.toInt32 xk).toNatClampNeg) xz) 27 ((gi (mPut u xa (gl u 18 (Int64.toInt32 xk).toNatClampNeg) xz) 27) + 1)))) C dX8_memoryStep_200 hi8 tyX8_ok nmX8 0 rfl rfl 27 (by decide) (List.mem_of_getElem? (i := 4) rfl) rfl rfl rfl rfl rfl (Nat.le_of_ble_eq_true rfl) (ms_27 K h (mPut u xa (gl u 18 (Int64.toInt32 xk).toNatClampNeg) xz) ((gi (mPut u xa (gl u 18 (Int64.toInt32 xk).toNatClampNeg) xz) 27) + 1)) ?_
              refine V_iconst (v := (-1)) C dX8_memoryStep_203 (by decide) ?_
              exact E (-1) (si (mPut u xa (gl u 18 (Int64.toInt32 xk).toNatClampNeg) xz) 27 ((gi (mPut u xa (gl u 18 (Int64.toInt32 xk).toNatClampNeg) xz) 27) + 1)) _ _ dX8_memoryStep_204 rfl ⟨by rw [zme]; simp (decide := true) [mMem, zh73, zh98, zh104, zh112, zh119, zh126], by subst e_xz; rw [zme]; simp (decide := true) [mMem, mInc, gi_mPut, zh73, zh98, zh104, zh112, zh119, zh126]⟩
            · refine V_aload_n C dX8_memoryStep_129 rfl 5 rfl ?_
              refine V_get (v := .ref (h 19)) C dX8_memoryStep_130 hi8 0 rfl rfl 18 (by decide) (List.mem_of_getElem? (i := 2) rfl) rfl rfl ?_
              refine V_lload C dX8_memoryStep_133 2 rfl ?_
              refine V_l2i C dX8_memoryStep_135 ?_
              refine V_aload_n C dX8_memoryStep_136 rfl 5 rfl ?_
              refine V_iload_n C dX8_memoryStep_137 rfl 8 rfl ?_
              refine V_calllV C dX8_memoryStep_138 0 rfl rfl (c_X8_get l D K h u xb hpb) gX8_memoryStep_X8_get rfl 1 rfl (by decide +kernel) (by decide) ⟨Nat.le_of_ble_eq_true rfl, Nat.le_of_ble_eq_true rfl⟩ rfl (Nat.le_of_ble_eq_true rfl) (det2 ?_)
              refine V_lastn (ws' := (mw K h (sl u 18 ((Int64.toInt32 xk).toNatClampNeg) (mGet u xb)))) C dX8_memoryStep_141 10 1 rfl rfl ((Int64.toInt32 xk).toNatClampNeg) rfl (l2i_in (e_xt.symm.trans zh119)) (ms_18 K h u ((Int64.toInt32 xk).toNatClampNeg) (mGet u xb)) ?_
              refine V_aload_n C dX8_memoryStep_142 rfl 5 rfl ?_
              refine V_get (v := .ref (h 20)) C dX8_memoryStep_143 hi8 0 rfl rfl 19 (by decide) (List.mem_of_getElem? (i := 3) rfl) rfl rfl ?_
              refine V_lload C dX8_memoryStep_146 2 rfl ?_
              refine V_l2i C dX8_memoryStep_148 ?_
              refine V_aload_n C dX8_memoryStep_149 rfl 5 rfl ?_
              refine V_iload_n C dX8_memoryStep_150 rfl 8 rfl ?_
              refine V_calliV C dX8_memoryStep_151 0 rfl rfl (c_X8_isNat l D K h (sl u 18 ((Int64.toInt32 xk).toNatClampNeg) (mGet u xb)) xb hpb) gX8_memoryStep_X8_isNat rfl 1 rfl (by decide +kernel) (by decide) ⟨Nat.le_of_ble_eq_true rfl, Nat.le_of_ble_eq_true rfl⟩ rfl (Nat.le_of_ble_eq_true rfl) (det2 ?_)
              refine V_zastn (ws' := (mw K h (sz (sl u 18 ((Int64.toInt32 xk).toNatClampNeg) (mGet u xb)) 19 ((Int64.toInt32 xk).toNatClampNeg) (mNat (sl u 18 ((Int64.toInt32 xk).toNatClampNeg) (mGet u xb)) xb)))) C dX8_memoryStep_154 11 2 rfl rfl ((Int64.toInt32 xk).toNatClampNeg) rfl (l2i_in (e_xt.symm.trans zh119)) (ms_19 K h (sl u 18 ((Int64.toInt32 xk).toNatClampNeg) (mGet u xb)) ((Int64.toInt32 xk).toNatClampNeg) (mNat (sl u 18 ((Int64.toInt32 xk).toNatClampNeg) (mGet u xb)) xb)) ?_
              refine V_goto (tgt := 193) C dX8_memoryStep_155 (by decide) ?_
              refine V_aload_n C dX8_memoryStep_193 rfl 5 rfl ?_
              refine V_dup C dX8_memoryStep_194 rfl ?_
              refine V_get (v := .int (gi u 27)) C dX8_memoryStep_195 hi8 0 rfl rfl 27 (by decide) (List.mem_of_getElem? (i := 4) rfl) rfl rfl ?_
              refine V_iconst (v := 1) C dX8_memoryStep_198 (by decide) ?_
              refine V_iadd C dX8_memoryStep_199 ?_
              refine V_put (ws' := (mw K h (si (sz (sl u 18 ((Int64.toInt32 xk).toNatClampNeg) (mGet u xb)) 19 ((Int64.toInt32 xk).toNatClampNeg) (mNat (sl u 18 ((Int64.toInt32 xk).toNatClampNeg) (mGet u xb)) xb)) 27 ((gi u 27) + 1)))) C dX8_memoryStep_200 hi8 tyX8_ok nmX8 0 rfl rfl 27 (by decide) (List.mem_of_getElem? (i := 4) rfl) rfl rfl rfl rfl rfl (Nat.le_of_ble_eq_true rfl) (ms_27 K h (sz (sl u 18 ((Int64.toInt32 xk).toNatClampNeg) (mGet u xb)) 19 ((Int64.toInt32 xk).toNatClampNeg) (mNat (sl u 18 ((Int64.toInt32 xk).toNatClampNeg) (mGet u xb)) xb)) ((gi u 27) + 1)) ?_
              refine V_iconst (v := (-1)) C dX8_memoryStep_203 (by decide) ?_
              exact E (-1) (si (sz (sl u 18 ((Int64.toInt32 xk).toNatClampNeg) (mGet u xb)) 19 ((Int64.toInt32 xk).toNatClampNeg) (mNat (sl u 18 ((Int64.toInt32 xk).toNatClampNeg) (mGet u xb)) xb)) 27 ((gi u 27) + 1)) _ _ dX8_memoryStep_204 rfl ⟨by rw [zme]; simp (decide := true) [mMem, zh73, zh98, zh104, zh112, zh119, zh126], by rw [zme]; first | (simp (decide := true) [mMem, mInc, gi_mPut, mNat_sl, zh73, zh98, zh104, zh112, zh119, zh126]; done) | (simp (decide := true) [mMem, mInc, gi_mPut, mNat_sl, zh73, zh98, zh104, zh112, zh119, zh126]; rfl)⟩
          · refine V_iconst (v := 2) C dX8_memoryStep_122 (by decide) ?_
            exact E 2 u _ _ dX8_memoryStep_123 rfl ⟨by rw [zme]; simp (decide := true) [mMem, zh73, zh98, zh104, zh112, zh119], by rw [zme]; first | (simp (decide := true) [mMem, mInc, gi_mPut, mNat_sl, zh73, zh98, zh104, zh112, zh119]; done) | (simp (decide := true) [mMem, mInc, gi_mPut, mNat_sl, zh73, zh98, zh104, zh112, zh119]; rfl)⟩
        · refine V_iconst (v := 3) C dX8_memoryStep_115 (by decide) ?_
          exact E 3 u _ _ dX8_memoryStep_116 rfl ⟨by rw [zme]; simp (decide := true) [mMem, zh73, zh98, zh104, zh112], by rw [zme]; first | (simp (decide := true) [mMem, mInc, gi_mPut, mNat_sl, zh73, zh98, zh104, zh112]; done) | (simp (decide := true) [mMem, mInc, gi_mPut, mNat_sl, zh73, zh98, zh104, zh112]; rfl)⟩
  · refine V_iload C dX8_memoryStep_76 0 rfl ?_
    refine V_ifz_ne (tgt := 86) C dX8_memoryStep_78 (by decide) (fun zh78 => ?_) (fun zh78 => ?_)
    · refine V_aload_n C dX8_memoryStep_86 rfl 5 rfl ?_
      refine V_iload_n C dX8_memoryStep_87 rfl 7 rfl ?_
      refine V_lconst (v := 0) C dX8_memoryStep_88 (by decide) ?_
      refine V_iconst (v := 1) C dX8_memoryStep_89 (by decide) ?_
      refine V_callvV C dX8_memoryStep_90 0 rfl rfl (c_X8_put l D K h u xa 0 true hpa) gX8_memoryStep_X8_put rfl 3 rfl (by decide +kernel) (by decide) ⟨Nat.le_of_ble_eq_true rfl, Nat.le_of_ble_eq_true rfl⟩ rfl (Nat.le_of_ble_eq_true rfl) (det1 ?_)
      refine V_goto (tgt := 193) C dX8_memoryStep_93 (by decide) ?_
      refine V_aload_n C dX8_memoryStep_193 rfl 5 rfl ?_
      refine V_dup C dX8_memoryStep_194 rfl ?_
      refine V_get (v := .int (gi (mPut u xa 0 true) 27)) C dX8_memoryStep_195 hi8 0 rfl rfl 27 (by decide) (List.mem_of_getElem? (i := 4) rfl) rfl rfl ?_
      refine V_iconst (v := 1) C dX8_memoryStep_198 (by decide) ?_
      refine V_iadd C dX8_memoryStep_199 ?_
      refine V_put (ws' := (mw K h (si (mPut u xa 0 true) 27 ((gi (mPut u xa 0 true) 27) + 1)))) C dX8_memoryStep_200 hi8 tyX8_ok nmX8 0 rfl rfl 27 (by decide) (List.mem_of_getElem? (i := 4) rfl) rfl rfl rfl rfl rfl (Nat.le_of_ble_eq_true rfl) (ms_27 K h (mPut u xa 0 true) ((gi (mPut u xa 0 true) 27) + 1)) ?_
      refine V_iconst (v := (-1)) C dX8_memoryStep_203 (by decide) ?_
      exact E (-1) (si (mPut u xa 0 true) 27 ((gi (mPut u xa 0 true) 27) + 1)) _ _ dX8_memoryStep_204 rfl ⟨by rw [zme]; simp (decide := true) [mMem, zh73, zh78], by rw [zme]; first | (simp (decide := true) [mMem, mInc, gi_mPut, mNat_sl, zh73, zh78]; done) | (simp (decide := true) [mMem, mInc, gi_mPut, mNat_sl, zh73, zh78]; rfl)⟩
    · refine V_iload C dX8_memoryStep_81 1 rfl ?_
      refine V_ifz_ne (tgt := 96) C dX8_memoryStep_83 (by decide) (fun zh83 => ?_) (fun zh83 => ?_)
      · refine V_iload C dX8_memoryStep_96 0 rfl ?_
        refine V_ifz_ne (tgt := 115) C dX8_memoryStep_98 (by decide) (fun zh98 => ?_) (fun zh98 => ?_)
        · first | exact absurd zh98 zh78 | exact absurd zh78 zh98 | exact absurd (Int32.not_lt.mp zh98) zh78 | exact absurd (Int32.not_le.mp zh98) zh78 | exact absurd zh98 (Int32.not_lt.mpr zh78) | exact absurd zh98 (Int32.not_le.mpr zh78) | exact absurd (Int32.not_lt.mp zh78) (Int32.not_le.mpr zh98) | (rw [zh78] at zh98; cases zh98)
        · refine V_iload_n C dX8_memoryStep_101 rfl 6 rfl ?_
          refine V_bipush (v := 10) C dX8_memoryStep_102 (by decide) ?_
          refine V_icmp_ne (tgt := 117) C dX8_memoryStep_104 (by decide) (fun zh104 => ?_) (fun zh104 => ?_)
          · refine V_iload C dX8_memoryStep_117 1 rfl ?_
            refine V_ifz_ne (tgt := 124) C dX8_memoryStep_119 (by decide) (fun zh119 => ?_) (fun zh119 => ?_)
            · refine V_iload C dX8_memoryStep_124 4 rfl ?_
              refine V_ifz_eq (tgt := 158) C dX8_memoryStep_126 (by decide) (fun zh126 => ?_) (fun zh126 => ?_)
              · refine V_aload_n C dX8_memoryStep_158 rfl 5 rfl ?_
                refine V_iload_n C dX8_memoryStep_159 rfl 7 rfl ?_
                refine V_aload_n C dX8_memoryStep_160 rfl 5 rfl ?_
                refine V_get (v := .ref (h 19)) C dX8_memoryStep_161 hi8 0 rfl rfl 18 (by decide) (List.mem_of_getElem? (i := 2) rfl) rfl rfl ?_
                refine V_lload C dX8_memoryStep_164 2 rfl ?_
                refine V_l2i C dX8_memoryStep_166 ?_
                refine V_laldn (v := (gl u 18 (Int64.toInt32 xk).toNatClampNeg)) C dX8_memoryStep_167 10 1 rfl rfl ((Int64.toInt32 xk).toNatClampNeg) rfl (l2i_in (e_xt.symm.trans zh119)) rfl ?_
                suffices zj190 : ∀ xz : Bool, xz = (decide (xo = 12) && gz u 19 (xk.toInt32).toNatClampNeg) → V X 0 0 (mw K h u) 190 [(9, .int (b2i (mNat u xy))), (8, .int (b2i xt)), (6, .long xk), (5, .int xy), (4, .int (b2i xs)), (0, .ref (h 0)), (1, .int xo), (2, .int xa), (3, .int xb)] [.int (b2i xz), .long (gl u 18 (Int64.toInt32 xk).toNatClampNeg), .int xa, .ref (h 0)] by
                  refine V_iload_n C dX8_memoryStep_168 rfl 6 rfl ?_
                  refine V_bipush (v := 12) C dX8_memoryStep_169 (by decide) ?_
                  refine V_icmp_ne (tgt := 189) C dX8_memoryStep_171 (by decide) (fun zh171 => ?_) (fun zh171 => ?_)
                  · refine V_iconst (v := 0) C dX8_memoryStep_189 (by decide) ?_
                    refine V_sub [0, 1, 2, 3, 4, 5, 6, 7, 8] rfl ?_
                    exact zj190 false (by first | rfl | (simp (decide := true) [b2i, gi_si, ga_si, gz_si, gl_si, gb_si, mPl_si, mGet_si, mNat_si, mSlot_si, mBy_si, mThr, zh73, zh78, zh83, zh98, zh104, zh119, zh126, zh171]; done) | (simp (decide := true) [b2i, gi_si, ga_si, gz_si, gl_si, gb_si, mPl_si, mGet_si, mNat_si, mSlot_si, mBy_si, mThr, zh73, zh78, zh83, zh98, zh104, zh119, zh126, zh171]; rfl) | (simp_all (decide := true) [b2i, gi_si, ga_si, gz_si, gl_si, gb_si, mPl_si, mGet_si, mNat_si, mSlot_si, mBy_si, mThr]; done))
                  · exact absurd zh171 (by rw [zh73]; decide)
                intro xz e_xz
                refine V_callvV C dX8_memoryStep_190 0 rfl rfl (c_X8_put l D K h u xa (gl u 18 (Int64.toInt32 xk).toNatClampNeg) xz hpa) gX8_memoryStep_X8_put rfl 3 rfl (by decide +kernel) (by decide) ⟨Nat.le_of_ble_eq_true rfl, Nat.le_of_ble_eq_true rfl⟩ rfl (Nat.le_of_ble_eq_true rfl) (det1 ?_)
                refine V_aload_n C dX8_memoryStep_193 rfl 5 rfl ?_
                refine V_dup C dX8_memoryStep_194 rfl ?_
                refine V_get (v := .int (gi (mPut u xa (gl u 18 (Int64.toInt32 xk).toNatClampNeg) xz) 27)) C dX8_memoryStep_195 hi8 0 rfl rfl 27 (by decide) (List.mem_of_getElem? (i := 4) rfl) rfl rfl ?_
                refine V_iconst (v := 1) C dX8_memoryStep_198 (by decide) ?_
                refine V_iadd C dX8_memoryStep_199 ?_
                refine V_put (ws' := (mw K h (si (mPut u xa (gl u 18 (Int64.toInt32 xk).toNatClampNeg) xz) 27 ((gi (mPut u xa (gl u 18 (Int64.toInt32 xk).toNatClampNeg) xz) 27) + 1)))) C dX8_memoryStep_200 hi8 tyX8_ok nmX8 0 rfl rfl 27 (by decide) (List.mem_of_getElem? (i := 4) rfl) rfl rfl rfl rfl rfl (Nat.le_of_ble_eq_true rfl) (ms_27 K h (mPut u xa (gl u 18 (Int64.toInt32 xk).toNatClampNeg) xz) ((gi (mPut u xa (gl u 18 (Int64.toInt32 xk).toNatClampNeg) xz) 27) + 1)) ?_
                refine V_iconst (v := (-1)) C dX8_memoryStep_203 (by decide) ?_
                exact E (-1) (si (mPut u xa (gl u 18 (Int64.toInt32 xk).toNatClampNeg) xz) 27 ((gi (mPut u xa (gl u 18 (Int64.toInt32 xk).toNatClampNeg) xz) 27) + 1)) _ _ dX8_memoryStep_204 rfl ⟨by rw [zme]; simp (decide := true) [mMem, zh73, zh78, zh83, zh98, zh104, zh119, zh126], by subst e_xz; rw [zme]; simp (decide := true) [mMem, mInc, gi_mPut, zh73, zh78, zh83, zh98, zh104, zh119, zh126]⟩
              · refine V_aload_n C dX8_memoryStep_129 rfl 5 rfl ?_
                refine V_get (v := .ref (h 19)) C dX8_memoryStep_130 hi8 0 rfl rfl 18 (by decide) (List.mem_of_getElem? (i := 2) rfl) rfl rfl ?_
                refine V_lload C dX8_memoryStep_133 2 rfl ?_
                refine V_l2i C dX8_memoryStep_135 ?_
                refine V_aload_n C dX8_memoryStep_136 rfl 5 rfl ?_
                refine V_iload_n C dX8_memoryStep_137 rfl 8 rfl ?_
                refine V_calllV C dX8_memoryStep_138 0 rfl rfl (c_X8_get l D K h u xb hpb) gX8_memoryStep_X8_get rfl 1 rfl (by decide +kernel) (by decide) ⟨Nat.le_of_ble_eq_true rfl, Nat.le_of_ble_eq_true rfl⟩ rfl (Nat.le_of_ble_eq_true rfl) (det2 ?_)
                refine V_lastn (ws' := (mw K h (sl u 18 ((Int64.toInt32 xk).toNatClampNeg) (mGet u xb)))) C dX8_memoryStep_141 10 1 rfl rfl ((Int64.toInt32 xk).toNatClampNeg) rfl (l2i_in (e_xt.symm.trans zh119)) (ms_18 K h u ((Int64.toInt32 xk).toNatClampNeg) (mGet u xb)) ?_
                refine V_aload_n C dX8_memoryStep_142 rfl 5 rfl ?_
                refine V_get (v := .ref (h 20)) C dX8_memoryStep_143 hi8 0 rfl rfl 19 (by decide) (List.mem_of_getElem? (i := 3) rfl) rfl rfl ?_
                refine V_lload C dX8_memoryStep_146 2 rfl ?_
                refine V_l2i C dX8_memoryStep_148 ?_
                refine V_aload_n C dX8_memoryStep_149 rfl 5 rfl ?_
                refine V_iload_n C dX8_memoryStep_150 rfl 8 rfl ?_
                refine V_calliV C dX8_memoryStep_151 0 rfl rfl (c_X8_isNat l D K h (sl u 18 ((Int64.toInt32 xk).toNatClampNeg) (mGet u xb)) xb hpb) gX8_memoryStep_X8_isNat rfl 1 rfl (by decide +kernel) (by decide) ⟨Nat.le_of_ble_eq_true rfl, Nat.le_of_ble_eq_true rfl⟩ rfl (Nat.le_of_ble_eq_true rfl) (det2 ?_)
                refine V_zastn (ws' := (mw K h (sz (sl u 18 ((Int64.toInt32 xk).toNatClampNeg) (mGet u xb)) 19 ((Int64.toInt32 xk).toNatClampNeg) (mNat (sl u 18 ((Int64.toInt32 xk).toNatClampNeg) (mGet u xb)) xb)))) C dX8_memoryStep_154 11 2 rfl rfl ((Int64.toInt32 xk).toNatClampNeg) rfl (l2i_in (e_xt.symm.trans zh119)) (ms_19 K h (sl u 18 ((Int64.toInt32 xk).toNatClampNeg) (mGet u xb)) ((Int64.toInt32 xk).toNatClampNeg) (mNat (sl u 18 ((Int64.toInt32 xk).toNatClampNeg) (mGet u xb)) xb)) ?_
                refine V_goto (tgt := 193) C dX8_memoryStep_155 (by decide) ?_
                refine V_aload_n C dX8_memoryStep_193 rfl 5 rfl ?_
                refine V_dup C dX8_memoryStep_194 rfl ?_
                refine V_get (v := .int (gi u 27)) C dX8_memoryStep_195 hi8 0 rfl rfl 27 (by decide) (List.mem_of_getElem? (i := 4) rfl) rfl rfl ?_
                refine V_iconst (v := 1) C dX8_memoryStep_198 (by decide) ?_
                refine V_iadd C dX8_memoryStep_199 ?_
                refine V_put (ws' := (mw K h (si (sz (sl u 18 ((Int64.toInt32 xk).toNatClampNeg) (mGet u xb)) 19 ((Int64.toInt32 xk).toNatClampNeg) (mNat (sl u 18 ((Int64.toInt32 xk).toNatClampNeg) (mGet u xb)) xb)) 27 ((gi u 27) + 1)))) C dX8_memoryStep_200 hi8 tyX8_ok nmX8 0 rfl rfl 27 (by decide) (List.mem_of_getElem? (i := 4) rfl) rfl rfl rfl rfl rfl (Nat.le_of_ble_eq_true rfl) (ms_27 K h (sz (sl u 18 ((Int64.toInt32 xk).toNatClampNeg) (mGet u xb)) 19 ((Int64.toInt32 xk).toNatClampNeg) (mNat (sl u 18 ((Int64.toInt32 xk).toNatClampNeg) (mGet u xb)) xb)) ((gi u 27) + 1)) ?_
                refine V_iconst (v := (-1)) C dX8_memoryStep_203 (by decide) ?_
                exact E (-1) (si (sz (sl u 18 ((Int64.toInt32 xk).toNatClampNeg) (mGet u xb)) 19 ((Int64.toInt32 xk).toNatClampNeg) (mNat (sl u 18 ((Int64.toInt32 xk).toNatClampNeg) (mGet u xb)) xb)) 27 ((gi u 27) + 1)) _ _ dX8_memoryStep_204 rfl ⟨by rw [zme]; simp (decide := true) [mMem, zh73, zh78, zh83, zh98, zh104, zh119, zh126], by rw [zme]; first | (simp (decide := true) [mMem, mInc, gi_mPut, mNat_sl, zh73, zh78, zh83, zh98, zh104, zh119, zh126]; done) | (simp (decide := true) [mMem, mInc, gi_mPut, mNat_sl, zh73, zh78, zh83, zh98, zh104, zh119, zh126]; rfl)⟩
            · first | exact absurd zh119 zh83 | exact absurd zh83 zh119 | exact absurd (Int32.not_lt.mp zh119) zh83 | exact absurd (Int32.not_le.mp zh119) zh83 | exact absurd zh119 (Int32.not_lt.mpr zh83) | exact absurd zh119 (Int32.not_le.mpr zh83) | exact absurd (Int32.not_lt.mp zh83) (Int32.not_le.mpr zh119) | (rw [zh83] at zh119; cases zh119)
          · exact absurd zh104 (by rw [zh73]; decide)
      · refine V_aload_n C dX8_memoryStep_86 rfl 5 rfl ?_
        refine V_iload_n C dX8_memoryStep_87 rfl 7 rfl ?_
        refine V_lconst (v := 0) C dX8_memoryStep_88 (by decide) ?_
        refine V_iconst (v := 1) C dX8_memoryStep_89 (by decide) ?_
        refine V_callvV C dX8_memoryStep_90 0 rfl rfl (c_X8_put l D K h u xa 0 true hpa) gX8_memoryStep_X8_put rfl 3 rfl (by decide +kernel) (by decide) ⟨Nat.le_of_ble_eq_true rfl, Nat.le_of_ble_eq_true rfl⟩ rfl (Nat.le_of_ble_eq_true rfl) (det1 ?_)
        refine V_goto (tgt := 193) C dX8_memoryStep_93 (by decide) ?_
        refine V_aload_n C dX8_memoryStep_193 rfl 5 rfl ?_
        refine V_dup C dX8_memoryStep_194 rfl ?_
        refine V_get (v := .int (gi (mPut u xa 0 true) 27)) C dX8_memoryStep_195 hi8 0 rfl rfl 27 (by decide) (List.mem_of_getElem? (i := 4) rfl) rfl rfl ?_
        refine V_iconst (v := 1) C dX8_memoryStep_198 (by decide) ?_
        refine V_iadd C dX8_memoryStep_199 ?_
        refine V_put (ws' := (mw K h (si (mPut u xa 0 true) 27 ((gi (mPut u xa 0 true) 27) + 1)))) C dX8_memoryStep_200 hi8 tyX8_ok nmX8 0 rfl rfl 27 (by decide) (List.mem_of_getElem? (i := 4) rfl) rfl rfl rfl rfl rfl (Nat.le_of_ble_eq_true rfl) (ms_27 K h (mPut u xa 0 true) ((gi (mPut u xa 0 true) 27) + 1)) ?_
        refine V_iconst (v := (-1)) C dX8_memoryStep_203 (by decide) ?_
        exact E (-1) (si (mPut u xa 0 true) 27 ((gi (mPut u xa 0 true) 27) + 1)) _ _ dX8_memoryStep_204 rfl ⟨by rw [zme]; simp (decide := true) [mMem, zh73, zh78, zh83], by rw [zme]; first | (simp (decide := true) [mMem, mInc, gi_mPut, mNat_sl, zh73, zh78, zh83]; done) | (simp (decide := true) [mMem, mInc, gi_mPut, mNat_sl, zh73, zh78, zh83]; rfl)⟩

theorem ix6 {x : Int32} (c : Nat) (hx : x = nI c) (k : Int32) (k' : Nat) (hk : k = nI k') (h : 6 * c + k' < 252) : (6 * x + k).toNatClampNeg = 6 * c + k' ∧ vp_in (6 * x + k) 252 := by
  have e : (6 * x + k) = nI (6 * c + k') := by
    rw [hx, hk, show (6 : Int32) = nI 6 from rfl, pk_mul, nI_add]
  rw [e]
  exact ⟨nI_clamp (by omega), vp_in_nI h (by omega)⟩
/-- the frames behind a CALL: the current one is kept in the place c + 1 -/
def mCallU (u : MS) (c : Nat) (t : Int32) : MS := si (sa (sa (sa (sa (sa (sa (sa (sa (sa (sa (sa (si u 26 (gi u 26 + 1)) 25 (6 * (c + 1) + 0) (ga u 25 0)) 25 (6 * (c + 1) + 1) (ga u 25 1)) 25 (6 * (c + 1) + 2) (ga u 25 2)) 25 (6 * (c + 1) + 3) (ga u 25 3)) 25 (6 * (c + 1) + 4) (ga u 25 4)) 25 (6 * (c + 1) + 5) (gi u 27 + 1)) 25 0 (ga u 25 0 + ga u 25 1 - ga u 25 2)) 25 1 (ga u 25 2)) 25 2 0) 25 3 0) 25 4 0) 27 t
set_option maxHeartbeats 4000000 in
set_option maxRecDepth 100000 in
theorem c_X8_call (l : Launch) (D : va_G) (K : Nat → ClassId) (h : Nat → Nat) (u : MS) (xt : Int32) (c : Nat) (hc : gi u 26 = nI c) (hc2 : c ≤ 40) : vMi l D vwCl (tys0 K) yX8_call wsX8_call ({ frames := 0, cells := 0, slots := 0, locals := 0 } : Room) [.ref (h 0), .int xt] (mw K h u) (mw K h) (fun r9 u9 => r9 = (if gi u 26 = 40 then 4 else -1) ∧ u9 = (if gi u 26 = 40 then u else mCallU u c xt)) := by
  refine vMi_of (cc := cX8_call) (nL := 3) (rt := .int) (by decide) rfl (Nat.le_of_ble_eq_true rfl) ?_
  intro X C E
  show V X 0 0 (mw K h u) 0 [(0, .ref (h 0)), (1, .int xt)] []
  have hi8 : ∀ w ∈ wsX80, w ∈ wsX8_call := fun _ h => List.mem_cons_of_mem _ (List.mem_append_right _ h)
  refine V_aload_n C dX8_call_0 rfl 0 rfl ?_
  refine V_get (v := .int (gi u 26)) C dX8_call_1 hi8 0 rfl rfl 26 (by decide) (List.mem_of_getElem? (i := 1) rfl) rfl rfl ?_
  refine V_bipush (v := 40) C dX8_call_4 (by decide) ?_
  refine V_icmp_ne (tgt := 11) C dX8_call_6 (by decide) (fun zh6 => ?_) (fun zh6 => ?_)
  · have zc : c + 1 ≤ 40 := (Nat.lt_or_ge c 40).elim (fun q => q) (fun q => absurd (by rw [hc, show c = 40 by omega]; rfl) zh6)
    refine V_aload_n C dX8_call_11 rfl 0 rfl ?_
    refine V_dup C dX8_call_12 rfl ?_
    refine V_get (v := .int (gi u 26)) C dX8_call_13 hi8 0 rfl rfl 26 (by decide) (List.mem_of_getElem? (i := 1) rfl) rfl rfl ?_
    refine V_iconst (v := 1) C dX8_call_16 (by decide) ?_
    refine V_iadd C dX8_call_17 ?_
    refine V_put (ws' := (mw K h (si u 26 ((gi u 26) + 1)))) C dX8_call_18 hi8 tyX8_ok nmX8 0 rfl rfl 26 (by decide) (List.mem_of_getElem? (i := 1) rfl) rfl rfl rfl rfl rfl (Nat.le_of_ble_eq_true rfl) (ms_26 K h u ((gi u 26) + 1)) ?_
    refine V_iconst (v := 0) C dX8_call_21 (by decide) ?_
    refine V_istore_n (lv' := [(2, .int 0), (0, .ref (h 0)), (1, .int xt)]) C dX8_call_22 rfl (by decide) rfl ?_
    refine V_iload_n C dX8_call_23 rfl 0 rfl ?_
    refine V_iconst (v := 5) C dX8_call_24 (by decide) ?_
    refine V_icmp_ge (tgt := 54) C dX8_call_25 (by decide) (fun zh25 => ?_) (fun zh25 => ?_)
    · exact absurd zh25 (by decide)
    · refine V_aload_n C dX8_call_28 rfl 1 rfl ?_
      refine V_get (v := .ref (h 26)) C dX8_call_29 hi8 0 rfl rfl 25 (by decide) (List.mem_of_getElem? (i := 2) rfl) rfl rfl ?_
      refine V_bipush (v := 6) C dX8_call_32 (by decide) ?_
      refine V_aload_n C dX8_call_34 rfl 1 rfl ?_
      refine V_get (v := .int ((gi u 26) + 1)) C dX8_call_35 hi8 0 rfl rfl 26 (by decide) (List.mem_of_getElem? (i := 1) rfl) rfl rfl ?_
      refine V_imul C dX8_call_38 ?_
      refine V_iload_n C dX8_call_39 rfl 0 rfl ?_
      refine V_iadd C dX8_call_40 ?_
      refine V_aload_n C dX8_call_41 rfl 1 rfl ?_
      refine V_get (v := .ref (h 26)) C dX8_call_42 hi8 0 rfl rfl 25 (by decide) (List.mem_of_getElem? (i := 2) rfl) rfl rfl ?_
      refine V_iload_n C dX8_call_45 rfl 0 rfl ?_
      refine V_ialdn (v := (ga u 25 0)) C dX8_call_46 13 0 rfl rfl (0) (by decide) (by unfold vp_in; decide) (by first | rfl | (simp (disch := omega) only [ga_sa_ne, ga_sa_eq, ga_si, ga_sb, ga_sz, ga_sl])) ?_
      refine V_iastn (ws' := (mw K h (sa (si u 26 ((gi u 26) + 1)) 25 (6 * (c + 1) + 0) (ga u 25 0)))) C dX8_call_47 13 0 rfl rfl (6 * (c + 1) + 0) (ix6 (c + 1) (by rw [hc]; exact nI_1 c) 0 0 rfl (by omega)).1 ((ix6 (c + 1) (by rw [hc]; exact nI_1 c) 0 0 rfl (by omega)).2) (ms_25 K h (si u 26 ((gi u 26) + 1)) (6 * (c + 1) + 0) (ga u 25 0)) ?_
      refine V_iinc (lv' := [(2, .int 1), (0, .ref (h 0)), (1, .int xt)]) C dX8_call_48 (j := 0) rfl (by decide) (by decide) rfl ?_
      refine V_goto (tgt := 23) C dX8_call_51 (by decide) ?_
      refine V_iload_n C dX8_call_23 rfl 0 rfl ?_
      refine V_iconst (v := 5) C dX8_call_24 (by decide) ?_
      refine V_icmp_ge (tgt := 54) C dX8_call_25 (by decide) (fun zh25 => ?_) (fun zh25 => ?_)
      · exact absurd zh25 (by decide)
      · refine V_aload_n C dX8_call_28 rfl 1 rfl ?_
        refine V_get (v := .ref (h 26)) C dX8_call_29 hi8 0 rfl rfl 25 (by decide) (List.mem_of_getElem? (i := 2) rfl) rfl rfl ?_
        refine V_bipush (v := 6) C dX8_call_32 (by decide) ?_
        refine V_aload_n C dX8_call_34 rfl 1 rfl ?_
        refine V_get (v := .int ((gi u 26) + 1)) C dX8_call_35 hi8 0 rfl rfl 26 (by decide) (List.mem_of_getElem? (i := 1) rfl) rfl rfl ?_
        refine V_imul C dX8_call_38 ?_
        refine V_iload_n C dX8_call_39 rfl 0 rfl ?_
        refine V_iadd C dX8_call_40 ?_
        refine V_aload_n C dX8_call_41 rfl 1 rfl ?_
        refine V_get (v := .ref (h 26)) C dX8_call_42 hi8 0 rfl rfl 25 (by decide) (List.mem_of_getElem? (i := 2) rfl) rfl rfl ?_
        refine V_iload_n C dX8_call_45 rfl 0 rfl ?_
        refine V_ialdn (v := (ga u 25 1)) C dX8_call_46 13 0 rfl rfl (1) (by decide) (by unfold vp_in; decide) (by first | rfl | (simp (disch := omega) only [ga_sa_ne, ga_sa_eq, ga_si, ga_sb, ga_sz, ga_sl])) ?_
        refine V_iastn (ws' := (mw K h (sa (sa (si u 26 ((gi u 26) + 1)) 25 (6 * (c + 1) + 0) (ga u 25 0)) 25 (6 * (c + 1) + 1) (ga u 25 1)))) C dX8_call_47 13 0 rfl rfl (6 * (c + 1) + 1) (ix6 (c + 1) (by rw [hc]; exact nI_1 c) 1 1 rfl (by omega)).1 ((ix6 (c + 1) (by rw [hc]; exact nI_1 c) 1 1 rfl (by omega)).2) (ms_25 K h (sa (si u 26 ((gi u 26) + 1)) 25 (6 * (c + 1) + 0) (ga u 25 0)) (6 * (c + 1) + 1) (ga u 25 1)) ?_
        refine V_iinc (lv' := [(2, .int 2), (0, .ref (h 0)), (1, .int xt)]) C dX8_call_48 (j := 0) rfl (by decide) (by decide) rfl ?_
        refine V_goto (tgt := 23) C dX8_call_51 (by decide) ?_
        refine V_iload_n C dX8_call_23 rfl 0 rfl ?_
        refine V_iconst (v := 5) C dX8_call_24 (by decide) ?_
        refine V_icmp_ge (tgt := 54) C dX8_call_25 (by decide) (fun zh25 => ?_) (fun zh25 => ?_)
        · exact absurd zh25 (by decide)
        · refine V_aload_n C dX8_call_28 rfl 1 rfl ?_
          refine V_get (v := .ref (h 26)) C dX8_call_29 hi8 0 rfl rfl 25 (by decide) (List.mem_of_getElem? (i := 2) rfl) rfl rfl ?_
          refine V_bipush (v := 6) C dX8_call_32 (by decide) ?_
          refine V_aload_n C dX8_call_34 rfl 1 rfl ?_
          refine V_get (v := .int ((gi u 26) + 1)) C dX8_call_35 hi8 0 rfl rfl 26 (by decide) (List.mem_of_getElem? (i := 1) rfl) rfl rfl ?_
          refine V_imul C dX8_call_38 ?_
          refine V_iload_n C dX8_call_39 rfl 0 rfl ?_
          refine V_iadd C dX8_call_40 ?_
          refine V_aload_n C dX8_call_41 rfl 1 rfl ?_
          refine V_get (v := .ref (h 26)) C dX8_call_42 hi8 0 rfl rfl 25 (by decide) (List.mem_of_getElem? (i := 2) rfl) rfl rfl ?_
          refine V_iload_n C dX8_call_45 rfl 0 rfl ?_
          refine V_ialdn (v := (ga u 25 2)) C dX8_call_46 13 0 rfl rfl (2) (by decide) (by unfold vp_in; decide) (by first | rfl | (simp (disch := omega) only [ga_sa_ne, ga_sa_eq, ga_si, ga_sb, ga_sz, ga_sl])) ?_
          refine V_iastn (ws' := (mw K h (sa (sa (sa (si u 26 ((gi u 26) + 1)) 25 (6 * (c + 1) + 0) (ga u 25 0)) 25 (6 * (c + 1) + 1) (ga u 25 1)) 25 (6 * (c + 1) + 2) (ga u 25 2)))) C dX8_call_47 13 0 rfl rfl (6 * (c + 1) + 2) (ix6 (c + 1) (by rw [hc]; exact nI_1 c) 2 2 rfl (by omega)).1 ((ix6 (c + 1) (by rw [hc]; exact nI_1 c) 2 2 rfl (by omega)).2) (ms_25 K h (sa (sa (si u 26 ((gi u 26) + 1)) 25 (6 * (c + 1) + 0) (ga u 25 0)) 25 (6 * (c + 1) + 1) (ga u 25 1)) (6 * (c + 1) + 2) (ga u 25 2)) ?_
          refine V_iinc (lv' := [(2, .int 3), (0, .ref (h 0)), (1, .int xt)]) C dX8_call_48 (j := 0) rfl (by decide) (by decide) rfl ?_
          refine V_goto (tgt := 23) C dX8_call_51 (by decide) ?_
          refine V_iload_n C dX8_call_23 rfl 0 rfl ?_
          refine V_iconst (v := 5) C dX8_call_24 (by decide) ?_
          refine V_icmp_ge (tgt := 54) C dX8_call_25 (by decide) (fun zh25 => ?_) (fun zh25 => ?_)
          · exact absurd zh25 (by decide)
          · refine V_aload_n C dX8_call_28 rfl 1 rfl ?_
            refine V_get (v := .ref (h 26)) C dX8_call_29 hi8 0 rfl rfl 25 (by decide) (List.mem_of_getElem? (i := 2) rfl) rfl rfl ?_
            refine V_bipush (v := 6) C dX8_call_32 (by decide) ?_
            refine V_aload_n C dX8_call_34 rfl 1 rfl ?_
            refine V_get (v := .int ((gi u 26) + 1)) C dX8_call_35 hi8 0 rfl rfl 26 (by decide) (List.mem_of_getElem? (i := 1) rfl) rfl rfl ?_
            refine V_imul C dX8_call_38 ?_
            refine V_iload_n C dX8_call_39 rfl 0 rfl ?_
            refine V_iadd C dX8_call_40 ?_
            refine V_aload_n C dX8_call_41 rfl 1 rfl ?_
            refine V_get (v := .ref (h 26)) C dX8_call_42 hi8 0 rfl rfl 25 (by decide) (List.mem_of_getElem? (i := 2) rfl) rfl rfl ?_
            refine V_iload_n C dX8_call_45 rfl 0 rfl ?_
            refine V_ialdn (v := (ga u 25 3)) C dX8_call_46 13 0 rfl rfl (3) (by decide) (by unfold vp_in; decide) (by first | rfl | (simp (disch := omega) only [ga_sa_ne, ga_sa_eq, ga_si, ga_sb, ga_sz, ga_sl])) ?_
            refine V_iastn (ws' := (mw K h (sa (sa (sa (sa (si u 26 ((gi u 26) + 1)) 25 (6 * (c + 1) + 0) (ga u 25 0)) 25 (6 * (c + 1) + 1) (ga u 25 1)) 25 (6 * (c + 1) + 2) (ga u 25 2)) 25 (6 * (c + 1) + 3) (ga u 25 3)))) C dX8_call_47 13 0 rfl rfl (6 * (c + 1) + 3) (ix6 (c + 1) (by rw [hc]; exact nI_1 c) 3 3 rfl (by omega)).1 ((ix6 (c + 1) (by rw [hc]; exact nI_1 c) 3 3 rfl (by omega)).2) (ms_25 K h (sa (sa (sa (si u 26 ((gi u 26) + 1)) 25 (6 * (c + 1) + 0) (ga u 25 0)) 25 (6 * (c + 1) + 1) (ga u 25 1)) 25 (6 * (c + 1) + 2) (ga u 25 2)) (6 * (c + 1) + 3) (ga u 25 3)) ?_
            refine V_iinc (lv' := [(2, .int 4), (0, .ref (h 0)), (1, .int xt)]) C dX8_call_48 (j := 0) rfl (by decide) (by decide) rfl ?_
            refine V_goto (tgt := 23) C dX8_call_51 (by decide) ?_
            refine V_iload_n C dX8_call_23 rfl 0 rfl ?_
            refine V_iconst (v := 5) C dX8_call_24 (by decide) ?_
            refine V_icmp_ge (tgt := 54) C dX8_call_25 (by decide) (fun zh25 => ?_) (fun zh25 => ?_)
            · exact absurd zh25 (by decide)
            · refine V_aload_n C dX8_call_28 rfl 1 rfl ?_
              refine V_get (v := .ref (h 26)) C dX8_call_29 hi8 0 rfl rfl 25 (by decide) (List.mem_of_getElem? (i := 2) rfl) rfl rfl ?_
              refine V_bipush (v := 6) C dX8_call_32 (by decide) ?_
              refine V_aload_n C dX8_call_34 rfl 1 rfl ?_
              refine V_get (v := .int ((gi u 26) + 1)) C dX8_call_35 hi8 0 rfl rfl 26 (by decide) (List.mem_of_getElem? (i := 1) rfl) rfl rfl ?_
              refine V_imul C dX8_call_38 ?_
              refine V_iload_n C dX8_call_39 rfl 0 rfl ?_
              refine V_iadd C dX8_call_40 ?_
              refine V_aload_n C dX8_call_41 rfl 1 rfl ?_
              refine V_get (v := .ref (h 26)) C dX8_call_42 hi8 0 rfl rfl 25 (by decide) (List.mem_of_getElem? (i := 2) rfl) rfl rfl ?_
              refine V_iload_n C dX8_call_45 rfl 0 rfl ?_
              refine V_ialdn (v := (ga u 25 4)) C dX8_call_46 13 0 rfl rfl (4) (by decide) (by unfold vp_in; decide) (by first | rfl | (simp (disch := omega) only [ga_sa_ne, ga_sa_eq, ga_si, ga_sb, ga_sz, ga_sl])) ?_
              refine V_iastn (ws' := (mw K h (sa (sa (sa (sa (sa (si u 26 ((gi u 26) + 1)) 25 (6 * (c + 1) + 0) (ga u 25 0)) 25 (6 * (c + 1) + 1) (ga u 25 1)) 25 (6 * (c + 1) + 2) (ga u 25 2)) 25 (6 * (c + 1) + 3) (ga u 25 3)) 25 (6 * (c + 1) + 4) (ga u 25 4)))) C dX8_call_47 13 0 rfl rfl (6 * (c + 1) + 4) (ix6 (c + 1) (by rw [hc]; exact nI_1 c) 4 4 rfl (by omega)).1 ((ix6 (c + 1) (by rw [hc]; exact nI_1 c) 4 4 rfl (by omega)).2) (ms_25 K h (sa (sa (sa (sa (si u 26 ((gi u 26) + 1)) 25 (6 * (c + 1) + 0) (ga u 25 0)) 25 (6 * (c + 1) + 1) (ga u 25 1)) 25 (6 * (c + 1) + 2) (ga u 25 2)) 25 (6 * (c + 1) + 3) (ga u 25 3)) (6 * (c + 1) + 4) (ga u 25 4)) ?_
              refine V_iinc (lv' := [(2, .int 5), (0, .ref (h 0)), (1, .int xt)]) C dX8_call_48 (j := 0) rfl (by decide) (by decide) rfl ?_
              refine V_goto (tgt := 23) C dX8_call_51 (by decide) ?_
              refine V_iload_n C dX8_call_23 rfl 0 rfl ?_
              refine V_iconst (v := 5) C dX8_call_24 (by decide) ?_
              refine V_icmp_ge (tgt := 54) C dX8_call_25 (by decide) (fun zh25 => ?_) (fun zh25 => ?_)
              · refine V_aload_n C dX8_call_54 rfl 1 rfl ?_
                refine V_get (v := .ref (h 26)) C dX8_call_55 hi8 0 rfl rfl 25 (by decide) (List.mem_of_getElem? (i := 2) rfl) rfl rfl ?_
                refine V_bipush (v := 6) C dX8_call_58 (by decide) ?_
                refine V_aload_n C dX8_call_60 rfl 1 rfl ?_
                refine V_get (v := .int ((gi u 26) + 1)) C dX8_call_61 hi8 0 rfl rfl 26 (by decide) (List.mem_of_getElem? (i := 1) rfl) rfl rfl ?_
                refine V_imul C dX8_call_64 ?_
                refine V_iconst (v := 5) C dX8_call_65 (by decide) ?_
                refine V_iadd C dX8_call_66 ?_
                refine V_aload_n C dX8_call_67 rfl 1 rfl ?_
                refine V_get (v := .int (gi u 27)) C dX8_call_68 hi8 0 rfl rfl 27 (by decide) (List.mem_of_getElem? (i := 3) rfl) rfl rfl ?_
                refine V_iconst (v := 1) C dX8_call_71 (by decide) ?_
                refine V_iadd C dX8_call_72 ?_
                refine V_iastn (ws' := (mw K h (sa (sa (sa (sa (sa (sa (si u 26 ((gi u 26) + 1)) 25 (6 * (c + 1) + 0) (ga u 25 0)) 25 (6 * (c + 1) + 1) (ga u 25 1)) 25 (6 * (c + 1) + 2) (ga u 25 2)) 25 (6 * (c + 1) + 3) (ga u 25 3)) 25 (6 * (c + 1) + 4) (ga u 25 4)) 25 (6 * (c + 1) + 5) ((gi u 27) + 1)))) C dX8_call_73 13 0 rfl rfl (6 * (c + 1) + 5) (ix6 (c + 1) (by rw [hc]; exact nI_1 c) 5 5 rfl (by omega)).1 ((ix6 (c + 1) (by rw [hc]; exact nI_1 c) 5 5 rfl (by omega)).2) (ms_25 K h (sa (sa (sa (sa (sa (si u 26 ((gi u 26) + 1)) 25 (6 * (c + 1) + 0) (ga u 25 0)) 25 (6 * (c + 1) + 1) (ga u 25 1)) 25 (6 * (c + 1) + 2) (ga u 25 2)) 25 (6 * (c + 1) + 3) (ga u 25 3)) 25 (6 * (c + 1) + 4) (ga u 25 4)) (6 * (c + 1) + 5) ((gi u 27) + 1)) ?_
                refine V_aload_n C dX8_call_74 rfl 1 rfl ?_
                refine V_get (v := .ref (h 26)) C dX8_call_75 hi8 0 rfl rfl 25 (by decide) (List.mem_of_getElem? (i := 2) rfl) rfl rfl ?_
                refine V_iconst (v := 0) C dX8_call_78 (by decide) ?_
                refine V_aload_n C dX8_call_79 rfl 1 rfl ?_
                refine V_get (v := .ref (h 26)) C dX8_call_80 hi8 0 rfl rfl 25 (by decide) (List.mem_of_getElem? (i := 2) rfl) rfl rfl ?_
                refine V_iconst (v := 0) C dX8_call_83 (by decide) ?_
                refine V_ialdn (v := (ga u 25 0)) C dX8_call_84 13 0 rfl rfl (0) (by decide) (by unfold vp_in; decide) (by first | rfl | (simp (disch := omega) only [ga_sa_ne, ga_sa_eq, ga_si, ga_sb, ga_sz, ga_sl])) ?_
                refine V_aload_n C dX8_call_85 rfl 1 rfl ?_
                refine V_get (v := .ref (h 26)) C dX8_call_86 hi8 0 rfl rfl 25 (by decide) (List.mem_of_getElem? (i := 2) rfl) rfl rfl ?_
                refine V_iconst (v := 1) C dX8_call_89 (by decide) ?_
                refine V_ialdn (v := (ga u 25 1)) C dX8_call_90 13 0 rfl rfl (1) (by decide) (by unfold vp_in; decide) (by first | rfl | (simp (disch := omega) only [ga_sa_ne, ga_sa_eq, ga_si, ga_sb, ga_sz, ga_sl])) ?_
                refine V_iadd C dX8_call_91 ?_
                refine V_aload_n C dX8_call_92 rfl 1 rfl ?_
                refine V_get (v := .ref (h 26)) C dX8_call_93 hi8 0 rfl rfl 25 (by decide) (List.mem_of_getElem? (i := 2) rfl) rfl rfl ?_
                refine V_iconst (v := 2) C dX8_call_96 (by decide) ?_
                refine V_ialdn (v := (ga u 25 2)) C dX8_call_97 13 0 rfl rfl (2) (by decide) (by unfold vp_in; decide) (by first | rfl | (simp (disch := omega) only [ga_sa_ne, ga_sa_eq, ga_si, ga_sb, ga_sz, ga_sl])) ?_
                refine V_isub C dX8_call_98 ?_
                refine V_iastn (ws' := (mw K h (sa (sa (sa (sa (sa (sa (sa (si u 26 ((gi u 26) + 1)) 25 (6 * (c + 1) + 0) (ga u 25 0)) 25 (6 * (c + 1) + 1) (ga u 25 1)) 25 (6 * (c + 1) + 2) (ga u 25 2)) 25 (6 * (c + 1) + 3) (ga u 25 3)) 25 (6 * (c + 1) + 4) (ga u 25 4)) 25 (6 * (c + 1) + 5) ((gi u 27) + 1)) 25 0 (((ga u 25 0) + (ga u 25 1)) - (ga u 25 2))))) C dX8_call_99 13 0 rfl rfl (0) (by decide) (by unfold vp_in; decide) (ms_25 K h (sa (sa (sa (sa (sa (sa (si u 26 ((gi u 26) + 1)) 25 (6 * (c + 1) + 0) (ga u 25 0)) 25 (6 * (c + 1) + 1) (ga u 25 1)) 25 (6 * (c + 1) + 2) (ga u 25 2)) 25 (6 * (c + 1) + 3) (ga u 25 3)) 25 (6 * (c + 1) + 4) (ga u 25 4)) 25 (6 * (c + 1) + 5) ((gi u 27) + 1)) 0 (((ga u 25 0) + (ga u 25 1)) - (ga u 25 2))) ?_
                refine V_aload_n C dX8_call_100 rfl 1 rfl ?_
                refine V_get (v := .ref (h 26)) C dX8_call_101 hi8 0 rfl rfl 25 (by decide) (List.mem_of_getElem? (i := 2) rfl) rfl rfl ?_
                refine V_iconst (v := 1) C dX8_call_104 (by decide) ?_
                refine V_aload_n C dX8_call_105 rfl 1 rfl ?_
                refine V_get (v := .ref (h 26)) C dX8_call_106 hi8 0 rfl rfl 25 (by decide) (List.mem_of_getElem? (i := 2) rfl) rfl rfl ?_
                refine V_iconst (v := 2) C dX8_call_109 (by decide) ?_
                refine V_ialdn (v := (ga u 25 2)) C dX8_call_110 13 0 rfl rfl (2) (by decide) (by unfold vp_in; decide) (by first | rfl | (simp (disch := omega) only [ga_sa_ne, ga_sa_eq, ga_si, ga_sb, ga_sz, ga_sl])) ?_
                refine V_iastn (ws' := (mw K h (sa (sa (sa (sa (sa (sa (sa (sa (si u 26 ((gi u 26) + 1)) 25 (6 * (c + 1) + 0) (ga u 25 0)) 25 (6 * (c + 1) + 1) (ga u 25 1)) 25 (6 * (c + 1) + 2) (ga u 25 2)) 25 (6 * (c + 1) + 3) (ga u 25 3)) 25 (6 * (c + 1) + 4) (ga u 25 4)) 25 (6 * (c + 1) + 5) ((gi u 27) + 1)) 25 0 (((ga u 25 0) + (ga u 25 1)) - (ga u 25 2))) 25 1 (ga u 25 2)))) C dX8_call_111 13 0 rfl rfl (1) (by decide) (by unfold vp_in; decide) (ms_25 K h (sa (sa (sa (sa (sa (sa (sa (si u 26 ((gi u 26) + 1)) 25 (6 * (c + 1) + 0) (ga u 25 0)) 25 (6 * (c + 1) + 1) (ga u 25 1)) 25 (6 * (c + 1) + 2) (ga u 25 2)) 25 (6 * (c + 1) + 3) (ga u 25 3)) 25 (6 * (c + 1) + 4) (ga u 25 4)) 25 (6 * (c + 1) + 5) ((gi u 27) + 1)) 25 0 (((ga u 25 0) + (ga u 25 1)) - (ga u 25 2))) 1 (ga u 25 2)) ?_
                refine V_iconst (v := 2) C dX8_call_112 (by decide) ?_
                refine V_istore_n (lv' := [(2, .int 2), (0, .ref (h 0)), (1, .int xt)]) C dX8_call_113 rfl (by decide) rfl ?_
                refine V_iload_n C dX8_call_114 rfl 0 rfl ?_
                refine V_iconst (v := 5) C dX8_call_115 (by decide) ?_
                refine V_icmp_ge (tgt := 132) C dX8_call_116 (by decide) (fun zh116 => ?_) (fun zh116 => ?_)
                · exact absurd zh116 (by decide)
                · refine V_aload_n C dX8_call_119 rfl 1 rfl ?_
                  refine V_get (v := .ref (h 26)) C dX8_call_120 hi8 0 rfl rfl 25 (by decide) (List.mem_of_getElem? (i := 2) rfl) rfl rfl ?_
                  refine V_iload_n C dX8_call_123 rfl 0 rfl ?_
                  refine V_iconst (v := 0) C dX8_call_124 (by decide) ?_
                  refine V_iastn (ws' := (mw K h (sa (sa (sa (sa (sa (sa (sa (sa (sa (si u 26 ((gi u 26) + 1)) 25 (6 * (c + 1) + 0) (ga u 25 0)) 25 (6 * (c + 1) + 1) (ga u 25 1)) 25 (6 * (c + 1) + 2) (ga u 25 2)) 25 (6 * (c + 1) + 3) (ga u 25 3)) 25 (6 * (c + 1) + 4) (ga u 25 4)) 25 (6 * (c + 1) + 5) ((gi u 27) + 1)) 25 0 (((ga u 25 0) + (ga u 25 1)) - (ga u 25 2))) 25 1 (ga u 25 2)) 25 2 0))) C dX8_call_125 13 0 rfl rfl (2) (by decide) (by unfold vp_in; decide) (ms_25 K h (sa (sa (sa (sa (sa (sa (sa (sa (si u 26 ((gi u 26) + 1)) 25 (6 * (c + 1) + 0) (ga u 25 0)) 25 (6 * (c + 1) + 1) (ga u 25 1)) 25 (6 * (c + 1) + 2) (ga u 25 2)) 25 (6 * (c + 1) + 3) (ga u 25 3)) 25 (6 * (c + 1) + 4) (ga u 25 4)) 25 (6 * (c + 1) + 5) ((gi u 27) + 1)) 25 0 (((ga u 25 0) + (ga u 25 1)) - (ga u 25 2))) 25 1 (ga u 25 2)) 2 0) ?_
                  refine V_iinc (lv' := [(2, .int 3), (0, .ref (h 0)), (1, .int xt)]) C dX8_call_126 (j := 0) rfl (by decide) (by decide) rfl ?_
                  refine V_goto (tgt := 114) C dX8_call_129 (by decide) ?_
                  refine V_iload_n C dX8_call_114 rfl 0 rfl ?_
                  refine V_iconst (v := 5) C dX8_call_115 (by decide) ?_
                  refine V_icmp_ge (tgt := 132) C dX8_call_116 (by decide) (fun zh116 => ?_) (fun zh116 => ?_)
                  · exact absurd zh116 (by decide)
                  · refine V_aload_n C dX8_call_119 rfl 1 rfl ?_
                    refine V_get (v := .ref (h 26)) C dX8_call_120 hi8 0 rfl rfl 25 (by decide) (List.mem_of_getElem? (i := 2) rfl) rfl rfl ?_
                    refine V_iload_n C dX8_call_123 rfl 0 rfl ?_
                    refine V_iconst (v := 0) C dX8_call_124 (by decide) ?_
                    refine V_iastn (ws' := (mw K h (sa (sa (sa (sa (sa (sa (sa (sa (sa (sa (si u 26 ((gi u 26) + 1)) 25 (6 * (c + 1) + 0) (ga u 25 0)) 25 (6 * (c + 1) + 1) (ga u 25 1)) 25 (6 * (c + 1) + 2) (ga u 25 2)) 25 (6 * (c + 1) + 3) (ga u 25 3)) 25 (6 * (c + 1) + 4) (ga u 25 4)) 25 (6 * (c + 1) + 5) ((gi u 27) + 1)) 25 0 (((ga u 25 0) + (ga u 25 1)) - (ga u 25 2))) 25 1 (ga u 25 2)) 25 2 0) 25 3 0))) C dX8_call_125 13 0 rfl rfl (3) (by decide) (by unfold vp_in; decide) (ms_25 K h (sa (sa (sa (sa (sa (sa (sa (sa (sa (si u 26 ((gi u 26) + 1)) 25 (6 * (c + 1) + 0) (ga u 25 0)) 25 (6 * (c + 1) + 1) (ga u 25 1)) 25 (6 * (c + 1) + 2) (ga u 25 2)) 25 (6 * (c + 1) + 3) (ga u 25 3)) 25 (6 * (c + 1) + 4) (ga u 25 4)) 25 (6 * (c + 1) + 5) ((gi u 27) + 1)) 25 0 (((ga u 25 0) + (ga u 25 1)) - (ga u 25 2))) 25 1 (ga u 25 2)) 25 2 0) 3 0) ?_
                    refine V_iinc (lv' := [(2, .int 4), (0, .ref (h 0)), (1, .int xt)]) C dX8_call_126 (j := 0) rfl (by decide) (by decide) rfl ?_
                    refine V_goto (tgt := 114) C dX8_call_129 (by decide) ?_
                    refine V_iload_n C dX8_call_114 rfl 0 rfl ?_
                    refine V_iconst (v := 5) C dX8_call_115 (by decide) ?_
                    refine V_icmp_ge (tgt := 132) C dX8_call_116 (by decide) (fun zh116 => ?_) (fun zh116 => ?_)
                    · exact absurd zh116 (by decide)
                    · refine V_aload_n C dX8_call_119 rfl 1 rfl ?_
                      refine V_get (v := .ref (h 26)) C dX8_call_120 hi8 0 rfl rfl 25 (by decide) (List.mem_of_getElem? (i := 2) rfl) rfl rfl ?_
                      refine V_iload_n C dX8_call_123 rfl 0 rfl ?_
                      refine V_iconst (v := 0) C dX8_call_124 (by decide) ?_
                      refine V_iastn (ws' := (mw K h (sa (sa (sa (sa (sa (sa (sa (sa (sa (sa (sa (si u 26 ((gi u 26) + 1)) 25 (6 * (c + 1) + 0) (ga u 25 0)) 25 (6 * (c + 1) + 1) (ga u 25 1)) 25 (6 * (c + 1) + 2) (ga u 25 2)) 25 (6 * (c + 1) + 3) (ga u 25 3)) 25 (6 * (c + 1) + 4) (ga u 25 4)) 25 (6 * (c + 1) + 5) ((gi u 27) + 1)) 25 0 (((ga u 25 0) + (ga u 25 1)) - (ga u 25 2))) 25 1 (ga u 25 2)) 25 2 0) 25 3 0) 25 4 0))) C dX8_call_125 13 0 rfl rfl (4) (by decide) (by unfold vp_in; decide) (ms_25 K h (sa (sa (sa (sa (sa (sa (sa (sa (sa (sa (si u 26 ((gi u 26) + 1)) 25 (6 * (c + 1) + 0) (ga u 25 0)) 25 (6 * (c + 1) + 1) (ga u 25 1)) 25 (6 * (c + 1) + 2) (ga u 25 2)) 25 (6 * (c + 1) + 3) (ga u 25 3)) 25 (6 * (c + 1) + 4) (ga u 25 4)) 25 (6 * (c + 1) + 5) ((gi u 27) + 1)) 25 0 (((ga u 25 0) + (ga u 25 1)) - (ga u 25 2))) 25 1 (ga u 25 2)) 25 2 0) 25 3 0) 4 0) ?_
                      refine V_iinc (lv' := [(2, .int 5), (0, .ref (h 0)), (1, .int xt)]) C dX8_call_126 (j := 0) rfl (by decide) (by decide) rfl ?_
                      refine V_goto (tgt := 114) C dX8_call_129 (by decide) ?_
                      refine V_iload_n C dX8_call_114 rfl 0 rfl ?_
                      refine V_iconst (v := 5) C dX8_call_115 (by decide) ?_
                      refine V_icmp_ge (tgt := 132) C dX8_call_116 (by decide) (fun zh116 => ?_) (fun zh116 => ?_)
                      · refine V_aload_n C dX8_call_132 rfl 1 rfl ?_
                        refine V_iload_n C dX8_call_133 rfl 2 rfl ?_
                        refine V_put (ws' := (mw K h (si (sa (sa (sa (sa (sa (sa (sa (sa (sa (sa (sa (si u 26 ((gi u 26) + 1)) 25 (6 * (c + 1) + 0) (ga u 25 0)) 25 (6 * (c + 1) + 1) (ga u 25 1)) 25 (6 * (c + 1) + 2) (ga u 25 2)) 25 (6 * (c + 1) + 3) (ga u 25 3)) 25 (6 * (c + 1) + 4) (ga u 25 4)) 25 (6 * (c + 1) + 5) ((gi u 27) + 1)) 25 0 (((ga u 25 0) + (ga u 25 1)) - (ga u 25 2))) 25 1 (ga u 25 2)) 25 2 0) 25 3 0) 25 4 0) 27 xt))) C dX8_call_134 hi8 tyX8_ok nmX8 0 rfl rfl 27 (by decide) (List.mem_of_getElem? (i := 3) rfl) rfl rfl rfl rfl rfl (Nat.le_of_ble_eq_true rfl) (ms_27 K h (sa (sa (sa (sa (sa (sa (sa (sa (sa (sa (sa (si u 26 ((gi u 26) + 1)) 25 (6 * (c + 1) + 0) (ga u 25 0)) 25 (6 * (c + 1) + 1) (ga u 25 1)) 25 (6 * (c + 1) + 2) (ga u 25 2)) 25 (6 * (c + 1) + 3) (ga u 25 3)) 25 (6 * (c + 1) + 4) (ga u 25 4)) 25 (6 * (c + 1) + 5) ((gi u 27) + 1)) 25 0 (((ga u 25 0) + (ga u 25 1)) - (ga u 25 2))) 25 1 (ga u 25 2)) 25 2 0) 25 3 0) 25 4 0) xt) ?_
                        refine V_iconst (v := (-1)) C dX8_call_137 (by decide) ?_
                        exact E (-1) (si (sa (sa (sa (sa (sa (sa (sa (sa (sa (sa (sa (si u 26 ((gi u 26) + 1)) 25 (6 * (c + 1) + 0) (ga u 25 0)) 25 (6 * (c + 1) + 1) (ga u 25 1)) 25 (6 * (c + 1) + 2) (ga u 25 2)) 25 (6 * (c + 1) + 3) (ga u 25 3)) 25 (6 * (c + 1) + 4) (ga u 25 4)) 25 (6 * (c + 1) + 5) ((gi u 27) + 1)) 25 0 (((ga u 25 0) + (ga u 25 1)) - (ga u 25 2))) 25 1 (ga u 25 2)) 25 2 0) 25 3 0) 25 4 0) 27 xt) _ _ dX8_call_138 rfl ⟨by first | rfl | (simp (decide := true) [b2i, gi_si, ga_si, gz_si, gl_si, gb_si, mPl_si, mGet_si, mNat_si, mSlot_si, mBy_si, mThr, mCallU, zh6]; done) | (simp (decide := true) [b2i, gi_si, ga_si, gz_si, gl_si, gb_si, mPl_si, mGet_si, mNat_si, mSlot_si, mBy_si, mThr, mCallU, zh6]; rfl) | (simp_all (decide := true) [b2i, gi_si, ga_si, gz_si, gl_si, gb_si, mPl_si, mGet_si, mNat_si, mSlot_si, mBy_si, mThr, mCallU]; done), by first | rfl | (simp (decide := true) [b2i, gi_si, ga_si, gz_si, gl_si, gb_si, mPl_si, mGet_si, mNat_si, mSlot_si, mBy_si, mThr, mCallU, zh6]; done) | (simp (decide := true) [b2i, gi_si, ga_si, gz_si, gl_si, gb_si, mPl_si, mGet_si, mNat_si, mSlot_si, mBy_si, mThr, mCallU, zh6]; rfl) | (simp_all (decide := true) [b2i, gi_si, ga_si, gz_si, gl_si, gb_si, mPl_si, mGet_si, mNat_si, mSlot_si, mBy_si, mThr, mCallU]; done)⟩
                      · exact absurd zh116 (by decide)
              · exact absurd zh25 (by decide)
  · refine V_iconst (v := 4) C dX8_call_9 (by decide) ?_
    exact E 4 u _ _ dX8_call_10 rfl ⟨by first | rfl | (simp (decide := true) [b2i, gi_si, ga_si, gz_si, gl_si, gb_si, mPl_si, mGet_si, mNat_si, mSlot_si, mBy_si, mThr, mCallU, zh6]; done) | (simp (decide := true) [b2i, gi_si, ga_si, gz_si, gl_si, gb_si, mPl_si, mGet_si, mNat_si, mSlot_si, mBy_si, mThr, mCallU, zh6]; rfl) | (simp_all (decide := true) [b2i, gi_si, ga_si, gz_si, gl_si, gb_si, mPl_si, mGet_si, mNat_si, mSlot_si, mBy_si, mThr, mCallU]; done), by first | rfl | (simp (decide := true) [b2i, gi_si, ga_si, gz_si, gl_si, gb_si, mPl_si, mGet_si, mNat_si, mSlot_si, mBy_si, mThr, mCallU, zh6]; done) | (simp (decide := true) [b2i, gi_si, ga_si, gz_si, gl_si, gb_si, mPl_si, mGet_si, mNat_si, mSlot_si, mBy_si, mThr, mCallU, zh6]; rfl) | (simp_all (decide := true) [b2i, gi_si, ga_si, gz_si, gl_si, gb_si, mPl_si, mGet_si, mNat_si, mSlot_si, mBy_si, mThr, mCallU]; done)⟩

