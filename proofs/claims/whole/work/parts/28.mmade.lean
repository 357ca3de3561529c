/-- one number of an instruction is as said -/
def mMk (d o n k : Int32) (g : Bool) : Bool :=
  if mTg o k = true then ((if mPr o k = true then ((if mRd o k = true then ((if mWr o k = true then (g && !mOut n 1 31) else g) && !mOut n 0 31) else (if mWr o k = true then (g && !mOut n 1 31) else g)) && !mOut n 1 14) else (if mRd o k = true then ((if mWr o k = true then (g && !mOut n 1 31) else g) && !mOut n 0 31) else (if mWr o k = true then (g && !mOut n 1 31) else g))) && !mOut n 0 (d - 1)) else (if mPr o k = true then ((if mRd o k = true then ((if mWr o k = true then (g && !mOut n 1 31) else g) && !mOut n 0 31) else (if mWr o k = true then (g && !mOut n 1 31) else g)) && !mOut n 1 14) else (if mRd o k = true then ((if mWr o k = true then (g && !mOut n 1 31) else g) && !mOut n 0 31) else (if mWr o k = true then (g && !mOut n 1 31) else g)))
def mMade3 (d o a b c : Int32) : Bool :=
  if o = 18 then !mOut a 0 20 && !mOut b 0 20
  else if o = 17 then !mOut a 0 24 && !mOut b 0 a && decide (c = 0 ∨ c = 8 ∨ c = 16) && decide (c ≤ a)
  else mMk d o c 2 (mMk d o b 1 (mMk d o a 0 true))
def mMade (u : MS) (n : Nat) : Bool := mMade3 (gi u 5) (ga u 1 n) (ga u 3 (3 * n)) (ga u 3 (3 * n + 1)) (ga u 3 (3 * n + 2))
set_option maxHeartbeats 4000000 in
set_option maxRecDepth 100000 in
theorem c_X8_isMade (l : Launch) (D : va_G) (K : Nat → ClassId) (h : Nat → Nat) (u : MS) (n : Nat) (hn2 : n < 40) : vMi l D vwCl (tys0 K) yX8_isMade wsX8_isMade ({ frames := 1, cells := 0, slots := 0, locals := 22 } : Room) [.ref (h 0), .int (nI n)] (mw K h u) (mw K h) (fun r9 u9 => r9 = (b2i (mMade u n)) ∧ u9 = u) := by
  refine vMi_of (cc := cX8_isMade) (nL := 7) (rt := .boolean) (by decide) rfl (Nat.le_of_ble_eq_true rfl) ?_
  intro X C E
  show V X 0 0 (mw K h u) 0 [(0, .ref (h 0)), (1, .int (nI n))] []
  have hi8 : ∀ w ∈ wsX80, w ∈ wsX8_isMade := fun _ h => List.mem_cons_of_mem _ (List.mem_append_right _ h)
  refine V_aload_n C dX8_isMade_0 rfl 0 rfl ?_
  refine V_get (v := .ref (h 2)) C dX8_isMade_1 hi8 0 rfl rfl 1 (by decide) (List.mem_of_getElem? (i := 1) rfl) rfl rfl ?_
  refine V_iload_n C dX8_isMade_4 rfl 1 rfl ?_
  refine V_ialdn (v := (ga u 1 (n))) C dX8_isMade_5 1 0 rfl rfl (n) (nI_clamp (by omega)) (vp_in_nI (by omega) (by omega)) rfl ?_
  refine V_istore_n (lv' := [(2, .int (ga u 1 (n))), (0, .ref (h 0)), (1, .int (nI n))]) C dX8_isMade_6 rfl (by decide) rfl ?_
  refine V_iconst (v := 1) C dX8_isMade_7 (by decide) ?_
  refine V_istore_n (lv' := [(3, .int 1), (2, .int (ga u 1 (n))), (0, .ref (h 0)), (1, .int (nI n))]) C dX8_isMade_8 rfl (by decide) rfl ?_
  refine V_iconst (v := 0) C dX8_isMade_9 (by decide) ?_
  refine V_istore (lv' := [(4, .int 0), (3, .int 1), (2, .int (ga u 1 (n))), (0, .ref (h 0)), (1, .int (nI n))]) C dX8_isMade_10 (by decide) rfl ?_
  refine V_iload C dX8_isMade_12 0 rfl ?_
  refine V_iconst (v := 3) C dX8_isMade_14 (by decide) ?_
  refine V_icmp_ge (tgt := 161) C dX8_isMade_15 (by decide) (fun zh15 => ?_) (fun zh15 => ?_)
  · exact absurd zh15 (by decide)
  · refine V_aload_n C dX8_isMade_18 rfl 3 rfl ?_
    refine V_get (v := .ref (h 4)) C dX8_isMade_19 hi8 0 rfl rfl 3 (by decide) (List.mem_of_getElem? (i := 2) rfl) rfl rfl ?_
    refine V_iconst (v := 3) C dX8_isMade_22 (by decide) ?_
    refine V_iload_n C dX8_isMade_23 rfl 4 rfl ?_
    refine V_imul C dX8_isMade_24 ?_
    refine V_iload C dX8_isMade_25 0 rfl ?_
    refine V_iadd C dX8_isMade_27 ?_
    refine V_ialdn (v := (ga u 3 (3 * n))) C dX8_isMade_28 3 0 rfl rfl (3 * n) (ix3 n rfl 0 0 rfl (by omega)).1 ((ix3 n rfl 0 0 rfl (by omega)).2) rfl ?_
    refine V_istore (lv' := [(5, .int (ga u 3 (3 * n))), (4, .int 0), (3, .int 1), (2, .int (ga u 1 (n))), (0, .ref (h 0)), (1, .int (nI n))]) C dX8_isMade_29 (by decide) rfl ?_
    suffices zj61 : ∀ xg1 : Bool, xg1 = (if mWr (ga u 1 (n)) 0 = true then (true && !mOut (ga u 3 (3 * n)) 1 31) else true) → V X 0 0 (mw K h u) 61 [(3, .int (b2i xg1)), (5, .int (ga u 3 (3 * n))), (4, .int 0), (2, .int (ga u 1 (n))), (0, .ref (h 0)), (1, .int (nI n))] [] by
      refine V_iload_n C dX8_isMade_31 rfl 3 rfl ?_
      refine V_iload C dX8_isMade_32 1 rfl ?_
      refine V_calliS C dX8_isMade_34 (c_X8_isWritten l D K (mw K h u) (ga u 1 (n)) 0) gX8_isMade_X8_isWritten rfl 2 rfl (by decide +kernel) (by decide) ⟨Nat.le_of_ble_eq_true rfl, Nat.le_of_ble_eq_true rfl⟩ rfl (Nat.le_of_ble_eq_true rfl) (det0 ?_)
      refine V_ifz_eq (tgt := 61) C dX8_isMade_37 (by decide) (fun zh37 => ?_) (fun zh37 => ?_)
      · refine V_sub [2, 0, 1, 3, 4, 5] rfl ?_
        exact zj61 true (by first | rfl | (simp (decide := true) [b2i, gi_si, ga_si, gz_si, gl_si, gb_si, mPl_si, mGet_si, mNat_si, mSlot_si, mBy_si, mThr, zh37]; done) | (simp (decide := true) [b2i, gi_si, ga_si, gz_si, gl_si, gb_si, mPl_si, mGet_si, mNat_si, mSlot_si, mBy_si, mThr, zh37]; rfl) | (simp_all (decide := true) [b2i, gi_si, ga_si, gz_si, gl_si, gb_si, mPl_si, mGet_si, mNat_si, mSlot_si, mBy_si, mThr]; done))
      · refine V_iload_n C dX8_isMade_40 rfl 2 rfl ?_
        refine V_if_eq (tgt := 59) C dX8_isMade_41 (by decide) (fun zh41 => ?_) (fun zh41 => ?_)
        · exact absurd zh41 (by decide)
        · refine V_iload C dX8_isMade_44 0 rfl ?_
          refine V_iconst (v := 1) C dX8_isMade_46 (by decide) ?_
          refine V_bipush (v := 31) C dX8_isMade_47 (by decide) ?_
          refine V_calliS C dX8_isMade_49 (c_X8_out l D K (mw K h u) (ga u 3 (3 * n)) 1 31) gX8_isMade_X8_out rfl 3 rfl (by decide +kernel) (by decide) ⟨Nat.le_of_ble_eq_true rfl, Nat.le_of_ble_eq_true rfl⟩ rfl (Nat.le_of_ble_eq_true rfl) (det0 ?_)
          refine V_ifz_ne (tgt := 59) C dX8_isMade_52 (by decide) (fun zh52 => ?_) (fun zh52 => ?_)
          · refine V_iconst (v := 0) C dX8_isMade_59 (by decide) ?_
            refine V_istore_n (lv' := [(3, .int 0), (5, .int (ga u 3 (3 * n))), (4, .int 0), (2, .int (ga u 1 (n))), (0, .ref (h 0)), (1, .int (nI n))]) C dX8_isMade_60 rfl (by decide) rfl ?_
            refine V_sub [0, 1, 2, 3, 4, 5] rfl ?_
            exact zj61 false (by first | rfl | (simp (decide := true) [b2i, gi_si, ga_si, gz_si, gl_si, gb_si, mPl_si, mGet_si, mNat_si, mSlot_si, mBy_si, mThr, zh37, zh52]; done) | (simp (decide := true) [b2i, gi_si, ga_si, gz_si, gl_si, gb_si, mPl_si, mGet_si, mNat_si, mSlot_si, mBy_si, mThr, zh37, zh52]; rfl) | (simp_all (decide := true) [b2i, gi_si, ga_si, gz_si, gl_si, gb_si, mPl_si, mGet_si, mNat_si, mSlot_si, mBy_si, mThr]; done))
          · refine V_iconst (v := 1) C dX8_isMade_55 (by decide) ?_
            refine V_goto (tgt := 60) C dX8_isMade_56 (by decide) ?_
            refine V_istore_n (lv' := [(3, .int 1), (5, .int (ga u 3 (3 * n))), (4, .int 0), (2, .int (ga u 1 (n))), (0, .ref (h 0)), (1, .int (nI n))]) C dX8_isMade_60 rfl (by decide) rfl ?_
            refine V_sub [0, 1, 2, 3, 4, 5] rfl ?_
            exact zj61 true (by first | rfl | (simp (decide := true) [b2i, gi_si, ga_si, gz_si, gl_si, gb_si, mPl_si, mGet_si, mNat_si, mSlot_si, mBy_si, mThr, zh37, zh52]; done) | (simp (decide := true) [b2i, gi_si, ga_si, gz_si, gl_si, gb_si, mPl_si, mGet_si, mNat_si, mSlot_si, mBy_si, mThr, zh37, zh52]; rfl) | (simp_all (decide := true) [b2i, gi_si, ga_si, gz_si, gl_si, gb_si, mPl_si, mGet_si, mNat_si, mSlot_si, mBy_si, mThr]; done))
    intro xg1 e_xg1
    suffices zj91 : ∀ xg2 : Bool, xg2 = (if mRd (ga u 1 (n)) 0 = true then (xg1 && !mOut (ga u 3 (3 * n)) 0 31) else xg1) → V X 0 0 (mw K h u) 91 [(3, .int (b2i xg2)), (5, .int (ga u 3 (3 * n))), (4, .int 0), (2, .int (ga u 1 (n))), (0, .ref (h 0)), (1, .int (nI n))] [] by
      refine V_iload_n C dX8_isMade_61 rfl 3 rfl ?_
      refine V_iload C dX8_isMade_62 2 rfl ?_
      refine V_calliS C dX8_isMade_64 (c_X8_isRead l D K (mw K h u) (ga u 1 (n)) 0) gX8_isMade_X8_isRead rfl 2 rfl (by decide +kernel) (by decide) ⟨Nat.le_of_ble_eq_true rfl, Nat.le_of_ble_eq_true rfl⟩ rfl (Nat.le_of_ble_eq_true rfl) (det0 ?_)
      refine V_ifz_eq (tgt := 91) C dX8_isMade_67 (by decide) (fun zh67 => ?_) (fun zh67 => ?_)
      · refine V_sub [0, 1, 2, 3, 4, 5] rfl ?_
        exact zj91 xg1 (by first | rfl | (simp (decide := true) [b2i, gi_si, ga_si, gz_si, gl_si, gb_si, mPl_si, mGet_si, mNat_si, mSlot_si, mBy_si, mThr, zh67]; done) | (simp (decide := true) [b2i, gi_si, ga_si, gz_si, gl_si, gb_si, mPl_si, mGet_si, mNat_si, mSlot_si, mBy_si, mThr, zh67]; rfl) | (simp_all (decide := true) [b2i, gi_si, ga_si, gz_si, gl_si, gb_si, mPl_si, mGet_si, mNat_si, mSlot_si, mBy_si, mThr]; done))
      · refine V_iload_n C dX8_isMade_70 rfl 0 rfl ?_
        refine V_ifz_eq (tgt := 89) C dX8_isMade_71 (by decide) (fun zh71 => ?_) (fun zh71 => ?_)
        · refine V_iconst (v := 0) C dX8_isMade_89 (by decide) ?_
          refine V_istore_n (lv' := [(3, .int 0), (5, .int (ga u 3 (3 * n))), (4, .int 0), (2, .int (ga u 1 (n))), (0, .ref (h 0)), (1, .int (nI n))]) C dX8_isMade_90 rfl (by decide) rfl ?_
          refine V_sub [0, 1, 2, 3, 4, 5] rfl ?_
          exact zj91 false (by first | rfl | (simp (decide := true) [b2i, gi_si, ga_si, gz_si, gl_si, gb_si, mPl_si, mGet_si, mNat_si, mSlot_si, mBy_si, mThr, zh67, zh71]; done) | (simp (decide := true) [b2i, gi_si, ga_si, gz_si, gl_si, gb_si, mPl_si, mGet_si, mNat_si, mSlot_si, mBy_si, mThr, zh67, zh71]; rfl) | (simp_all (decide := true) [b2i, gi_si, ga_si, gz_si, gl_si, gb_si, mPl_si, mGet_si, mNat_si, mSlot_si, mBy_si, mThr]; done))
        · refine V_iload C dX8_isMade_74 1 rfl ?_
          refine V_iconst (v := 0) C dX8_isMade_76 (by decide) ?_
          refine V_bipush (v := 31) C dX8_isMade_77 (by decide) ?_
          refine V_calliS C dX8_isMade_79 (c_X8_out l D K (mw K h u) (ga u 3 (3 * n)) 0 31) gX8_isMade_X8_out rfl 3 rfl (by decide +kernel) (by decide) ⟨Nat.le_of_ble_eq_true rfl, Nat.le_of_ble_eq_true rfl⟩ rfl (Nat.le_of_ble_eq_true rfl) (det0 ?_)
          refine V_ifz_ne (tgt := 89) C dX8_isMade_82 (by decide) (fun zh82 => ?_) (fun zh82 => ?_)
          · refine V_iconst (v := 0) C dX8_isMade_89 (by decide) ?_
            refine V_istore_n (lv' := [(3, .int 0), (5, .int (ga u 3 (3 * n))), (4, .int 0), (2, .int (ga u 1 (n))), (0, .ref (h 0)), (1, .int (nI n))]) C dX8_isMade_90 rfl (by decide) rfl ?_
            refine V_sub [0, 1, 2, 3, 4, 5] rfl ?_
            exact zj91 false (by first | rfl | (simp (decide := true) [b2i, gi_si, ga_si, gz_si, gl_si, gb_si, mPl_si, mGet_si, mNat_si, mSlot_si, mBy_si, mThr, zh67, zh71, zh82]; done) | (simp (decide := true) [b2i, gi_si, ga_si, gz_si, gl_si, gb_si, mPl_si, mGet_si, mNat_si, mSlot_si, mBy_si, mThr, zh67, zh71, zh82]; rfl) | (simp_all (decide := true) [b2i, gi_si, ga_si, gz_si, gl_si, gb_si, mPl_si, mGet_si, mNat_si, mSlot_si, mBy_si, mThr]; done))
          · refine V_iconst (v := 1) C dX8_isMade_85 (by decide) ?_
            refine V_goto (tgt := 90) C dX8_isMade_86 (by decide) ?_
            refine V_istore_n (lv' := [(3, .int 1), (5, .int (ga u 3 (3 * n))), (4, .int 0), (2, .int (ga u 1 (n))), (0, .ref (h 0)), (1, .int (nI n))]) C dX8_isMade_90 rfl (by decide) rfl ?_
            refine V_sub [0, 1, 2, 3, 4, 5] rfl ?_
            exact zj91 true (by first | rfl | (simp (decide := true) [b2i, gi_si, ga_si, gz_si, gl_si, gb_si, mPl_si, mGet_si, mNat_si, mSlot_si, mBy_si, mThr, zh67, zh71, zh82]; done) | (simp (decide := true) [b2i, gi_si, ga_si, gz_si, gl_si, gb_si, mPl_si, mGet_si, mNat_si, mSlot_si, mBy_si, mThr, zh67, zh71, zh82]; rfl) | (simp_all (decide := true) [b2i, gi_si, ga_si, gz_si, gl_si, gb_si, mPl_si, mGet_si, mNat_si, mSlot_si, mBy_si, mThr]; done))
    intro xg2 e_xg2
    suffices zj121 : ∀ xg3 : Bool, xg3 = (if mPr (ga u 1 (n)) 0 = true then (xg2 && !mOut (ga u 3 (3 * n)) 1 14) else xg2) → V X 0 0 (mw K h u) 121 [(3, .int (b2i xg3)), (5, .int (ga u 3 (3 * n))), (4, .int 0), (2, .int (ga u 1 (n))), (0, .ref (h 0)), (1, .int (nI n))] [] by
      refine V_iload_n C dX8_isMade_91 rfl 3 rfl ?_
      refine V_iload C dX8_isMade_92 2 rfl ?_
      refine V_calliS C dX8_isMade_94 (c_X8_isPredicate l D K (mw K h u) (ga u 1 (n)) 0) gX8_isMade_X8_isPredicate rfl 2 rfl (by decide +kernel) (by decide) ⟨Nat.le_of_ble_eq_true rfl, Nat.le_of_ble_eq_true rfl⟩ rfl (Nat.le_of_ble_eq_true rfl) (det0 ?_)
      refine V_ifz_eq (tgt := 121) C dX8_isMade_97 (by decide) (fun zh97 => ?_) (fun zh97 => ?_)
      · refine V_sub [0, 1, 2, 3, 4, 5] rfl ?_
        exact zj121 xg2 (by first | rfl | (simp (decide := true) [b2i, gi_si, ga_si, gz_si, gl_si, gb_si, mPl_si, mGet_si, mNat_si, mSlot_si, mBy_si, mThr, zh97]; done) | (simp (decide := true) [b2i, gi_si, ga_si, gz_si, gl_si, gb_si, mPl_si, mGet_si, mNat_si, mSlot_si, mBy_si, mThr, zh97]; rfl) | (simp_all (decide := true) [b2i, gi_si, ga_si, gz_si, gl_si, gb_si, mPl_si, mGet_si, mNat_si, mSlot_si, mBy_si, mThr]; done))
      · refine V_iload_n C dX8_isMade_100 rfl 0 rfl ?_
        refine V_ifz_eq (tgt := 119) C dX8_isMade_101 (by decide) (fun zh101 => ?_) (fun zh101 => ?_)
        · refine V_iconst (v := 0) C dX8_isMade_119 (by decide) ?_
          refine V_istore_n (lv' := [(3, .int 0), (5, .int (ga u 3 (3 * n))), (4, .int 0), (2, .int (ga u 1 (n))), (0, .ref (h 0)), (1, .int (nI n))]) C dX8_isMade_120 rfl (by decide) rfl ?_
          refine V_sub [0, 1, 2, 3, 4, 5] rfl ?_
          exact zj121 false (by first | rfl | (simp (decide := true) [b2i, gi_si, ga_si, gz_si, gl_si, gb_si, mPl_si, mGet_si, mNat_si, mSlot_si, mBy_si, mThr, zh97, zh101]; done) | (simp (decide := true) [b2i, gi_si, ga_si, gz_si, gl_si, gb_si, mPl_si, mGet_si, mNat_si, mSlot_si, mBy_si, mThr, zh97, zh101]; rfl) | (simp_all (decide := true) [b2i, gi_si, ga_si, gz_si, gl_si, gb_si, mPl_si, mGet_si, mNat_si, mSlot_si, mBy_si, mThr]; done))
        · refine V_iload C dX8_isMade_104 1 rfl ?_
          refine V_iconst (v := 1) C dX8_isMade_106 (by decide) ?_
          refine V_bipush (v := 14) C dX8_isMade_107 (by decide) ?_
          refine V_calliS C dX8_isMade_109 (c_X8_out l D K (mw K h u) (ga u 3 (3 * n)) 1 14) gX8_isMade_X8_out rfl 3 rfl (by decide +kernel) (by decide) ⟨Nat.le_of_ble_eq_true rfl, Nat.le_of_ble_eq_true rfl⟩ rfl (Nat.le_of_ble_eq_true rfl) (det0 ?_)
          refine V_ifz_ne (tgt := 119) C dX8_isMade_112 (by decide) (fun zh112 => ?_) (fun zh112 => ?_)
          · refine V_iconst (v := 0) C dX8_isMade_119 (by decide) ?_
            refine V_istore_n (lv' := [(3, .int 0), (5, .int (ga u 3 (3 * n))), (4, .int 0), (2, .int (ga u 1 (n))), (0, .ref (h 0)), (1, .int (nI n))]) C dX8_isMade_120 rfl (by decide) rfl ?_
            refine V_sub [0, 1, 2, 3, 4, 5] rfl ?_
            exact zj121 false (by first | rfl | (simp (decide := true) [b2i, gi_si, ga_si, gz_si, gl_si, gb_si, mPl_si, mGet_si, mNat_si, mSlot_si, mBy_si, mThr, zh97, zh101, zh112]; done) | (simp (decide := true) [b2i, gi_si, ga_si, gz_si, gl_si, gb_si, mPl_si, mGet_si, mNat_si, mSlot_si, mBy_si, mThr, zh97, zh101, zh112]; rfl) | (simp_all (decide := true) [b2i, gi_si, ga_si, gz_si, gl_si, gb_si, mPl_si, mGet_si, mNat_si, mSlot_si, mBy_si, mThr]; done))
          · refine V_iconst (v := 1) C dX8_isMade_115 (by decide) ?_
            refine V_goto (tgt := 120) C dX8_isMade_116 (by decide) ?_
            refine V_istore_n (lv' := [(3, .int 1), (5, .int (ga u 3 (3 * n))), (4, .int 0), (2, .int (ga u 1 (n))), (0, .ref (h 0)), (1, .int (nI n))]) C dX8_isMade_120 rfl (by decide) rfl ?_
            refine V_sub [0, 1, 2, 3, 4, 5] rfl ?_
            exact zj121 true (by first | rfl | (simp (decide := true) [b2i, gi_si, ga_si, gz_si, gl_si, gb_si, mPl_si, mGet_si, mNat_si, mSlot_si, mBy_si, mThr, zh97, zh101, zh112]; done) | (simp (decide := true) [b2i, gi_si, ga_si, gz_si, gl_si, gb_si, mPl_si, mGet_si, mNat_si, mSlot_si, mBy_si, mThr, zh97, zh101, zh112]; rfl) | (simp_all (decide := true) [b2i, gi_si, ga_si, gz_si, gl_si, gb_si, mPl_si, mGet_si, mNat_si, mSlot_si, mBy_si, mThr]; done))
    intro xg3 e_xg3
    suffices zj155 : ∀ xg4 : Bool, xg4 = (if mTg (ga u 1 (n)) 0 = true then (xg3 && !mOut (ga u 3 (3 * n)) 0 ((gi u 5) - 1)) else xg3) → V X 0 0 (mw K h u) 155 [(3, .int (b2i xg4)), (5, .int (ga u 3 (3 * n))), (4, .int 0), (2, .int (ga u 1 (n))), (0, .ref (h 0)), (1, .int (nI n))] [] by
      refine V_iload_n C dX8_isMade_121 rfl 3 rfl ?_
      refine V_iload C dX8_isMade_122 2 rfl ?_
      refine V_calliS C dX8_isMade_124 (c_X8_isTarget l D K (mw K h u) (ga u 1 (n)) 0) gX8_isMade_X8_isTarget rfl 2 rfl (by decide +kernel) (by decide) ⟨Nat.le_of_ble_eq_true rfl, Nat.le_of_ble_eq_true rfl⟩ rfl (Nat.le_of_ble_eq_true rfl) (det0 ?_)
      refine V_ifz_eq (tgt := 155) C dX8_isMade_127 (by decide) (fun zh127 => ?_) (fun zh127 => ?_)
      · refine V_sub [0, 1, 2, 3, 4, 5] rfl ?_
        exact zj155 xg3 (by first | rfl | (simp (decide := true) [b2i, gi_si, ga_si, gz_si, gl_si, gb_si, mPl_si, mGet_si, mNat_si, mSlot_si, mBy_si, mThr, zh127]; done) | (simp (decide := true) [b2i, gi_si, ga_si, gz_si, gl_si, gb_si, mPl_si, mGet_si, mNat_si, mSlot_si, mBy_si, mThr, zh127]; rfl) | (simp_all (decide := true) [b2i, gi_si, ga_si, gz_si, gl_si, gb_si, mPl_si, mGet_si, mNat_si, mSlot_si, mBy_si, mThr]; done))
      · refine V_iload_n C dX8_isMade_130 rfl 0 rfl ?_
        refine V_ifz_eq (tgt := 153) C dX8_isMade_131 (by decide) (fun zh131 => ?_) (fun zh131 => ?_)
        · refine V_iconst (v := 0) C dX8_isMade_153 (by decide) ?_
          refine V_istore_n (lv' := [(3, .int 0), (5, .int (ga u 3 (3 * n))), (4, .int 0), (2, .int (ga u 1 (n))), (0, .ref (h 0)), (1, .int (nI n))]) C dX8_isMade_154 rfl (by decide) rfl ?_
          refine V_sub [0, 1, 2, 3, 4, 5] rfl ?_
          exact zj155 false (by first | rfl | (simp (decide := true) [b2i, gi_si, ga_si, gz_si, gl_si, gb_si, mPl_si, mGet_si, mNat_si, mSlot_si, mBy_si, mThr, zh127, zh131]; done) | (simp (decide := true) [b2i, gi_si, ga_si, gz_si, gl_si, gb_si, mPl_si, mGet_si, mNat_si, mSlot_si, mBy_si, mThr, zh127, zh131]; rfl) | (simp_all (decide := true) [b2i, gi_si, ga_si, gz_si, gl_si, gb_si, mPl_si, mGet_si, mNat_si, mSlot_si, mBy_si, mThr]; done))
        · refine V_iload C dX8_isMade_134 1 rfl ?_
          refine V_iconst (v := 0) C dX8_isMade_136 (by decide) ?_
          refine V_aload_n C dX8_isMade_137 rfl 4 rfl ?_
          refine V_get (v := .int (gi u 5)) C dX8_isMade_138 hi8 0 rfl rfl 5 (by decide) (List.mem_of_getElem? (i := 3) rfl) rfl rfl ?_
          refine V_iconst (v := 1) C dX8_isMade_141 (by decide) ?_
          refine V_isub C dX8_isMade_142 ?_
          refine V_calliS C dX8_isMade_143 (c_X8_out l D K (mw K h u) (ga u 3 (3 * n)) 0 ((gi u 5) - 1)) gX8_isMade_X8_out rfl 3 rfl (by decide +kernel) (by decide) ⟨Nat.le_of_ble_eq_true rfl, Nat.le_of_ble_eq_true rfl⟩ rfl (Nat.le_of_ble_eq_true rfl) (det0 ?_)
          refine V_ifz_ne (tgt := 153) C dX8_isMade_146 (by decide) (fun zh146 => ?_) (fun zh146 => ?_)
          · refine V_iconst (v := 0) C dX8_isMade_153 (by decide) ?_
            refine V_istore_n (lv' := [(3, .int 0), (5, .int (ga u 3 (3 * n))), (4, .int 0), (2, .int (ga u 1 (n))), (0, .ref (h 0)), (1, .int (nI n))]) C dX8_isMade_154 rfl (by decide) rfl ?_
            refine V_sub [0, 1, 2, 3, 4, 5] rfl ?_
            exact zj155 false (by first | rfl | (simp (decide := true) [b2i, gi_si, ga_si, gz_si, gl_si, gb_si, mPl_si, mGet_si, mNat_si, mSlot_si, mBy_si, mThr, zh127, zh131, zh146]; done) | (simp (decide := true) [b2i, gi_si, ga_si, gz_si, gl_si, gb_si, mPl_si, mGet_si, mNat_si, mSlot_si, mBy_si, mThr, zh127, zh131, zh146]; rfl) | (simp_all (decide := true) [b2i, gi_si, ga_si, gz_si, gl_si, gb_si, mPl_si, mGet_si, mNat_si, mSlot_si, mBy_si, mThr]; done))
          · refine V_iconst (v := 1) C dX8_isMade_149 (by decide) ?_
            refine V_goto (tgt := 154) C dX8_isMade_150 (by decide) ?_
            refine V_istore_n (lv' := [(3, .int 1), (5, .int (ga u 3 (3 * n))), (4, .int 0), (2, .int (ga u 1 (n))), (0, .ref (h 0)), (1, .int (nI n))]) C dX8_isMade_154 rfl (by decide) rfl ?_
            refine V_sub [0, 1, 2, 3, 4, 5] rfl ?_
            exact zj155 true (by first | rfl | (simp (decide := true) [b2i, gi_si, ga_si, gz_si, gl_si, gb_si, mPl_si, mGet_si, mNat_si, mSlot_si, mBy_si, mThr, zh127, zh131, zh146]; done) | (simp (decide := true) [b2i, gi_si, ga_si, gz_si, gl_si, gb_si, mPl_si, mGet_si, mNat_si, mSlot_si, mBy_si, mThr, zh127, zh131, zh146]; rfl) | (simp_all (decide := true) [b2i, gi_si, ga_si, gz_si, gl_si, gb_si, mPl_si, mGet_si, mNat_si, mSlot_si, mBy_si, mThr]; done))
    intro xg4 e_xg4
    refine V_iinc (lv' := [(4, .int 1), (3, .int (b2i xg4)), (5, .int (ga u 3 (3 * n))), (2, .int (ga u 1 (n))), (0, .ref (h 0)), (1, .int (nI n))]) C dX8_isMade_155 (j := 2) rfl (by decide) (by decide) rfl ?_
    refine V_goto (tgt := 12) C dX8_isMade_158 (by decide) ?_
    refine V_iload C dX8_isMade_12 0 rfl ?_
    refine V_iconst (v := 3) C dX8_isMade_14 (by decide) ?_
    refine V_icmp_ge (tgt := 161) C dX8_isMade_15 (by decide) (fun zh15 => ?_) (fun zh15 => ?_)
    · exact absurd zh15 (by decide)
    · refine V_aload_n C dX8_isMade_18 rfl 4 rfl ?_
      refine V_get (v := .ref (h 4)) C dX8_isMade_19 hi8 0 rfl rfl 3 (by decide) (List.mem_of_getElem? (i := 2) rfl) rfl rfl ?_
      refine V_iconst (v := 3) C dX8_isMade_22 (by decide) ?_
      refine V_iload_n C dX8_isMade_23 rfl 5 rfl ?_
      refine V_imul C dX8_isMade_24 ?_
      refine V_iload C dX8_isMade_25 0 rfl ?_
      refine V_iadd C dX8_isMade_27 ?_
      refine V_ialdn (v := (ga u 3 (3 * n + 1))) C dX8_isMade_28 3 0 rfl rfl (3 * n + 1) (ix3 n rfl 1 1 rfl (by omega)).1 ((ix3 n rfl 1 1 rfl (by omega)).2) rfl ?_
      refine V_istore (lv' := [(5, .int (ga u 3 (3 * n + 1))), (4, .int 1), (3, .int (b2i xg4)), (2, .int (ga u 1 (n))), (0, .ref (h 0)), (1, .int (nI n))]) C dX8_isMade_29 (by decide) rfl ?_
      suffices zj61 : ∀ xg5 : Bool, xg5 = (if mWr (ga u 1 (n)) 1 = true then (xg4 && !mOut (ga u 3 (3 * n + 1)) 1 31) else xg4) → V X 0 0 (mw K h u) 61 [(3, .int (b2i xg5)), (5, .int (ga u 3 (3 * n + 1))), (4, .int 1), (2, .int (ga u 1 (n))), (0, .ref (h 0)), (1, .int (nI n))] [] by
        refine V_iload_n C dX8_isMade_31 rfl 3 rfl ?_
        refine V_iload C dX8_isMade_32 1 rfl ?_
        refine V_calliS C dX8_isMade_34 (c_X8_isWritten l D K (mw K h u) (ga u 1 (n)) 1) gX8_isMade_X8_isWritten rfl 2 rfl (by decide +kernel) (by decide) ⟨Nat.le_of_ble_eq_true rfl, Nat.le_of_ble_eq_true rfl⟩ rfl (Nat.le_of_ble_eq_true rfl) (det0 ?_)
        refine V_ifz_eq (tgt := 61) C dX8_isMade_37 (by decide) (fun zh37 => ?_) (fun zh37 => ?_)
        · refine V_sub [2, 0, 1, 3, 4, 5] rfl ?_
          exact zj61 xg4 (by first | rfl | (simp (decide := true) [b2i, gi_si, ga_si, gz_si, gl_si, gb_si, mPl_si, mGet_si, mNat_si, mSlot_si, mBy_si, mThr, zh37]; done) | (simp (decide := true) [b2i, gi_si, ga_si, gz_si, gl_si, gb_si, mPl_si, mGet_si, mNat_si, mSlot_si, mBy_si, mThr, zh37]; rfl) | (simp_all (decide := true) [b2i, gi_si, ga_si, gz_si, gl_si, gb_si, mPl_si, mGet_si, mNat_si, mSlot_si, mBy_si, mThr]; done))
        · refine V_iload_n C dX8_isMade_40 rfl 2 rfl ?_
          refine V_ifz_eq (tgt := 59) C dX8_isMade_41 (by decide) (fun zh41 => ?_) (fun zh41 => ?_)
          · refine V_iconst (v := 0) C dX8_isMade_59 (by decide) ?_
            refine V_istore_n (lv' := [(3, .int 0), (5, .int (ga u 3 (3 * n + 1))), (4, .int 1), (2, .int (ga u 1 (n))), (0, .ref (h 0)), (1, .int (nI n))]) C dX8_isMade_60 rfl (by decide) rfl ?_
            refine V_sub [0, 1, 2, 3, 4, 5] rfl ?_
            exact zj61 false (by first | rfl | (simp (decide := true) [b2i, gi_si, ga_si, gz_si, gl_si, gb_si, mPl_si, mGet_si, mNat_si, mSlot_si, mBy_si, mThr, zh37, zh41]; done) | (simp (decide := true) [b2i, gi_si, ga_si, gz_si, gl_si, gb_si, mPl_si, mGet_si, mNat_si, mSlot_si, mBy_si, mThr, zh37, zh41]; rfl) | (simp_all (decide := true) [b2i, gi_si, ga_si, gz_si, gl_si, gb_si, mPl_si, mGet_si, mNat_si, mSlot_si, mBy_si, mThr]; done))
          · refine V_iload C dX8_isMade_44 0 rfl ?_
            refine V_iconst (v := 1) C dX8_isMade_46 (by decide) ?_
            refine V_bipush (v := 31) C dX8_isMade_47 (by decide) ?_
            refine V_calliS C dX8_isMade_49 (c_X8_out l D K (mw K h u) (ga u 3 (3 * n + 1)) 1 31) gX8_isMade_X8_out rfl 3 rfl (by decide +kernel) (by decide) ⟨Nat.le_of_ble_eq_true rfl, Nat.le_of_ble_eq_true rfl⟩ rfl (Nat.le_of_ble_eq_true rfl) (det0 ?_)
            refine V_ifz_ne (tgt := 59) C dX8_isMade_52 (by decide) (fun zh52 => ?_) (fun zh52 => ?_)
            · refine V_iconst (v := 0) C dX8_isMade_59 (by decide) ?_
              refine V_istore_n (lv' := [(3, .int 0), (5, .int (ga u 3 (3 * n + 1))), (4, .int 1), (2, .int (ga u 1 (n))), (0, .ref (h 0)), (1, .int (nI n))]) C dX8_isMade_60 rfl (by decide) rfl ?_
              refine V_sub [0, 1, 2, 3, 4, 5] rfl ?_
              exact zj61 false (by first | rfl | (simp (decide := true) [b2i, gi_si, ga_si, gz_si, gl_si, gb_si, mPl_si, mGet_si, mNat_si, mSlot_si, mBy_si, mThr, zh37, zh41, zh52]; done) | (simp (decide := true) [b2i, gi_si, ga_si, gz_si, gl_si, gb_si, mPl_si, mGet_si, mNat_si, mSlot_si, mBy_si, mThr, zh37, zh41, zh52]; rfl) | (simp_all (decide := true) [b2i, gi_si, ga_si, gz_si, gl_si, gb_si, mPl_si, mGet_si, mNat_si, mSlot_si, mBy_si, mThr]; done))
            · refine V_iconst (v := 1) C dX8_isMade_55 (by decide) ?_
              refine V_goto (tgt := 60) C dX8_isMade_56 (by decide) ?_
              refine V_istore_n (lv' := [(3, .int 1), (5, .int (ga u 3 (3 * n + 1))), (4, .int 1), (2, .int (ga u 1 (n))), (0, .ref (h 0)), (1, .int (nI n))]) C dX8_isMade_60 rfl (by decide) rfl ?_
              refine V_sub [0, 1, 2, 3, 4, 5] rfl ?_
              exact zj61 true (by first | rfl | (simp (decide := true) [b2i, gi_si, ga_si, gz_si, gl_si, gb_si, mPl_si, mGet_si, mNat_si, mSlot_si, mBy_si, mThr, zh37, zh41, zh52]; done) | (simp (decide := true) [b2i, gi_si, ga_si, gz_si, gl_si, gb_si, mPl_si, mGet_si, mNat_si, mSlot_si, mBy_si, mThr, zh37, zh41, zh52]; rfl) | (simp_all (decide := true) [b2i, gi_si, ga_si, gz_si, gl_si, gb_si, mPl_si, mGet_si, mNat_si, mSlot_si, mBy_si, mThr]; done))
      intro xg5 e_xg5
      suffices zj91 : ∀ xg6 : Bool, xg6 = (if mRd (ga u 1 (n)) 1 = true then (xg5 && !mOut (ga u 3 (3 * n + 1)) 0 31) else xg5) → V X 0 0 (mw K h u) 91 [(3, .int (b2i xg6)), (5, .int (ga u 3 (3 * n + 1))), (4, .int 1), (2, .int (ga u 1 (n))), (0, .ref (h 0)), (1, .int (nI n))] [] by
        refine V_iload_n C dX8_isMade_61 rfl 3 rfl ?_
        refine V_iload C dX8_isMade_62 2 rfl ?_
        refine V_calliS C dX8_isMade_64 (c_X8_isRead l D K (mw K h u) (ga u 1 (n)) 1) gX8_isMade_X8_isRead rfl 2 rfl (by decide +kernel) (by decide) ⟨Nat.le_of_ble_eq_true rfl, Nat.le_of_ble_eq_true rfl⟩ rfl (Nat.le_of_ble_eq_true rfl) (det0 ?_)
        refine V_ifz_eq (tgt := 91) C dX8_isMade_67 (by decide) (fun zh67 => ?_) (fun zh67 => ?_)
        · refine V_sub [0, 1, 2, 3, 4, 5] rfl ?_
          exact zj91 xg5 (by first | rfl | (simp (decide := true) [b2i, gi_si, ga_si, gz_si, gl_si, gb_si, mPl_si, mGet_si, mNat_si, mSlot_si, mBy_si, mThr, zh67]; done) | (simp (decide := true) [b2i, gi_si, ga_si, gz_si, gl_si, gb_si, mPl_si, mGet_si, mNat_si, mSlot_si, mBy_si, mThr, zh67]; rfl) | (simp_all (decide := true) [b2i, gi_si, ga_si, gz_si, gl_si, gb_si, mPl_si, mGet_si, mNat_si, mSlot_si, mBy_si, mThr]; done))
        · refine V_iload_n C dX8_isMade_70 rfl 0 rfl ?_
          refine V_ifz_eq (tgt := 89) C dX8_isMade_71 (by decide) (fun zh71 => ?_) (fun zh71 => ?_)
          · refine V_iconst (v := 0) C dX8_isMade_89 (by decide) ?_
            refine V_istore_n (lv' := [(3, .int 0), (5, .int (ga u 3 (3 * n + 1))), (4, .int 1), (2, .int (ga u 1 (n))), (0, .ref (h 0)), (1, .int (nI n))]) C dX8_isMade_90 rfl (by decide) rfl ?_
            refine V_sub [0, 1, 2, 3, 4, 5] rfl ?_
            exact zj91 false (by first | rfl | (simp (decide := true) [b2i, gi_si, ga_si, gz_si, gl_si, gb_si, mPl_si, mGet_si, mNat_si, mSlot_si, mBy_si, mThr, zh67, zh71]; done) | (simp (decide := true) [b2i, gi_si, ga_si, gz_si, gl_si, gb_si, mPl_si, mGet_si, mNat_si, mSlot_si, mBy_si, mThr, zh67, zh71]; rfl) | (simp_all (decide := true) [b2i, gi_si, ga_si, gz_si, gl_si, gb_si, mPl_si, mGet_si, mNat_si, mSlot_si, mBy_si, mThr]; done))
          · refine V_iload C dX8_isMade_74 1 rfl ?_
            refine V_iconst (v := 0) C dX8_isMade_76 (by decide) ?_
            refine V_bipush (v := 31) C dX8_isMade_77 (by decide) ?_
            refine V_calliS C dX8_isMade_79 (c_X8_out l D K (mw K h u) (ga u 3 (3 * n + 1)) 0 31) gX8_isMade_X8_out rfl 3 rfl (by decide +kernel) (by decide) ⟨Nat.le_of_ble_eq_true rfl, Nat.le_of_ble_eq_true rfl⟩ rfl (Nat.le_of_ble_eq_true rfl) (det0 ?_)
            refine V_ifz_ne (tgt := 89) C dX8_isMade_82 (by decide) (fun zh82 => ?_) (fun zh82 => ?_)
            · refine V_iconst (v := 0) C dX8_isMade_89 (by decide) ?_
              refine V_istore_n (lv' := [(3, .int 0), (5, .int (ga u 3 (3 * n + 1))), (4, .int 1), (2, .int (ga u 1 (n))), (0, .ref (h 0)), (1, .int (nI n))]) C dX8_isMade_90 rfl (by decide) rfl ?_
              refine V_sub [0, 1, 2, 3, 4, 5] rfl ?_
              exact zj91 false (by first | rfl | (simp (decide := true) [b2i, gi_si, ga_si, gz_si, gl_si, gb_si, mPl_si, mGet_si, mNat_si, mSlot_si, mBy_si, mThr, zh67, zh71, zh82]; done) | (simp (decide := true) [b2i, gi_si, ga_si, gz_si, gl_si, gb_si, mPl_si, mGet_si, mNat_si, mSlot_si, mBy_si, mThr, zh67, zh71, zh82]; rfl) | (simp_all (decide := true) [b2i, gi_si, ga_si, gz_si, gl_si, gb_si, mPl_si, mGet_si, mNat_si, mSlot_si, mBy_si, mThr]; done))
            · refine V_iconst (v := 1) C dX8_isMade_85 (by decide) ?_
              refine V_goto (tgt := 90) C dX8_isMade_86 (by decide) ?_
              refine V_istore_n (lv' := [(3, .int 1), (5, .int (ga u 3 (3 * n + 1))), (4, .int 1), (2, .int (ga u 1 (n))), (0, .ref (h 0)), (1, .int (nI n))]) C dX8_isMade_90 rfl (by decide) rfl ?_
              refine V_sub [0, 1, 2, 3, 4, 5] rfl ?_
              exact zj91 true (by first | rfl | (simp (decide := true) [b2i, gi_si, ga_si, gz_si, gl_si, gb_si, mPl_si, mGet_si, mNat_si, mSlot_si, mBy_si, mThr, zh67, zh71, zh82]; done) | (simp (decide := true) [b2i, gi_si, ga_si, gz_si, gl_si, gb_si, mPl_si, mGet_si, mNat_si, mSlot_si, mBy_si, mThr, zh67, zh71, zh82]; rfl) | (simp_all (decide := true) [b2i, gi_si, ga_si, gz_si, gl_si, gb_si, mPl_si, mGet_si, mNat_si, mSlot_si, mBy_si, mThr]; done))
      intro xg6 e_xg6
      suffices zj121 : ∀ xg7 : Bool, xg7 = (if mPr (ga u 1 (n)) 1 = true then (xg6 && !mOut (ga u 3 (3 * n + 1)) 1 14) else xg6) → V X 0 0 (mw K h u) 121 [(3, .int (b2i xg7)), (5, .int (ga u 3 (3 * n + 1))), (4, .int 1), (2, .int (ga u 1 (n))), (0, .ref (h 0)), (1, .int (nI n))] [] by
        refine V_iload_n C dX8_isMade_91 rfl 3 rfl ?_
        refine V_iload C dX8_isMade_92 2 rfl ?_
        refine V_calliS C dX8_isMade_94 (c_X8_isPredicate l D K (mw K h u) (ga u 1 (n)) 1) gX8_isMade_X8_isPredicate rfl 2 rfl (by decide +kernel) (by decide) ⟨Nat.le_of_ble_eq_true rfl, Nat.le_of_ble_eq_true rfl⟩ rfl (Nat.le_of_ble_eq_true rfl) (det0 ?_)
        refine V_ifz_eq (tgt := 121) C dX8_isMade_97 (by decide) (fun zh97 => ?_) (fun zh97 => ?_)
        · refine V_sub [0, 1, 2, 3, 4, 5] rfl ?_
          exact zj121 xg6 (by first | rfl | (simp (decide := true) [b2i, gi_si, ga_si, gz_si, gl_si, gb_si, mPl_si, mGet_si, mNat_si, mSlot_si, mBy_si, mThr, zh97]; done) | (simp (decide := true) [b2i, gi_si, ga_si, gz_si, gl_si, gb_si, mPl_si, mGet_si, mNat_si, mSlot_si, mBy_si, mThr, zh97]; rfl) | (simp_all (decide := true) [b2i, gi_si, ga_si, gz_si, gl_si, gb_si, mPl_si, mGet_si, mNat_si, mSlot_si, mBy_si, mThr]; done))
        · refine V_iload_n C dX8_isMade_100 rfl 0 rfl ?_
          refine V_ifz_eq (tgt := 119) C dX8_isMade_101 (by decide) (fun zh101 => ?_) (fun zh101 => ?_)
          · refine V_iconst (v := 0) C dX8_isMade_119 (by decide) ?_
            refine V_istore_n (lv' := [(3, .int 0), (5, .int (ga u 3 (3 * n + 1))), (4, .int 1), (2, .int (ga u 1 (n))), (0, .ref (h 0)), (1, .int (nI n))]) C dX8_isMade_120 rfl (by decide) rfl ?_
            refine V_sub [0, 1, 2, 3, 4, 5] rfl ?_
            exact zj121 false (by first | rfl | (simp (decide := true) [b2i, gi_si, ga_si, gz_si, gl_si, gb_si, mPl_si, mGet_si, mNat_si, mSlot_si, mBy_si, mThr, zh97, zh101]; done) | (simp (decide := true) [b2i, gi_si, ga_si, gz_si, gl_si, gb_si, mPl_si, mGet_si, mNat_si, mSlot_si, mBy_si, mThr, zh97, zh101]; rfl) | (simp_all (decide := true) [b2i, gi_si, ga_si, gz_si, gl_si, gb_si, mPl_si, mGet_si, mNat_si, mSlot_si, mBy_si, mThr]; done))
          · refine V_iload C dX8_isMade_104 1 rfl ?_
            refine V_iconst (v := 1) C dX8_isMade_106 (by decide) ?_
            refine V_bipush (v := 14) C dX8_isMade_107 (by decide) ?_
            refine V_calliS C dX8_isMade_109 (c_X8_out l D K (mw K h u) (ga u 3 (3 * n + 1)) 1 14) gX8_isMade_X8_out rfl 3 rfl (by decide +kernel) (by decide) ⟨Nat.le_of_ble_eq_true rfl, Nat.le_of_ble_eq_true rfl⟩ rfl (Nat.le_of_ble_eq_true rfl) (det0 ?_)
            refine V_ifz_ne (tgt := 119) C dX8_isMade_112 (by decide) (fun zh112 => ?_) (fun zh112 => ?_)
            · refine V_iconst (v := 0) C dX8_isMade_119 (by decide) ?_
              refine V_istore_n (lv' := [(3, .int 0), (5, .int (ga u 3 (3 * n + 1))), (4, .int 1), (2, .int (ga u 1 (n))), (0, .ref (h 0)), (1, .int (nI n))]) C dX8_isMade_120 rfl (by decide) rfl ?_
              refine V_sub [0, 1, 2, 3, 4, 5] rfl ?_
              exact zj121 false (by first | rfl | (simp (decide := true) [b2i, gi_si, ga_si, gz_si, gl_si, gb_si, mPl_si, mGet_si, mNat_si, mSlot_si, mBy_si, mThr, zh97, zh101, zh112]; done) | (simp (decide := true) [b2i, gi_si, ga_si, gz_si, gl_si, gb_si, mPl_si, mGet_si, mNat_si, mSlot_si, mBy_si, mThr, zh97, zh101, zh112]; rfl) | (simp_all (decide := true) [b2i, gi_si, ga_si, gz_si, gl_si, gb_si, mPl_si, mGet_si, mNat_si, mSlot_si, mBy_si, mThr]; done))
            · refine V_iconst (v := 1) C dX8_isMade_115 (by decide) ?_
              refine V_goto (tgt := 120) C dX8_isMade_116 (by decide) ?_
              refine V_istore_n (lv' := [(3, .int 1), (5, .int (ga u 3 (3 * n + 1))), (4, .int 1), (2, .int (ga u 1 (n))), (0, .ref (h 0)), (1, .int (nI n))]) C dX8_isMade_120 rfl (by decide) rfl ?_
              refine V_sub [0, 1, 2, 3, 4, 5] rfl ?_
              exact zj121 true (by first | rfl | (simp (decide := true) [b2i, gi_si, ga_si, gz_si, gl_si, gb_si, mPl_si, mGet_si, mNat_si, mSlot_si, mBy_si, mThr, zh97, zh101, zh112]; done) | (simp (decide := true) [b2i, gi_si, ga_si, gz_si, gl_si, gb_si, mPl_si, mGet_si, mNat_si, mSlot_si, mBy_si, mThr, zh97, zh101, zh112]; rfl) | (simp_all (decide := true) [b2i, gi_si, ga_si, gz_si, gl_si, gb_si, mPl_si, mGet_si, mNat_si, mSlot_si, mBy_si, mThr]; done))
      intro xg7 e_xg7
      suffices zj155 : ∀ xg8 : Bool, xg8 = (if mTg (ga u 1 (n)) 1 = true then (xg7 && !mOut (ga u 3 (3 * n + 1)) 0 ((gi u 5) - 1)) else xg7) → V X 0 0 (mw K h u) 155 [(3, .int (b2i xg8)), (5, .int (ga u 3 (3 * n + 1))), (4, .int 1), (2, .int (ga u 1 (n))), (0, .ref (h 0)), (1, .int (nI n))] [] by
        refine V_iload_n C dX8_isMade_121 rfl 3 rfl ?_
        refine V_iload C dX8_isMade_122 2 rfl ?_
        refine V_calliS C dX8_isMade_124 (c_X8_isTarget l D K (mw K h u) (ga u 1 (n)) 1) gX8_isMade_X8_isTarget rfl 2 rfl (by decide +kernel) (by decide) ⟨Nat.le_of_ble_eq_true rfl, Nat.le_of_ble_eq_true rfl⟩ rfl (Nat.le_of_ble_eq_true rfl) (det0 ?_)
        refine V_ifz_eq (tgt := 155) C dX8_isMade_127 (by decide) (fun zh127 => ?_) (fun zh127 => ?_)
        · refine V_sub [0, 1, 2, 3, 4, 5] rfl ?_
          exact zj155 xg7 (by first | rfl | (simp (decide := true) [b2i, gi_si, ga_si, gz_si, gl_si, gb_si, mPl_si, mGet_si, mNat_si, mSlot_si, mBy_si, mThr, zh127]; done) | (simp (decide := true) [b2i, gi_si, ga_si, gz_si, gl_si, gb_si, mPl_si, mGet_si, mNat_si, mSlot_si, mBy_si, mThr, zh127]; rfl) | (simp_all (decide := true) [b2i, gi_si, ga_si, gz_si, gl_si, gb_si, mPl_si, mGet_si, mNat_si, mSlot_si, mBy_si, mThr]; done))
        · refine V_iload_n C dX8_isMade_130 rfl 0 rfl ?_
          refine V_ifz_eq (tgt := 153) C dX8_isMade_131 (by decide) (fun zh131 => ?_) (fun zh131 => ?_)
          · refine V_iconst (v := 0) C dX8_isMade_153 (by decide) ?_
            refine V_istore_n (lv' := [(3, .int 0), (5, .int (ga u 3 (3 * n + 1))), (4, .int 1), (2, .int (ga u 1 (n))), (0, .ref (h 0)), (1, .int (nI n))]) C dX8_isMade_154 rfl (by decide) rfl ?_
            refine V_sub [0, 1, 2, 3, 4, 5] rfl ?_
            exact zj155 false (by first | rfl | (simp (decide := true) [b2i, gi_si, ga_si, gz_si, gl_si, gb_si, mPl_si, mGet_si, mNat_si, mSlot_si, mBy_si, mThr, zh127, zh131]; done) | (simp (decide := true) [b2i, gi_si, ga_si, gz_si, gl_si, gb_si, mPl_si, mGet_si, mNat_si, mSlot_si, mBy_si, mThr, zh127, zh131]; rfl) | (simp_all (decide := true) [b2i, gi_si, ga_si, gz_si, gl_si, gb_si, mPl_si, mGet_si, mNat_si, mSlot_si, mBy_si, mThr]; done))
          · refine V_iload C dX8_isMade_134 1 rfl ?_
            refine V_iconst (v := 0) C dX8_isMade_136 (by decide) ?_
            refine V_aload_n C dX8_isMade_137 rfl 4 rfl ?_
            refine V_get (v := .int (gi u 5)) C dX8_isMade_138 hi8 0 rfl rfl 5 (by decide) (List.mem_of_getElem? (i := 3) rfl) rfl rfl ?_
            refine V_iconst (v := 1) C dX8_isMade_141 (by decide) ?_
            refine V_isub C dX8_isMade_142 ?_
            refine V_calliS C dX8_isMade_143 (c_X8_out l D K (mw K h u) (ga u 3 (3 * n + 1)) 0 ((gi u 5) - 1)) gX8_isMade_X8_out rfl 3 rfl (by decide +kernel) (by decide) ⟨Nat.le_of_ble_eq_true rfl, Nat.le_of_ble_eq_true rfl⟩ rfl (Nat.le_of_ble_eq_true rfl) (det0 ?_)
            refine V_ifz_ne (tgt := 153) C dX8_isMade_146 (by decide) (fun zh146 => ?_) (fun zh146 => ?_)
            · refine V_iconst (v := 0) C dX8_isMade_153 (by decide) ?_
              refine V_istore_n (lv' := [(3, .int 0), (5, .int (ga u 3 (3 * n + 1))), (4, .int 1), (2, .int (ga u 1 (n))), (0, .ref (h 0)), (1, .int (nI n))]) C dX8_isMade_154 rfl (by decide) rfl ?_
              refine V_sub [0, 1, 2, 3, 4, 5] rfl ?_
              exact zj155 false (by first | rfl | (simp (decide := true) [b2i, gi_si, ga_si, gz_si, gl_si, gb_si, mPl_si, mGet_si, mNat_si, mSlot_si, mBy_si, mThr, zh127, zh131, zh146]; done) | (simp (decide := true) [b2i, gi_si, ga_si, gz_si, gl_si, gb_si, mPl_si, mGet_si, mNat_si, mSlot_si, mBy_si, mThr, zh127, zh131, zh146]; rfl) | (simp_all (decide := true) [b2i, gi_si, ga_si, gz_si, gl_si, gb_si, mPl_si, mGet_si, mNat_si, mSlot_si, mBy_si, mThr]; done))
            · refine V_iconst (v := 1) C dX8_isMade_149 (by decide) ?_
              refine V_goto (tgt := 154) C dX8_isMade_150 (by decide) ?_
              refine V_istore_n (lv' := [(3, .int 1), (5, .int (ga u 3 (3 * n + 1))), (4, .int 1), (2, .int (ga u 1 (n))), (0, .ref (h 0)), (1, .int (nI n))]) C dX8_isMade_154 rfl (by decide) rfl ?_
              refine V_sub [0, 1, 2, 3, 4, 5] rfl ?_
              exact zj155 true (by first | rfl | (simp (decide := true) [b2i, gi_si, ga_si, gz_si, gl_si, gb_si, mPl_si, mGet_si, mNat_si, mSlot_si, mBy_si, mThr, zh127, zh131, zh146]; done) | (simp (decide := true) [b2i, gi_si, ga_si, gz_si, gl_si, gb_si, mPl_si, mGet_si, mNat_si, mSlot_si, mBy_si, mThr, zh127, zh131, zh146]; rfl) | (simp_all (decide := true) [b2i, gi_si, ga_si, gz_si, gl_si, gb_si, mPl_si, mGet_si, mNat_si, mSlot_si, mBy_si, mThr]; done))
      intro xg8 e_xg8
      refine V_iinc (lv' := [(4, .int 2), (3, .int (b2i xg8)), (5, .int (ga u 3 (3 * n + 1))), (2, .int (ga u 1 (n))), (0, .ref (h 0)), (1, .int (nI n))]) C dX8_isMade_155 (j := 2) rfl (by decide) (by decide) rfl ?_
      refine V_goto (tgt := 12) C dX8_isMade_158 (by decide) ?_
      refine V_iload C dX8_isMade_12 0 rfl ?_
      refine V_iconst (v := 3) C dX8_isMade_14 (by decide) ?_
      refine V_icmp_ge (tgt := 161) C dX8_isMade_15 (by decide) (fun zh15 => ?_) (fun zh15 => ?_)
      · exact absurd zh15 (by decide)
      · refine V_aload_n C dX8_isMade_18 rfl 4 rfl ?_
        refine V_get (v := .ref (h 4)) C dX8_isMade_19 hi8 0 rfl rfl 3 (by decide) (List.mem_of_getElem? (i := 2) rfl) rfl rfl ?_
        refine V_iconst (v := 3) C dX8_isMade_22 (by decide) ?_
        refine V_iload_n C dX8_isMade_23 rfl 5 rfl ?_
        refine V_imul C dX8_isMade_24 ?_
        refine V_iload C dX8_isMade_25 0 rfl ?_
        refine V_iadd C dX8_isMade_27 ?_
        refine V_ialdn (v := (ga u 3 (3 * n + 2))) C dX8_isMade_28 3 0 rfl rfl (3 * n + 2) (ix3 n rfl 2 2 rfl (by omega)).1 ((ix3 n rfl 2 2 rfl (by omega)).2) rfl ?_
        refine V_istore (lv' := [(5, .int (ga u 3 (3 * n + 2))), (4, .int 2), (3, .int (b2i xg8)), (2, .int (ga u 1 (n))), (0, .ref (h 0)), (1, .int (nI n))]) C dX8_isMade_29 (by decide) rfl ?_
        suffices zj61 : ∀ xg9 : Bool, xg9 = (if mWr (ga u 1 (n)) 2 = true then (xg8 && !mOut (ga u 3 (3 * n + 2)) 1 31) else xg8) → V X 0 0 (mw K h u) 61 [(3, .int (b2i xg9)), (5, .int (ga u 3 (3 * n + 2))), (4, .int 2), (2, .int (ga u 1 (n))), (0, .ref (h 0)), (1, .int (nI n))] [] by
          refine V_iload_n C dX8_isMade_31 rfl 3 rfl ?_
          refine V_iload C dX8_isMade_32 1 rfl ?_
          refine V_calliS C dX8_isMade_34 (c_X8_isWritten l D K (mw K h u) (ga u 1 (n)) 2) gX8_isMade_X8_isWritten rfl 2 rfl (by decide +kernel) (by decide) ⟨Nat.le_of_ble_eq_true rfl, Nat.le_of_ble_eq_true rfl⟩ rfl (Nat.le_of_ble_eq_true rfl) (det0 ?_)
          refine V_ifz_eq (tgt := 61) C dX8_isMade_37 (by decide) (fun zh37 => ?_) (fun zh37 => ?_)
          · refine V_sub [2, 0, 1, 3, 4, 5] rfl ?_
            exact zj61 xg8 (by first | rfl | (simp (decide := true) [b2i, gi_si, ga_si, gz_si, gl_si, gb_si, mPl_si, mGet_si, mNat_si, mSlot_si, mBy_si, mThr, zh37]; done) | (simp (decide := true) [b2i, gi_si, ga_si, gz_si, gl_si, gb_si, mPl_si, mGet_si, mNat_si, mSlot_si, mBy_si, mThr, zh37]; rfl) | (simp_all (decide := true) [b2i, gi_si, ga_si, gz_si, gl_si, gb_si, mPl_si, mGet_si, mNat_si, mSlot_si, mBy_si, mThr]; done))
          · refine V_iload_n C dX8_isMade_40 rfl 2 rfl ?_
            refine V_ifz_eq (tgt := 59) C dX8_isMade_41 (by decide) (fun zh41 => ?_) (fun zh41 => ?_)
            · refine V_iconst (v := 0) C dX8_isMade_59 (by decide) ?_
              refine V_istore_n (lv' := [(3, .int 0), (5, .int (ga u 3 (3 * n + 2))), (4, .int 2), (2, .int (ga u 1 (n))), (0, .ref (h 0)), (1, .int (nI n))]) C dX8_isMade_60 rfl (by decide) rfl ?_
              refine V_sub [0, 1, 2, 3, 4, 5] rfl ?_
              exact zj61 false (by first | rfl | (simp (decide := true) [b2i, gi_si, ga_si, gz_si, gl_si, gb_si, mPl_si, mGet_si, mNat_si, mSlot_si, mBy_si, mThr, zh37, zh41]; done) | (simp (decide := true) [b2i, gi_si, ga_si, gz_si, gl_si, gb_si, mPl_si, mGet_si, mNat_si, mSlot_si, mBy_si, mThr, zh37, zh41]; rfl) | (simp_all (decide := true) [b2i, gi_si, ga_si, gz_si, gl_si, gb_si, mPl_si, mGet_si, mNat_si, mSlot_si, mBy_si, mThr]; done))
            · refine V_iload C dX8_isMade_44 0 rfl ?_
              refine V_iconst (v := 1) C dX8_isMade_46 (by decide) ?_
              refine V_bipush (v := 31) C dX8_isMade_47 (by decide) ?_
              refine V_calliS C dX8_isMade_49 (c_X8_out l D K (mw K h u) (ga u 3 (3 * n + 2)) 1 31) gX8_isMade_X8_out rfl 3 rfl (by decide +kernel) (by decide) ⟨Nat.le_of_ble_eq_true rfl, Nat.le_of_ble_eq_true rfl⟩ rfl (Nat.le_of_ble_eq_true rfl) (det0 ?_)
              refine V_ifz_ne (tgt := 59) C dX8_isMade_52 (by decide) (fun zh52 => ?_) (fun zh52 => ?_)
              · refine V_iconst (v := 0) C dX8_isMade_59 (by decide) ?_
                refine V_istore_n (lv' := [(3, .int 0), (5, .int (ga u 3 (3 * n + 2))), (4, .int 2), (2, .int (ga u 1 (n))), (0, .ref (h 0)), (1, .int (nI n))]) C dX8_isMade_60 rfl (by decide) rfl ?_
                refine V_sub [0, 1, 2, 3, 4, 5] rfl ?_
                exact zj61 false (by first | rfl | (simp (decide := true) [b2i, gi_si, ga_si, gz_si, gl_si, gb_si, mPl_si, mGet_si, mNat_si, mSlot_si, mBy_si, mThr, zh37, zh41, zh52]; done) | (simp (decide := true) [b2i, gi_si, ga_si, gz_si, gl_si, gb_si, mPl_si, mGet_si, mNat_si, mSlot_si, mBy_si, mThr, zh37, zh41, zh52]; rfl) | (simp_all (decide := true) [b2i, gi_si, ga_si, gz_si, gl_si, gb_si, mPl_si, mGet_si, mNat_si, mSlot_si, mBy_si, mThr]; done))
              · refine V_iconst (v := 1) C dX8_isMade_55 (by decide) ?_
                refine V_goto (tgt := 60) C dX8_isMade_56 (by decide) ?_
                refine V_istore_n (lv' := [(3, .int 1), (5, .int (ga u 3 (3 * n + 2))), (4, .int 2), (2, .int (ga u 1 (n))), (0, .ref (h 0)), (1, .int (nI n))]) C dX8_isMade_60 rfl (by decide) rfl ?_
                refine V_sub [0, 1, 2, 3, 4, 5] rfl ?_
                exact zj61 true (by first | rfl | (simp (decide := true) [b2i, gi_si, ga_si, gz_si, gl_si, gb_si, mPl_si, mGet_si, mNat_si, mSlot_si, mBy_si, mThr, zh37, zh41, zh52]; done) | (simp (decide := true) [b2i, gi_si, ga_si, gz_si, gl_si, gb_si, mPl_si, mGet_si, mNat_si, mSlot_si, mBy_si, mThr, zh37, zh41, zh52]; rfl) | (simp_all (decide := true) [b2i, gi_si, ga_si, gz_si, gl_si, gb_si, mPl_si, mGet_si, mNat_si, mSlot_si, mBy_si, mThr]; done))
        intro xg9 e_xg9
        suffices zj91 : ∀ xg10 : Bool, xg10 = (if mRd (ga u 1 (n)) 2 = true then (xg9 && !mOut (ga u 3 (3 * n + 2)) 0 31) else xg9) → V X 0 0 (mw K h u) 91 [(3, .int (b2i xg10)), (5, .int (ga u 3 (3 * n + 2))), (4, .int 2), (2, .int (ga u 1 (n))), (0, .ref (h 0)), (1, .int (nI n))] [] by
          refine V_iload_n C dX8_isMade_61 rfl 3 rfl ?_
          refine V_iload C dX8_isMade_62 2 rfl ?_
          refine V_calliS C dX8_isMade_64 (c_X8_isRead l D K (mw K h u) (ga u 1 (n)) 2) gX8_isMade_X8_isRead rfl 2 rfl (by decide +kernel) (by decide) ⟨Nat.le_of_ble_eq_true rfl, Nat.le_of_ble_eq_true rfl⟩ rfl (Nat.le_of_ble_eq_true rfl) (det0 ?_)
          refine V_ifz_eq (tgt := 91) C dX8_isMade_67 (by decide) (fun zh67 => ?_) (fun zh67 => ?_)
          · refine V_sub [0, 1, 2, 3, 4, 5] rfl ?_
            exact zj91 xg9 (by first | rfl | (simp (decide := true) [b2i, gi_si, ga_si, gz_si, gl_si, gb_si, mPl_si, mGet_si, mNat_si, mSlot_si, mBy_si, mThr, zh67]; done) | (simp (decide := true) [b2i, gi_si, ga_si, gz_si, gl_si, gb_si, mPl_si, mGet_si, mNat_si, mSlot_si, mBy_si, mThr, zh67]; rfl) | (simp_all (decide := true) [b2i, gi_si, ga_si, gz_si, gl_si, gb_si, mPl_si, mGet_si, mNat_si, mSlot_si, mBy_si, mThr]; done))
          · refine V_iload_n C dX8_isMade_70 rfl 0 rfl ?_
            refine V_ifz_eq (tgt := 89) C dX8_isMade_71 (by decide) (fun zh71 => ?_) (fun zh71 => ?_)
            · refine V_iconst (v := 0) C dX8_isMade_89 (by decide) ?_
              refine V_istore_n (lv' := [(3, .int 0), (5, .int (ga u 3 (3 * n + 2))), (4, .int 2), (2, .int (ga u 1 (n))), (0, .ref (h 0)), (1, .int (nI n))]) C dX8_isMade_90 rfl (by decide) rfl ?_
              refine V_sub [0, 1, 2, 3, 4, 5] rfl ?_
              exact zj91 false (by first | rfl | (simp (decide := true) [b2i, gi_si, ga_si, gz_si, gl_si, gb_si, mPl_si, mGet_si, mNat_si, mSlot_si, mBy_si, mThr, zh67, zh71]; done) | (simp (decide := true) [b2i, gi_si, ga_si, gz_si, gl_si, gb_si, mPl_si, mGet_si, mNat_si, mSlot_si, mBy_si, mThr, zh67, zh71]; rfl) | (simp_all (decide := true) [b2i, gi_si, ga_si, gz_si, gl_si, gb_si, mPl_si, mGet_si, mNat_si, mSlot_si, mBy_si, mThr]; done))
            · refine V_iload C dX8_isMade_74 1 rfl ?_
              refine V_iconst (v := 0) C dX8_isMade_76 (by decide) ?_
              refine V_bipush (v := 31) C dX8_isMade_77 (by decide) ?_
              refine V_calliS C dX8_isMade_79 (c_X8_out l D K (mw K h u) (ga u 3 (3 * n + 2)) 0 31) gX8_isMade_X8_out rfl 3 rfl (by decide +kernel) (by decide) ⟨Nat.le_of_ble_eq_true rfl, Nat.le_of_ble_eq_true rfl⟩ rfl (Nat.le_of_ble_eq_true rfl) (det0 ?_)
              refine V_ifz_ne (tgt := 89) C dX8_isMade_82 (by decide) (fun zh82 => ?_) (fun zh82 => ?_)
              · refine V_iconst (v := 0) C dX8_isMade_89 (by decide) ?_
                refine V_istore_n (lv' := [(3, .int 0), (5, .int (ga u 3 (3 * n + 2))), (4, .int 2), (2, .int (ga u 1 (n))), (0, .ref (h 0)), (1, .int (nI n))]) C dX8_isMade_90 rfl (by decide) rfl ?_
                refine V_sub [0, 1, 2, 3, 4, 5] rfl ?_
                exact zj91 false (by first | rfl | (simp (decide := true) [b2i, gi_si, ga_si, gz_si, gl_si, gb_si, mPl_si, mGet_si, mNat_si, mSlot_si, mBy_si, mThr, zh67, zh71, zh82]; done) | (simp (decide := true) [b2i, gi_si, ga_si, gz_si, gl_si, gb_si, mPl_si, mGet_si, mNat_si, mSlot_si, mBy_si, mThr, zh67, zh71, zh82]; rfl) | (simp_all (decide := true) [b2i, gi_si, ga_si, gz_si, gl_si, gb_si, mPl_si, mGet_si, mNat_si, mSlot_si, mBy_si, mThr]; done))
              · refine V_iconst (v := 1) C dX8_isMade_85 (by decide) ?_
                refine V_goto (tgt := 90) C dX8_isMade_86 (by decide) ?_
                refine V_istore_n (lv' := [(3, .int 1), (5, .int (ga u 3 (3 * n + 2))), (4, .int 2), (2, .int (ga u 1 (n))), (0, .ref (h 0)), (1, .int (nI n))]) C dX8_isMade_90 rfl (by decide) rfl ?_
                refine V_sub [0, 1, 2, 3, 4, 5] rfl ?_
                exact zj91 true (by first | rfl | (simp (decide := true) [b2i, gi_si, ga_si, gz_si, gl_si, gb_si, mPl_si, mGet_si, mNat_si, mSlot_si, mBy_si, mThr, zh67, zh71, zh82]; done) | (simp (decide := true) [b2i, gi_si, ga_si, gz_si, gl_si, gb_si, mPl_si, mGet_si, mNat_si, mSlot_si, mBy_si, mThr, zh67, zh71, zh82]; rfl) | (simp_all (decide := true) [b2i, gi_si, ga_si, gz_si, gl_si, gb_si, mPl_si, mGet_si, mNat_si, mSlot_si, mBy_si, mThr]; done))
        intro xg10 e_xg10
        suffices zj121 : ∀ xg11 : Bool, xg11 = (if mPr (ga u 1 (n)) 2 = true then (xg10 && !mOut (ga u 3 (3 * n + 2)) 1 14) else xg10) → V X 0 0 (mw K h u) 121 [(3, .int (b2i xg11)), (5, .int (ga u 3 (3 * n + 2))), (4, .int 2), (2, .int (ga u 1 (n))), (0, .ref (h 0)), (1, .int (nI n))] [] by
          refine V_iload_n C dX8_isMade_91 rfl 3 rfl ?_
          refine V_iload C dX8_isMade_92 2 rfl ?_
          refine V_calliS C dX8_isMade_94 (c_X8_isPredicate l D K (mw K h u) (ga u 1 (n)) 2) gX8_isMade_X8_isPredicate rfl 2 rfl (by decide +kernel) (by decide) ⟨Nat.le_of_ble_eq_true rfl, Nat.le_of_ble_eq_true rfl⟩ rfl (Nat.le_of_ble_eq_true rfl) (det0 ?_)
          refine V_ifz_eq (tgt := 121) C dX8_isMade_97 (by decide) (fun zh97 => ?_) (fun zh97 => ?_)
          · refine V_sub [0, 1, 2, 3, 4, 5] rfl ?_
            exact zj121 xg10 (by first | rfl | (simp (decide := true) [b2i, gi_si, ga_si, gz_si, gl_si, gb_si, mPl_si, mGet_si, mNat_si, mSlot_si, mBy_si, mThr, zh97]; done) | (simp (decide := true) [b2i, gi_si, ga_si, gz_si, gl_si, gb_si, mPl_si, mGet_si, mNat_si, mSlot_si, mBy_si, mThr, zh97]; rfl) | (simp_all (decide := true) [b2i, gi_si, ga_si, gz_si, gl_si, gb_si, mPl_si, mGet_si, mNat_si, mSlot_si, mBy_si, mThr]; done))
          · refine V_iload_n C dX8_isMade_100 rfl 0 rfl ?_
            refine V_ifz_eq (tgt := 119) C dX8_isMade_101 (by decide) (fun zh101 => ?_) (fun zh101 => ?_)
            · refine V_iconst (v := 0) C dX8_isMade_119 (by decide) ?_
              refine V_istore_n (lv' := [(3, .int 0), (5, .int (ga u 3 (3 * n + 2))), (4, .int 2), (2, .int (ga u 1 (n))), (0, .ref (h 0)), (1, .int (nI n))]) C dX8_isMade_120 rfl (by decide) rfl ?_
              refine V_sub [0, 1, 2, 3, 4, 5] rfl ?_
              exact zj121 false (by first | rfl | (simp (decide := true) [b2i, gi_si, ga_si, gz_si, gl_si, gb_si, mPl_si, mGet_si, mNat_si, mSlot_si, mBy_si, mThr, zh97, zh101]; done) | (simp (decide := true) [b2i, gi_si, ga_si, gz_si, gl_si, gb_si, mPl_si, mGet_si, mNat_si, mSlot_si, mBy_si, mThr, zh97, zh101]; rfl) | (simp_all (decide := true) [b2i, gi_si, ga_si, gz_si, gl_si, gb_si, mPl_si, mGet_si, mNat_si, mSlot_si, mBy_si, mThr]; done))
            · refine V_iload C dX8_isMade_104 1 rfl ?_
              refine V_iconst (v := 1) C dX8_isMade_106 (by decide) ?_
              refine V_bipush (v := 14) C dX8_isMade_107 (by decide) ?_
              refine V_calliS C dX8_isMade_109 (c_X8_out l D K (mw K h u) (ga u 3 (3 * n + 2)) 1 14) gX8_isMade_X8_out rfl 3 rfl (by decide +kernel) (by decide) ⟨Nat.le_of_ble_eq_true rfl, Nat.le_of_ble_eq_true rfl⟩ rfl (Nat.le_of_ble_eq_true rfl) (det0 ?_)
              refine V_ifz_ne (tgt := 119) C dX8_isMade_112 (by decide) (fun zh112 => ?_) (fun zh112 => ?_)
              · refine V_iconst (v := 0) C dX8_isMade_119 (by decide) ?_
                refine V_istore_n (lv' := [(3, .int 0), (5, .int (ga u 3 (3 * n + 2))), (4, .int 2), (2, .int (ga u 1 (n))), (0, .ref (h 0)), (1, .int (nI n))]) C dX8_isMade_120 rfl (by decide) rfl ?_
                refine V_sub [0, 1, 2, 3, 4, 5] rfl ?_
                exact zj121 false (by first | rfl | (simp (decide := true) [b2i, gi_si, ga_si, gz_si, gl_si, gb_si, mPl_si, mGet_si, mNat_si, mSlot_si, mBy_si, mThr, zh97, zh101, zh112]; done) | (simp (decide := true) [b2i, gi_si, ga_si, gz_si, gl_si, gb_si, mPl_si, mGet_si, mNat_si, mSlot_si, mBy_si, mThr, zh97, zh101, zh112]; rfl) | (simp_all (decide := true) [b2i, gi_si, ga_si, gz_si, gl_si, gb_si, mPl_si, mGet_si, mNat_si, mSlot_si, mBy_si, mThr]; done))
              · refine V_iconst (v := 1) C dX8_isMade_115 (by decide) ?_
                refine V_goto (tgt := 120) C dX8_isMade_116 (by decide) ?_
                refine V_istore_n (lv' := [(3, .int 1), (5, .int (ga u 3 (3 * n + 2))), (4, .int 2), (2, .int (ga u 1 (n))), (0, .ref (h 0)), (1, .int (nI n))]) C dX8_isMade_120 rfl (by decide) rfl ?_
                refine V_sub [0, 1, 2, 3, 4, 5] rfl ?_
                exact zj121 true (by first | rfl | (simp (decide := true) [b2i, gi_si, ga_si, gz_si, gl_si, gb_si, mPl_si, mGet_si, mNat_si, mSlot_si, mBy_si, mThr, zh97, zh101, zh112]; done) | (simp (decide := true) [b2i, gi_si, ga_si, gz_si, gl_si, gb_si, mPl_si, mGet_si, mNat_si, mSlot_si, mBy_si, mThr, zh97, zh101, zh112]; rfl) | (simp_all (decide := true) [b2i, gi_si, ga_si, gz_si, gl_si, gb_si, mPl_si, mGet_si, mNat_si, mSlot_si, mBy_si, mThr]; done))
        intro xg11 e_xg11
        suffices zj155 : ∀ xg12 : Bool, xg12 = (if mTg (ga u 1 (n)) 2 = true then (xg11 && !mOut (ga u 3 (3 * n + 2)) 0 ((gi u 5) - 1)) else xg11) → V X 0 0 (mw K h u) 155 [(3, .int (b2i xg12)), (5, .int (ga u 3 (3 * n + 2))), (4, .int 2), (2, .int (ga u 1 (n))), (0, .ref (h 0)), (1, .int (nI n))] [] by
          refine V_iload_n C dX8_isMade_121 rfl 3 rfl ?_
          refine V_iload C dX8_isMade_122 2 rfl ?_
          refine V_calliS C dX8_isMade_124 (c_X8_isTarget l D K (mw K h u) (ga u 1 (n)) 2) gX8_isMade_X8_isTarget rfl 2 rfl (by decide +kernel) (by decide) ⟨Nat.le_of_ble_eq_true rfl, Nat.le_of_ble_eq_true rfl⟩ rfl (Nat.le_of_ble_eq_true rfl) (det0 ?_)
          refine V_ifz_eq (tgt := 155) C dX8_isMade_127 (by decide) (fun zh127 => ?_) (fun zh127 => ?_)
          · refine V_sub [0, 1, 2, 3, 4, 5] rfl ?_
            exact zj155 xg11 (by first | rfl | (simp (decide := true) [b2i, gi_si, ga_si, gz_si, gl_si, gb_si, mPl_si, mGet_si, mNat_si, mSlot_si, mBy_si, mThr, zh127]; done) | (simp (decide := true) [b2i, gi_si, ga_si, gz_si, gl_si, gb_si, mPl_si, mGet_si, mNat_si, mSlot_si, mBy_si, mThr, zh127]; rfl) | (simp_all (decide := true) [b2i, gi_si, ga_si, gz_si, gl_si, gb_si, mPl_si, mGet_si, mNat_si, mSlot_si, mBy_si, mThr]; done))
          · refine V_iload_n C dX8_isMade_130 rfl 0 rfl ?_
            refine V_ifz_eq (tgt := 153) C dX8_isMade_131 (by decide) (fun zh131 => ?_) (fun zh131 => ?_)
            · refine V_iconst (v := 0) C dX8_isMade_153 (by decide) ?_
              refine V_istore_n (lv' := [(3, .int 0), (5, .int (ga u 3 (3 * n + 2))), (4, .int 2), (2, .int (ga u 1 (n))), (0, .ref (h 0)), (1, .int (nI n))]) C dX8_isMade_154 rfl (by decide) rfl ?_
              refine V_sub [0, 1, 2, 3, 4, 5] rfl ?_
              exact zj155 false (by first | rfl | (simp (decide := true) [b2i, gi_si, ga_si, gz_si, gl_si, gb_si, mPl_si, mGet_si, mNat_si, mSlot_si, mBy_si, mThr, zh127, zh131]; done) | (simp (decide := true) [b2i, gi_si, ga_si, gz_si, gl_si, gb_si, mPl_si, mGet_si, mNat_si, mSlot_si, mBy_si, mThr, zh127, zh131]; rfl) | (simp_all (decide := true) [b2i, gi_si, ga_si, gz_si, gl_si, gb_si, mPl_si, mGet_si, mNat_si, mSlot_si, mBy_si, mThr]; done))
            · refine V_iload C dX8_isMade_134 1 rfl ?_
              refine V_iconst (v := 0) C dX8_isMade_136 (by decide) ?_
              refine V_aload_n C dX8_isMade_137 rfl 4 rfl ?_
              refine V_get (v := .int (gi u 5)) C dX8_isMade_138 hi8 0 rfl rfl 5 (by decide) (List.mem_of_getElem? (i := 3) rfl) rfl rfl ?_
              refine V_iconst (v := 1) C dX8_isMade_141 (by decide) ?_
              refine V_isub C dX8_isMade_142 ?_
              refine V_calliS C dX8_isMade_143 (c_X8_out l D K (mw K h u) (ga u 3 (3 * n + 2)) 0 ((gi u 5) - 1)) gX8_isMade_X8_out rfl 3 rfl (by decide +kernel) (by decide) ⟨Nat.le_of_ble_eq_true rfl, Nat.le_of_ble_eq_true rfl⟩ rfl (Nat.le_of_ble_eq_true rfl) (det0 ?_)
              refine V_ifz_ne (tgt := 153) C dX8_isMade_146 (by decide) (fun zh146 => ?_) (fun zh146 => ?_)
              · refine V_iconst (v := 0) C dX8_isMade_153 (by decide) ?_
                refine V_istore_n (lv' := [(3, .int 0), (5, .int (ga u 3 (3 * n + 2))), (4, .int 2), (2, .int (ga u 1 (n))), (0, .ref (h 0)), (1, .int (nI n))]) C dX8_isMade_154 rfl (by decide) rfl ?_
                refine V_sub [0, 1, 2, 3, 4, 5] rfl ?_
                exact zj155 false (by first | rfl | (simp (decide := true) [b2i, gi_si, ga_si, gz_si, gl_si, gb_si, mPl_si, mGet_si, mNat_si, mSlot_si, mBy_si, mThr, zh127, zh131, zh146]; done) | (simp (decide := true) [b2i, gi_si, ga_si, gz_si, gl_si, gb_si, mPl_si, mGet_si, mNat_si, mSlot_si, mBy_si, mThr, zh127, zh131, zh146]; rfl) | (simp_all (decide := true) [b2i, gi_si, ga_si, gz_si, gl_si, gb_si, mPl_si, mGet_si, mNat_si, mSlot_si, mBy_si, mThr]; done))
              · refine V_iconst (v := 1) C dX8_isMade_149 (by decide) ?_
                refine V_goto (tgt := 154) C dX8_isMade_150 (by decide) ?_
                refine V_istore_n (lv' := [(3, .int 1), (5, .int (ga u 3 (3 * n + 2))), (4, .int 2), (2, .int (ga u 1 (n))), (0, .ref (h 0)), (1, .int (nI n))]) C dX8_isMade_154 rfl (by decide) rfl ?_
                refine V_sub [0, 1, 2, 3, 4, 5] rfl ?_
                exact zj155 true (by first | rfl | (simp (decide := true) [b2i, gi_si, ga_si, gz_si, gl_si, gb_si, mPl_si, mGet_si, mNat_si, mSlot_si, mBy_si, mThr, zh127, zh131, zh146]; done) | (simp (decide := true) [b2i, gi_si, ga_si, gz_si, gl_si, gb_si, mPl_si, mGet_si, mNat_si, mSlot_si, mBy_si, mThr, zh127, zh131, zh146]; rfl) | (simp_all (decide := true) [b2i, gi_si, ga_si, gz_si, gl_si, gb_si, mPl_si, mGet_si, mNat_si, mSlot_si, mBy_si, mThr]; done))
        intro xg12 e_xg12
        refine V_iinc (lv' := [(4, .int 3), (3, .int (b2i xg12)), (5, .int (ga u 3 (3 * n + 2))), (2, .int (ga u 1 (n))), (0, .ref (h 0)), (1, .int (nI n))]) C dX8_isMade_155 (j := 2) rfl (by decide) (by decide) rfl ?_
        refine V_goto (tgt := 12) C dX8_isMade_158 (by decide) ?_
        refine V_iload C dX8_isMade_12 0 rfl ?_
        refine V_iconst (v := 3) C dX8_isMade_14 (by decide) ?_
        refine V_icmp_ge (tgt := 161) C dX8_isMade_15 (by decide) (fun zh15 => ?_) (fun zh15 => ?_)
        · have zg : xg12 = mMk (gi u 5) (ga u 1 n) (ga u 3 (3 * n + 2)) 2 (mMk (gi u 5) (ga u 1 n) (ga u 3 (3 * n + 1)) 1 (mMk (gi u 5) (ga u 1 n) (ga u 3 (3 * n)) 0 true)) := by
            have za : xg4 = mMk (gi u 5) (ga u 1 n) (ga u 3 (3 * n)) 0 true := by rw [e_xg4, e_xg3, e_xg2, e_xg1]; rfl
            have zb : xg8 = mMk (gi u 5) (ga u 1 n) (ga u 3 (3 * n + 1)) 1 xg4 := by rw [e_xg8, e_xg7, e_xg6, e_xg5]; rfl
            have zc : xg12 = mMk (gi u 5) (ga u 1 n) (ga u 3 (3 * n + 2)) 2 xg8 := by rw [e_xg12, e_xg11, e_xg10, e_xg9]; rfl
            rw [zc, zb, za]
          refine V_aload_n C dX8_isMade_161 rfl 4 rfl ?_
          refine V_get (v := .ref (h 4)) C dX8_isMade_162 hi8 0 rfl rfl 3 (by decide) (List.mem_of_getElem? (i := 2) rfl) rfl rfl ?_
          refine V_iconst (v := 3) C dX8_isMade_165 (by decide) ?_
          refine V_iload_n C dX8_isMade_166 rfl 5 rfl ?_
          refine V_imul C dX8_isMade_167 ?_
          refine V_ialdn (v := (ga u 3 (3 * n))) C dX8_isMade_168 3 0 rfl rfl (3 * n) (ix30 n rfl (by omega)).1 ((ix30 n rfl (by omega)).2) rfl ?_
          refine V_istore (lv' := [(4, .int (ga u 3 (3 * n))), (3, .int (b2i xg12)), (5, .int (ga u 3 (3 * n + 2))), (2, .int (ga u 1 (n))), (0, .ref (h 0)), (1, .int (nI n))]) C dX8_isMade_169 (by decide) rfl ?_
          refine V_aload_n C dX8_isMade_171 rfl 4 rfl ?_
          refine V_get (v := .ref (h 4)) C dX8_isMade_172 hi8 0 rfl rfl 3 (by decide) (List.mem_of_getElem? (i := 2) rfl) rfl rfl ?_
          refine V_iconst (v := 3) C dX8_isMade_175 (by decide) ?_
          refine V_iload_n C dX8_isMade_176 rfl 5 rfl ?_
          refine V_imul C dX8_isMade_177 ?_
          refine V_iconst (v := 1) C dX8_isMade_178 (by decide) ?_
          refine V_iadd C dX8_isMade_179 ?_
          refine V_ialdn (v := (ga u 3 (3 * n + 1))) C dX8_isMade_180 3 0 rfl rfl (3 * n + 1) (ix3 n rfl 1 1 rfl (by omega)).1 ((ix3 n rfl 1 1 rfl (by omega)).2) rfl ?_
          refine V_istore (lv' := [(5, .int (ga u 3 (3 * n + 1))), (4, .int (ga u 3 (3 * n))), (3, .int (b2i xg12)), (2, .int (ga u 1 (n))), (0, .ref (h 0)), (1, .int (nI n))]) C dX8_isMade_181 (by decide) rfl ?_
          refine V_aload_n C dX8_isMade_183 rfl 4 rfl ?_
          refine V_get (v := .ref (h 4)) C dX8_isMade_184 hi8 0 rfl rfl 3 (by decide) (List.mem_of_getElem? (i := 2) rfl) rfl rfl ?_
          refine V_iconst (v := 3) C dX8_isMade_187 (by decide) ?_
          refine V_iload_n C dX8_isMade_188 rfl 5 rfl ?_
          refine V_imul C dX8_isMade_189 ?_
          refine V_iconst (v := 2) C dX8_isMade_190 (by decide) ?_
          refine V_iadd C dX8_isMade_191 ?_
          refine V_ialdn (v := (ga u 3 (3 * n + 2))) C dX8_isMade_192 3 0 rfl rfl (3 * n + 2) (ix3 n rfl 2 2 rfl (by omega)).1 ((ix3 n rfl 2 2 rfl (by omega)).2) rfl ?_
          refine V_istore (lv' := [(6, .int (ga u 3 (3 * n + 2))), (5, .int (ga u 3 (3 * n + 1))), (4, .int (ga u 3 (3 * n))), (3, .int (b2i xg12)), (2, .int (ga u 1 (n))), (0, .ref (h 0)), (1, .int (nI n))]) C dX8_isMade_193 (by decide) rfl ?_
          refine V_iload_n C dX8_isMade_195 rfl 4 rfl ?_
          refine V_bipush (v := 18) C dX8_isMade_196 (by decide) ?_
          refine V_icmp_ne (tgt := 229) C dX8_isMade_198 (by decide) (fun zh198 => ?_) (fun zh198 => ?_)
          · refine V_iload_n C dX8_isMade_229 rfl 4 rfl ?_
            refine V_bipush (v := 17) C dX8_isMade_230 (by decide) ?_
            refine V_icmp_ne (tgt := 289) C dX8_isMade_232 (by decide) (fun zh232 => ?_) (fun zh232 => ?_)
            · refine V_iload_n C dX8_isMade_289 rfl 3 rfl ?_
              exact E (b2i xg12) u _ _ dX8_isMade_290 (nar_b2i _) ⟨by unfold mMade mMade3; rw [if_neg zh198, if_neg zh232, zg], by first | rfl | (simp (decide := true) [b2i, gi_si, ga_si, gz_si, gl_si, gb_si, mPl_si, mGet_si, mNat_si, mSlot_si, mBy_si, mThr, zh198, zh232]; done) | (simp (decide := true) [b2i, gi_si, ga_si, gz_si, gl_si, gb_si, mPl_si, mGet_si, mNat_si, mSlot_si, mBy_si, mThr, zh198, zh232]; rfl) | (simp_all (decide := true) [b2i, gi_si, ga_si, gz_si, gl_si, gb_si, mPl_si, mGet_si, mNat_si, mSlot_si, mBy_si, mThr]; done)⟩
            · refine V_iload C dX8_isMade_235 2 rfl ?_
              refine V_iconst (v := 0) C dX8_isMade_237 (by decide) ?_
              refine V_bipush (v := 24) C dX8_isMade_238 (by decide) ?_
              refine V_calliS C dX8_isMade_240 (c_X8_out l D K (mw K h u) (ga u 3 (3 * n)) 0 24) gX8_isMade_X8_out rfl 3 rfl (by decide +kernel) (by decide) ⟨Nat.le_of_ble_eq_true rfl, Nat.le_of_ble_eq_true rfl⟩ rfl (Nat.le_of_ble_eq_true rfl) (det0 ?_)
              refine V_ifz_ne (tgt := 287) C dX8_isMade_243 (by decide) (fun zh243 => ?_) (fun zh243 => ?_)
              · refine V_iconst (v := 0) C dX8_isMade_287 (by decide) ?_
                exact E 0 u _ _ dX8_isMade_288 rfl ⟨by simp (decide := true) [mMade, mMade3, b2i, zh198, zh232, zh243], by first | rfl | (simp (decide := true) [b2i, gi_si, ga_si, gz_si, gl_si, gb_si, mPl_si, mGet_si, mNat_si, mSlot_si, mBy_si, mThr, zh198, zh232, zh243]; done) | (simp (decide := true) [b2i, gi_si, ga_si, gz_si, gl_si, gb_si, mPl_si, mGet_si, mNat_si, mSlot_si, mBy_si, mThr, zh198, zh232, zh243]; rfl) | (simp_all (decide := true) [b2i, gi_si, ga_si, gz_si, gl_si, gb_si, mPl_si, mGet_si, mNat_si, mSlot_si, mBy_si, mThr]; done)⟩
              · refine V_iload C dX8_isMade_246 1 rfl ?_
                refine V_iconst (v := 0) C dX8_isMade_248 (by decide) ?_
                refine V_iload C dX8_isMade_249 2 rfl ?_
                refine V_calliS C dX8_isMade_251 (c_X8_out l D K (mw K h u) (ga u 3 (3 * n + 1)) 0 (ga u 3 (3 * n))) gX8_isMade_X8_out rfl 3 rfl (by decide +kernel) (by decide) ⟨Nat.le_of_ble_eq_true rfl, Nat.le_of_ble_eq_true rfl⟩ rfl (Nat.le_of_ble_eq_true rfl) (det0 ?_)
                refine V_ifz_ne (tgt := 287) C dX8_isMade_254 (by decide) (fun zh254 => ?_) (fun zh254 => ?_)
                · refine V_iconst (v := 0) C dX8_isMade_287 (by decide) ?_
                  exact E 0 u _ _ dX8_isMade_288 rfl ⟨by simp (decide := true) [mMade, mMade3, b2i, zh198, zh232, zh243, zh254], by first | rfl | (simp (decide := true) [b2i, gi_si, ga_si, gz_si, gl_si, gb_si, mPl_si, mGet_si, mNat_si, mSlot_si, mBy_si, mThr, zh198, zh232, zh243, zh254]; done) | (simp (decide := true) [b2i, gi_si, ga_si, gz_si, gl_si, gb_si, mPl_si, mGet_si, mNat_si, mSlot_si, mBy_si, mThr, zh198, zh232, zh243, zh254]; rfl) | (simp_all (decide := true) [b2i, gi_si, ga_si, gz_si, gl_si, gb_si, mPl_si, mGet_si, mNat_si, mSlot_si, mBy_si, mThr]; done)⟩
                · refine V_iload C dX8_isMade_257 0 rfl ?_
                  refine V_if_eq (tgt := 276) C dX8_isMade_259 (by decide) (fun zh259 => ?_) (fun zh259 => ?_)
                  · refine V_iload C dX8_isMade_276 0 rfl ?_
                    refine V_iload C dX8_isMade_278 2 rfl ?_
                    refine V_icmp_gt (tgt := 287) C dX8_isMade_280 (by decide) (fun zh280 => ?_) (fun zh280 => ?_)
                    · refine V_iconst (v := 0) C dX8_isMade_287 (by decide) ?_
                      exact E 0 u _ _ dX8_isMade_288 rfl ⟨by unfold mMade mMade3; rw [if_neg zh198, if_pos zh232, zh243, zh254, decide_eq_true (show (ga u 3 (3 * n + 2) = 0 ∨ ga u 3 (3 * n + 2) = 8 ∨ ga u 3 (3 * n + 2) = 16) from Or.inl zh259), decide_eq_false (Int32.not_le.mpr zh280)]; rfl, by first | rfl | (simp (decide := true) [b2i, gi_si, ga_si, gz_si, gl_si, gb_si, mPl_si, mGet_si, mNat_si, mSlot_si, mBy_si, mThr, zh198, zh232, zh243, zh254, zh259, zh280, Int32.not_le.mpr zh280]; done) | (simp (decide := true) [b2i, gi_si, ga_si, gz_si, gl_si, gb_si, mPl_si, mGet_si, mNat_si, mSlot_si, mBy_si, mThr, zh198, zh232, zh243, zh254, zh259, zh280, Int32.not_le.mpr zh280]; rfl) | (simp_all (decide := true) [b2i, gi_si, ga_si, gz_si, gl_si, gb_si, mPl_si, mGet_si, mNat_si, mSlot_si, mBy_si, mThr]; done)⟩
                    · refine V_iconst (v := 1) C dX8_isMade_283 (by decide) ?_
                      refine V_goto (tgt := 288) C dX8_isMade_284 (by decide) ?_
                      exact E 1 u _ _ dX8_isMade_288 rfl ⟨by unfold mMade mMade3; rw [if_neg zh198, if_pos zh232, zh243, zh254, decide_eq_true (show (ga u 3 (3 * n + 2) = 0 ∨ ga u 3 (3 * n + 2) = 8 ∨ ga u 3 (3 * n + 2) = 16) from Or.inl zh259), decide_eq_true (Int32.not_lt.mp zh280)]; rfl, by first | rfl | (simp (decide := true) [b2i, gi_si, ga_si, gz_si, gl_si, gb_si, mPl_si, mGet_si, mNat_si, mSlot_si, mBy_si, mThr, zh198, zh232, zh243, zh254, zh259, zh280, Int32.not_lt.mp zh280]; done) | (simp (decide := true) [b2i, gi_si, ga_si, gz_si, gl_si, gb_si, mPl_si, mGet_si, mNat_si, mSlot_si, mBy_si, mThr, zh198, zh232, zh243, zh254, zh259, zh280, Int32.not_lt.mp zh280]; rfl) | (simp_all (decide := true) [b2i, gi_si, ga_si, gz_si, gl_si, gb_si, mPl_si, mGet_si, mNat_si, mSlot_si, mBy_si, mThr]; done)⟩
                  · refine V_iload C dX8_isMade_262 0 rfl ?_
                    refine V_bipush (v := 8) C dX8_isMade_264 (by decide) ?_
                    refine V_icmp_eq (tgt := 276) C dX8_isMade_266 (by decide) (fun zh266 => ?_) (fun zh266 => ?_)
                    · refine V_iload C dX8_isMade_276 0 rfl ?_
                      refine V_iload C dX8_isMade_278 2 rfl ?_
                      refine V_icmp_gt (tgt := 287) C dX8_isMade_280 (by decide) (fun zh280 => ?_) (fun zh280 => ?_)
                      · refine V_iconst (v := 0) C dX8_isMade_287 (by decide) ?_
                        exact E 0 u _ _ dX8_isMade_288 rfl ⟨by unfold mMade mMade3; rw [if_neg zh198, if_pos zh232, zh243, zh254, decide_eq_true (show (ga u 3 (3 * n + 2) = 0 ∨ ga u 3 (3 * n + 2) = 8 ∨ ga u 3 (3 * n + 2) = 16) from Or.inr (Or.inl zh266)), decide_eq_false (Int32.not_le.mpr zh280)]; rfl, by first | rfl | (simp (decide := true) [b2i, gi_si, ga_si, gz_si, gl_si, gb_si, mPl_si, mGet_si, mNat_si, mSlot_si, mBy_si, mThr, zh198, zh232, zh243, zh254, zh259, zh266, zh280, Int32.not_le.mpr zh280]; done) | (simp (decide := true) [b2i, gi_si, ga_si, gz_si, gl_si, gb_si, mPl_si, mGet_si, mNat_si, mSlot_si, mBy_si, mThr, zh198, zh232, zh243, zh254, zh259, zh266, zh280, Int32.not_le.mpr zh280]; rfl) | (simp_all (decide := true) [b2i, gi_si, ga_si, gz_si, gl_si, gb_si, mPl_si, mGet_si, mNat_si, mSlot_si, mBy_si, mThr]; done)⟩
                      · refine V_iconst (v := 1) C dX8_isMade_283 (by decide) ?_
                        refine V_goto (tgt := 288) C dX8_isMade_284 (by decide) ?_
                        exact E 1 u _ _ dX8_isMade_288 rfl ⟨by unfold mMade mMade3; rw [if_neg zh198, if_pos zh232, zh243, zh254, decide_eq_true (show (ga u 3 (3 * n + 2) = 0 ∨ ga u 3 (3 * n + 2) = 8 ∨ ga u 3 (3 * n + 2) = 16) from Or.inr (Or.inl zh266)), decide_eq_true (Int32.not_lt.mp zh280)]; rfl, by first | rfl | (simp (decide := true) [b2i, gi_si, ga_si, gz_si, gl_si, gb_si, mPl_si, mGet_si, mNat_si, mSlot_si, mBy_si, mThr, zh198, zh232, zh243, zh254, zh259, zh266, zh280, Int32.not_lt.mp zh280]; done) | (simp (decide := true) [b2i, gi_si, ga_si, gz_si, gl_si, gb_si, mPl_si, mGet_si, mNat_si, mSlot_si, mBy_si, mThr, zh198, zh232, zh243, zh254, zh259, zh266, zh280, Int32.not_lt.mp zh280]; rfl) | (simp_all (decide := true) [b2i, gi_si, ga_si, gz_si, gl_si, gb_si, mPl_si, mGet_si, mNat_si, mSlot_si, mBy_si, mThr]; done)⟩
                    · refine V_iload C dX8_isMade_269 0 rfl ?_
                      refine V_bipush (v := 16) C dX8_isMade_271 (by decide) ?_
                      refine V_icmp_ne (tgt := 287) C dX8_isMade_273 (by decide) (fun zh273 => ?_) (fun zh273 => ?_)
                      · refine V_iconst (v := 0) C dX8_isMade_287 (by decide) ?_
                        exact E 0 u _ _ dX8_isMade_288 rfl ⟨by simp (decide := true) [mMade, mMade3, b2i, zh198, zh232, zh243, zh254, zh259, zh266, zh273], by first | rfl | (simp (decide := true) [b2i, gi_si, ga_si, gz_si, gl_si, gb_si, mPl_si, mGet_si, mNat_si, mSlot_si, mBy_si, mThr, zh198, zh232, zh243, zh254, zh259, zh266, zh273]; done) | (simp (decide := true) [b2i, gi_si, ga_si, gz_si, gl_si, gb_si, mPl_si, mGet_si, mNat_si, mSlot_si, mBy_si, mThr, zh198, zh232, zh243, zh254, zh259, zh266, zh273]; rfl) | (simp_all (decide := true) [b2i, gi_si, ga_si, gz_si, gl_si, gb_si, mPl_si, mGet_si, mNat_si, mSlot_si, mBy_si, mThr]; done)⟩
                      · refine V_iload C dX8_isMade_276 0 rfl ?_
                        refine V_iload C dX8_isMade_278 2 rfl ?_
                        refine V_icmp_gt (tgt := 287) C dX8_isMade_280 (by decide) (fun zh280 => ?_) (fun zh280 => ?_)
                        · refine V_iconst (v := 0) C dX8_isMade_287 (by decide) ?_
                          exact E 0 u _ _ dX8_isMade_288 rfl ⟨by unfold mMade mMade3; rw [if_neg zh198, if_pos zh232, zh243, zh254, decide_eq_true (show (ga u 3 (3 * n + 2) = 0 ∨ ga u 3 (3 * n + 2) = 8 ∨ ga u 3 (3 * n + 2) = 16) from Or.inr (Or.inr zh273)), decide_eq_false (Int32.not_le.mpr zh280)]; rfl, by first | rfl | (simp (decide := true) [b2i, gi_si, ga_si, gz_si, gl_si, gb_si, mPl_si, mGet_si, mNat_si, mSlot_si, mBy_si, mThr, zh198, zh232, zh243, zh254, zh259, zh266, zh273, zh280, Int32.not_le.mpr zh280]; done) | (simp (decide := true) [b2i, gi_si, ga_si, gz_si, gl_si, gb_si, mPl_si, mGet_si, mNat_si, mSlot_si, mBy_si, mThr, zh198, zh232, zh243, zh254, zh259, zh266, zh273, zh280, Int32.not_le.mpr zh280]; rfl) | (simp_all (decide := true) [b2i, gi_si, ga_si, gz_si, gl_si, gb_si, mPl_si, mGet_si, mNat_si, mSlot_si, mBy_si, mThr]; done)⟩
                        · refine V_iconst (v := 1) C dX8_isMade_283 (by decide) ?_
                          refine V_goto (tgt := 288) C dX8_isMade_284 (by decide) ?_
                          exact E 1 u _ _ dX8_isMade_288 rfl ⟨by unfold mMade mMade3; rw [if_neg zh198, if_pos zh232, zh243, zh254, decide_eq_true (show (ga u 3 (3 * n + 2) = 0 ∨ ga u 3 (3 * n + 2) = 8 ∨ ga u 3 (3 * n + 2) = 16) from Or.inr (Or.inr zh273)), decide_eq_true (Int32.not_lt.mp zh280)]; rfl, by first | rfl | (simp (decide := true) [b2i, gi_si, ga_si, gz_si, gl_si, gb_si, mPl_si, mGet_si, mNat_si, mSlot_si, mBy_si, mThr, zh198, zh232, zh243, zh254, zh259, zh266, zh273, zh280, Int32.not_lt.mp zh280]; done) | (simp (decide := true) [b2i, gi_si, ga_si, gz_si, gl_si, gb_si, mPl_si, mGet_si, mNat_si, mSlot_si, mBy_si, mThr, zh198, zh232, zh243, zh254, zh259, zh266, zh273, zh280, Int32.not_lt.mp zh280]; rfl) | (simp_all (decide := true) [b2i, gi_si, ga_si, gz_si, gl_si, gb_si, mPl_si, mGet_si, mNat_si, mSlot_si, mBy_si, mThr]; done)⟩
          · refine V_iload C dX8_isMade_201 2 rfl ?_
            refine V_iconst (v := 0) C dX8_isMade_203 (by decide) ?_
            refine V_bipush (v := 20) C dX8_isMade_204 (by decide) ?_
            refine V_calliS C dX8_isMade_206 (c_X8_out l D K (mw K h u) (ga u 3 (3 * n)) 0 20) gX8_isMade_X8_out rfl 3 rfl (by decide +kernel) (by decide) ⟨Nat.le_of_ble_eq_true rfl, Nat.le_of_ble_eq_true rfl⟩ rfl (Nat.le_of_ble_eq_true rfl) (det0 ?_)
            refine V_ifz_ne (tgt := 227) C dX8_isMade_209 (by decide) (fun zh209 => ?_) (fun zh209 => ?_)
            · refine V_iconst (v := 0) C dX8_isMade_227 (by decide) ?_
              exact E 0 u _ _ dX8_isMade_228 rfl ⟨by simp (decide := true) [mMade, mMade3, b2i, zh198, zh209], by first | rfl | (simp (decide := true) [b2i, gi_si, ga_si, gz_si, gl_si, gb_si, mPl_si, mGet_si, mNat_si, mSlot_si, mBy_si, mThr, zh198, zh209]; done) | (simp (decide := true) [b2i, gi_si, ga_si, gz_si, gl_si, gb_si, mPl_si, mGet_si, mNat_si, mSlot_si, mBy_si, mThr, zh198, zh209]; rfl) | (simp_all (decide := true) [b2i, gi_si, ga_si, gz_si, gl_si, gb_si, mPl_si, mGet_si, mNat_si, mSlot_si, mBy_si, mThr]; done)⟩
            · refine V_iload C dX8_isMade_212 1 rfl ?_
              refine V_iconst (v := 0) C dX8_isMade_214 (by decide) ?_
              refine V_bipush (v := 20) C dX8_isMade_215 (by decide) ?_
              refine V_calliS C dX8_isMade_217 (c_X8_out l D K (mw K h u) (ga u 3 (3 * n + 1)) 0 20) gX8_isMade_X8_out rfl 3 rfl (by decide +kernel) (by decide) ⟨Nat.le_of_ble_eq_true rfl, Nat.le_of_ble_eq_true rfl⟩ rfl (Nat.le_of_ble_eq_true rfl) (det0 ?_)
              refine V_ifz_ne (tgt := 227) C dX8_isMade_220 (by decide) (fun zh220 => ?_) (fun zh220 => ?_)
              · refine V_iconst (v := 0) C dX8_isMade_227 (by decide) ?_
                exact E 0 u _ _ dX8_isMade_228 rfl ⟨by simp (decide := true) [mMade, mMade3, b2i, zh198, zh209, zh220], by first | rfl | (simp (decide := true) [b2i, gi_si, ga_si, gz_si, gl_si, gb_si, mPl_si, mGet_si, mNat_si, mSlot_si, mBy_si, mThr, zh198, zh209, zh220]; done) | (simp (decide := true) [b2i, gi_si, ga_si, gz_si, gl_si, gb_si, mPl_si, mGet_si, mNat_si, mSlot_si, mBy_si, mThr, zh198, zh209, zh220]; rfl) | (simp_all (decide := true) [b2i, gi_si, ga_si, gz_si, gl_si, gb_si, mPl_si, mGet_si, mNat_si, mSlot_si, mBy_si, mThr]; done)⟩
              · refine V_iconst (v := 1) C dX8_isMade_223 (by decide) ?_
                refine V_goto (tgt := 228) C dX8_isMade_224 (by decide) ?_
                exact E 1 u _ _ dX8_isMade_228 rfl ⟨by simp (decide := true) [mMade, mMade3, b2i, zh198, zh209, zh220], by first | rfl | (simp (decide := true) [b2i, gi_si, ga_si, gz_si, gl_si, gb_si, mPl_si, mGet_si, mNat_si, mSlot_si, mBy_si, mThr, zh198, zh209, zh220]; done) | (simp (decide := true) [b2i, gi_si, ga_si, gz_si, gl_si, gb_si, mPl_si, mGet_si, mNat_si, mSlot_si, mBy_si, mThr, zh198, zh209, zh220]; rfl) | (simp_all (decide := true) [b2i, gi_si, ga_si, gz_si, gl_si, gb_si, mPl_si, mGet_si, mNat_si, mSlot_si, mBy_si, mThr]; done)⟩
        · exact absurd zh15 (by decide)

def mUse (o n k x : Int32) : Int32 := if (mRd o k || mWr o k) = true then x ||| (1 <<< ((n &&& 31) &&& 31)) else x
def mWrt (o n k x : Int32) : Int32 := if mWr o k = true then 1 <<< ((n &&& 31) &&& 31) else x
def mTel (o n k x : Int32) : Int32 := if mPr o k = true then 3 <<< ((n &&& 31) &&& 31) else x
def mUse3 (o a b c : Int32) : Int32 := mUse o c 2 (mUse o b 1 (mUse o a 0 0))
def mWrt3 (o a b c : Int32) : Int32 := mWrt o c 2 (mWrt o b 1 (mWrt o a 0 0))
def mTel3 (o a b c : Int32) : Int32 := mTel o c 2 (mTel o b 1 (mTel o a 0 0))
def mCls (o : Int32) : Bool := decide (o = 17 ∨ o = 18 ∨ o = 15 ∨ o = 16 ∨ o = 19)
def mStG (u : MS) (o q a b c : Int32) : Bool := !gb u 12 && decide ((mUse3 o a b c &&& gi u 10) = 0) && decide (((mTel3 o a b c ||| (1 <<< (q &&& 31))) &&& gi u 11) = 0)
def mStU (u : MS) (o a b c : Int32) : MS := sb (si (si u 10 (gi u 10 ||| mWrt3 o a b c)) 11 (gi u 11 ||| mTel3 o a b c)) 12 (mCls o)
def mStands (u : MS) (n : Nat) : Bool := mStG u (ga u 1 n) (ga u 2 n) (ga u 3 (3 * n)) (ga u 3 (3 * n + 1)) (ga u 3 (3 * n + 2))
def mStandU (u : MS) (n : Nat) : MS := mStU u (ga u 1 n) (ga u 3 (3 * n)) (ga u 3 (3 * n + 1)) (ga u 3 (3 * n + 2))
set_option maxHeartbeats 4000000 in
set_option maxRecDepth 100000 in
theorem c_X8_standsWell (l : Launch) (D : va_G) (K : Nat → ClassId) (h : Nat → Nat) (u : MS) (n : Nat) (hn2 : n < 40) : vMi l D vwCl (tys0 K) yX8_standsWell wsX8_standsWell ({ frames := 1, cells := 0, slots := 0, locals := 21 } : Room) [.ref (h 0), .int (nI n)] (mw K h u) (mw K h) (fun r9 u9 => r9 = (b2i (mStands u n)) ∧ u9 = (mStandU u n)) := by
  refine vMi_of (cc := cX8_standsWell) (nL := 8) (rt := .boolean) (by decide) rfl (Nat.le_of_ble_eq_true rfl) ?_
  intro X C E
  show V X 0 0 (mw K h u) 0 [(0, .ref (h 0)), (1, .int (nI n))] []
  have hi8 : ∀ w ∈ wsX80, w ∈ wsX8_standsWell := fun _ h => List.mem_cons_of_mem _ (List.mem_append_right _ h)
  refine V_aload_n C dX8_standsWell_0 rfl 0 rfl ?_
  refine V_get (v := .ref (h 2)) C dX8_standsWell_1 hi8 0 rfl rfl 1 (by decide) (List.mem_of_getElem? (i := 1) rfl) rfl rfl ?_
  refine V_iload_n C dX8_standsWell_4 rfl 1 rfl ?_
  refine V_ialdn (v := (ga u 1 (n))) C dX8_standsWell_5 1 0 rfl rfl (n) (nI_clamp (by omega)) (vp_in_nI (by omega) (by omega)) rfl ?_
  refine V_istore_n (lv' := [(2, .int (ga u 1 (n))), (0, .ref (h 0)), (1, .int (nI n))]) C dX8_standsWell_6 rfl (by decide) rfl ?_
  refine V_iconst (v := 0) C dX8_standsWell_7 (by decide) ?_
  refine V_istore_n (lv' := [(3, .int 0), (2, .int (ga u 1 (n))), (0, .ref (h 0)), (1, .int (nI n))]) C dX8_standsWell_8 rfl (by decide) rfl ?_
  refine V_iconst (v := 0) C dX8_standsWell_9 (by decide) ?_
  refine V_istore (lv' := [(4, .int 0), (3, .int 0), (2, .int (ga u 1 (n))), (0, .ref (h 0)), (1, .int (nI n))]) C dX8_standsWell_10 (by decide) rfl ?_
  refine V_iconst (v := 0) C dX8_standsWell_12 (by decide) ?_
  refine V_istore (lv' := [(5, .int 0), (4, .int 0), (3, .int 0), (2, .int (ga u 1 (n))), (0, .ref (h 0)), (1, .int (nI n))]) C dX8_standsWell_13 (by decide) rfl ?_
  refine V_iconst (v := 0) C dX8_standsWell_15 (by decide) ?_
  refine V_istore (lv' := [(6, .int 0), (5, .int 0), (4, .int 0), (3, .int 0), (2, .int (ga u 1 (n))), (0, .ref (h 0)), (1, .int (nI n))]) C dX8_standsWell_16 (by decide) rfl ?_
  refine V_iload C dX8_standsWell_18 0 rfl ?_
  refine V_iconst (v := 3) C dX8_standsWell_20 (by decide) ?_
  refine V_icmp_ge (tgt := 101) C dX8_standsWell_21 (by decide) (fun zh21 => ?_) (fun zh21 => ?_)
  · exact absurd zh21 (by decide)
  · refine V_aload_n C dX8_standsWell_24 rfl 5 rfl ?_
    refine V_get (v := .ref (h 4)) C dX8_standsWell_25 hi8 0 rfl rfl 3 (by decide) (List.mem_of_getElem? (i := 2) rfl) rfl rfl ?_
    refine V_iconst (v := 3) C dX8_standsWell_28 (by decide) ?_
    refine V_iload_n C dX8_standsWell_29 rfl 6 rfl ?_
    refine V_imul C dX8_standsWell_30 ?_
    refine V_iload C dX8_standsWell_31 0 rfl ?_
    refine V_iadd C dX8_standsWell_33 ?_
    refine V_ialdn (v := (ga u 3 (3 * n))) C dX8_standsWell_34 3 0 rfl rfl (3 * n) (ix3 n rfl 0 0 rfl (by omega)).1 ((ix3 n rfl 0 0 rfl (by omega)).2) rfl ?_
    refine V_bipush (v := 31) C dX8_standsWell_35 (by decide) ?_
    refine V_iand C dX8_standsWell_37 ?_
    refine V_istore (lv' := [(7, .int ((ga u 3 (3 * n)) &&& 31)), (6, .int 0), (5, .int 0), (4, .int 0), (3, .int 0), (2, .int (ga u 1 (n))), (0, .ref (h 0)), (1, .int (nI n))]) C dX8_standsWell_38 (by decide) rfl ?_
    suffices zj65 : ∀ xu0 : Int32, xu0 = (mUse (ga u 1 n) (ga u 3 (3 * n)) 0 0) → V X 0 0 (mw K h u) 65 [(3, .int xu0), (7, .int ((ga u 3 (3 * n)) &&& 31)), (6, .int 0), (5, .int 0), (4, .int 0), (2, .int (ga u 1 (n))), (0, .ref (h 0)), (1, .int (nI n))] [] by
      refine V_iload_n C dX8_standsWell_40 rfl 5 rfl ?_
      refine V_iload C dX8_standsWell_41 1 rfl ?_
      refine V_calliS C dX8_standsWell_43 (c_X8_isRead l D K (mw K h u) (ga u 1 (n)) 0) gX8_standsWell_X8_isRead rfl 2 rfl (by decide +kernel) (by decide) ⟨Nat.le_of_ble_eq_true rfl, Nat.le_of_ble_eq_true rfl⟩ rfl (Nat.le_of_ble_eq_true rfl) (det0 ?_)
      refine V_ifz_ne (tgt := 58) C dX8_standsWell_46 (by decide) (fun zh46 => ?_) (fun zh46 => ?_)
      · refine V_iload_n C dX8_standsWell_58 rfl 4 rfl ?_
        refine V_iconst (v := 1) C dX8_standsWell_59 (by decide) ?_
        refine V_iload C dX8_standsWell_60 0 rfl ?_
        refine V_ishl C dX8_standsWell_62 ?_
        refine V_ior C dX8_standsWell_63 ?_
        refine V_istore_n (lv' := [(3, .int ((0 : Int32) ||| ((1 : Int32) <<< (((ga u 3 (3 * n)) &&& 31) &&& 31)))), (7, .int ((ga u 3 (3 * n)) &&& 31)), (6, .int 0), (5, .int 0), (4, .int 0), (2, .int (ga u 1 (n))), (0, .ref (h 0)), (1, .int (nI n))]) C dX8_standsWell_64 rfl (by decide) rfl ?_
        refine V_sub [0, 1, 2, 3, 4, 5, 6, 7] rfl ?_
        exact zj65 ((0 : Int32) ||| ((1 : Int32) <<< (((ga u 3 (3 * n)) &&& 31) &&& 31))) (by simp (decide := true) [mUse, zh46])
      · refine V_iload_n C dX8_standsWell_49 rfl 5 rfl ?_
        refine V_iload C dX8_standsWell_50 1 rfl ?_
        refine V_calliS C dX8_standsWell_52 (c_X8_isWritten l D K (mw K h u) (ga u 1 (n)) 0) gX8_standsWell_X8_isWritten rfl 2 rfl (by decide +kernel) (by decide) ⟨Nat.le_of_ble_eq_true rfl, Nat.le_of_ble_eq_true rfl⟩ rfl (Nat.le_of_ble_eq_true rfl) (det0 ?_)
        refine V_ifz_eq (tgt := 65) C dX8_standsWell_55 (by decide) (fun zh55 => ?_) (fun zh55 => ?_)
        · refine V_sub [4, 0, 1, 2, 3, 5, 6, 7] rfl ?_
          exact zj65 0 (by simp (decide := true) [mUse, zh46, zh55])
        · refine V_iload_n C dX8_standsWell_58 rfl 4 rfl ?_
          refine V_iconst (v := 1) C dX8_standsWell_59 (by decide) ?_
          refine V_iload C dX8_standsWell_60 0 rfl ?_
          refine V_ishl C dX8_standsWell_62 ?_
          refine V_ior C dX8_standsWell_63 ?_
          refine V_istore_n (lv' := [(3, .int ((0 : Int32) ||| ((1 : Int32) <<< (((ga u 3 (3 * n)) &&& 31) &&& 31)))), (7, .int ((ga u 3 (3 * n)) &&& 31)), (6, .int 0), (5, .int 0), (4, .int 0), (2, .int (ga u 1 (n))), (0, .ref (h 0)), (1, .int (nI n))]) C dX8_standsWell_64 rfl (by decide) rfl ?_
          refine V_sub [0, 1, 2, 3, 4, 5, 6, 7] rfl ?_
          exact zj65 ((0 : Int32) ||| ((1 : Int32) <<< (((ga u 3 (3 * n)) &&& 31) &&& 31))) (by simp (decide := true) [mUse, zh46, zh55])
    intro xu0 e_xu0
    suffices zj80 : ∀ xw0 : Int32, xw0 = (mWrt (ga u 1 n) (ga u 3 (3 * n)) 0 0) → V X 0 0 (mw K h u) 80 [(5, .int xw0), (3, .int xu0), (7, .int ((ga u 3 (3 * n)) &&& 31)), (6, .int 0), (4, .int 0), (2, .int (ga u 1 (n))), (0, .ref (h 0)), (1, .int (nI n))] [] by
      refine V_iload_n C dX8_standsWell_65 rfl 5 rfl ?_
      refine V_iload C dX8_standsWell_66 2 rfl ?_
      refine V_calliS C dX8_standsWell_68 (c_X8_isWritten l D K (mw K h u) (ga u 1 (n)) 0) gX8_standsWell_X8_isWritten rfl 2 rfl (by decide +kernel) (by decide) ⟨Nat.le_of_ble_eq_true rfl, Nat.le_of_ble_eq_true rfl⟩ rfl (Nat.le_of_ble_eq_true rfl) (det0 ?_)
      refine V_ifz_eq (tgt := 80) C dX8_standsWell_71 (by decide) (fun zh71 => ?_) (fun zh71 => ?_)
      · refine V_sub [3, 0, 1, 2, 4, 5, 6, 7] rfl ?_
        exact zj80 0 (by simp (decide := true) [mWrt, zh71])
      · refine V_iconst (v := 1) C dX8_standsWell_74 (by decide) ?_
        refine V_iload C dX8_standsWell_75 1 rfl ?_
        refine V_ishl C dX8_standsWell_77 ?_
        refine V_istore (lv' := [(5, .int ((1 : Int32) <<< (((ga u 3 (3 * n)) &&& 31) &&& 31))), (3, .int xu0), (7, .int ((ga u 3 (3 * n)) &&& 31)), (6, .int 0), (4, .int 0), (2, .int (ga u 1 (n))), (0, .ref (h 0)), (1, .int (nI n))]) C dX8_standsWell_78 (by decide) rfl ?_
        refine V_sub [0, 1, 2, 3, 4, 5, 6, 7] rfl ?_
        exact zj80 ((1 : Int32) <<< (((ga u 3 (3 * n)) &&& 31) &&& 31)) (by simp (decide := true) [mWrt, zh71])
    intro xw0 e_xw0
    suffices zj95 : ∀ xt0 : Int32, xt0 = (mTel (ga u 1 n) (ga u 3 (3 * n)) 0 0) → V X 0 0 (mw K h u) 95 [(4, .int xt0), (5, .int xw0), (3, .int xu0), (7, .int ((ga u 3 (3 * n)) &&& 31)), (6, .int 0), (2, .int (ga u 1 (n))), (0, .ref (h 0)), (1, .int (nI n))] [] by
      refine V_iload_n C dX8_standsWell_80 rfl 5 rfl ?_
      refine V_iload C dX8_standsWell_81 3 rfl ?_
      refine V_calliS C dX8_standsWell_83 (c_X8_isPredicate l D K (mw K h u) (ga u 1 (n)) 0) gX8_standsWell_X8_isPredicate rfl 2 rfl (by decide +kernel) (by decide) ⟨Nat.le_of_ble_eq_true rfl, Nat.le_of_ble_eq_true rfl⟩ rfl (Nat.le_of_ble_eq_true rfl) (det0 ?_)
      refine V_ifz_eq (tgt := 95) C dX8_standsWell_86 (by decide) (fun zh86 => ?_) (fun zh86 => ?_)
      · refine V_sub [4, 0, 1, 2, 3, 5, 6, 7] rfl ?_
        exact zj95 0 (by simp (decide := true) [mTel, zh86])
      · refine V_iconst (v := 3) C dX8_standsWell_89 (by decide) ?_
        refine V_iload C dX8_standsWell_90 2 rfl ?_
        refine V_ishl C dX8_standsWell_92 ?_
        refine V_istore (lv' := [(4, .int ((3 : Int32) <<< (((ga u 3 (3 * n)) &&& 31) &&& 31))), (5, .int xw0), (3, .int xu0), (7, .int ((ga u 3 (3 * n)) &&& 31)), (6, .int 0), (2, .int (ga u 1 (n))), (0, .ref (h 0)), (1, .int (nI n))]) C dX8_standsWell_93 (by decide) rfl ?_
        refine V_sub [0, 1, 2, 3, 4, 5, 6, 7] rfl ?_
        exact zj95 ((3 : Int32) <<< (((ga u 3 (3 * n)) &&& 31) &&& 31)) (by simp (decide := true) [mTel, zh86])
    intro xt0 e_xt0
    refine V_iinc (lv' := [(6, .int 1), (4, .int xt0), (5, .int xw0), (3, .int xu0), (7, .int ((ga u 3 (3 * n)) &&& 31)), (2, .int (ga u 1 (n))), (0, .ref (h 0)), (1, .int (nI n))]) C dX8_standsWell_95 (j := 4) rfl (by decide) (by decide) rfl ?_
    refine V_goto (tgt := 18) C dX8_standsWell_98 (by decide) ?_
    refine V_iload C dX8_standsWell_18 0 rfl ?_
    refine V_iconst (v := 3) C dX8_standsWell_20 (by decide) ?_
    refine V_icmp_ge (tgt := 101) C dX8_standsWell_21 (by decide) (fun zh21 => ?_) (fun zh21 => ?_)
    · exact absurd zh21 (by decide)
    · refine V_aload_n C dX8_standsWell_24 rfl 6 rfl ?_
      refine V_get (v := .ref (h 4)) C dX8_standsWell_25 hi8 0 rfl rfl 3 (by decide) (List.mem_of_getElem? (i := 2) rfl) rfl rfl ?_
      refine V_iconst (v := 3) C dX8_standsWell_28 (by decide) ?_
      refine V_iload_n C dX8_standsWell_29 rfl 7 rfl ?_
      refine V_imul C dX8_standsWell_30 ?_
      refine V_iload C dX8_standsWell_31 0 rfl ?_
      refine V_iadd C dX8_standsWell_33 ?_
      refine V_ialdn (v := (ga u 3 (3 * n + 1))) C dX8_standsWell_34 3 0 rfl rfl (3 * n + 1) (ix3 n rfl 1 1 rfl (by omega)).1 ((ix3 n rfl 1 1 rfl (by omega)).2) rfl ?_
      refine V_bipush (v := 31) C dX8_standsWell_35 (by decide) ?_
      refine V_iand C dX8_standsWell_37 ?_
      refine V_istore (lv' := [(7, .int ((ga u 3 (3 * n + 1)) &&& 31)), (6, .int 1), (4, .int xt0), (5, .int xw0), (3, .int xu0), (2, .int (ga u 1 (n))), (0, .ref (h 0)), (1, .int (nI n))]) C dX8_standsWell_38 (by decide) rfl ?_
      suffices zj65 : ∀ xu1 : Int32, xu1 = (mUse (ga u 1 n) (ga u 3 (3 * n + 1)) 1 xu0) → V X 0 0 (mw K h u) 65 [(3, .int xu1), (7, .int ((ga u 3 (3 * n + 1)) &&& 31)), (6, .int 1), (4, .int xt0), (5, .int xw0), (2, .int (ga u 1 (n))), (0, .ref (h 0)), (1, .int (nI n))] [] by
        refine V_iload_n C dX8_standsWell_40 rfl 5 rfl ?_
        refine V_iload C dX8_standsWell_41 1 rfl ?_
        refine V_calliS C dX8_standsWell_43 (c_X8_isRead l D K (mw K h u) (ga u 1 (n)) 1) gX8_standsWell_X8_isRead rfl 2 rfl (by decide +kernel) (by decide) ⟨Nat.le_of_ble_eq_true rfl, Nat.le_of_ble_eq_true rfl⟩ rfl (Nat.le_of_ble_eq_true rfl) (det0 ?_)
        refine V_ifz_ne (tgt := 58) C dX8_standsWell_46 (by decide) (fun zh46 => ?_) (fun zh46 => ?_)
        · refine V_iload_n C dX8_standsWell_58 rfl 4 rfl ?_
          refine V_iconst (v := 1) C dX8_standsWell_59 (by decide) ?_
          refine V_iload C dX8_standsWell_60 0 rfl ?_
          refine V_ishl C dX8_standsWell_62 ?_
          refine V_ior C dX8_standsWell_63 ?_
          refine V_istore_n (lv' := [(3, .int (xu0 ||| ((1 : Int32) <<< (((ga u 3 (3 * n + 1)) &&& 31) &&& 31)))), (7, .int ((ga u 3 (3 * n + 1)) &&& 31)), (6, .int 1), (4, .int xt0), (5, .int xw0), (2, .int (ga u 1 (n))), (0, .ref (h 0)), (1, .int (nI n))]) C dX8_standsWell_64 rfl (by decide) rfl ?_
          refine V_sub [0, 1, 2, 3, 4, 5, 6, 7] rfl ?_
          exact zj65 (xu0 ||| ((1 : Int32) <<< (((ga u 3 (3 * n + 1)) &&& 31) &&& 31))) (by simp (decide := true) [mUse, zh46])
        · refine V_iload_n C dX8_standsWell_49 rfl 5 rfl ?_
          refine V_iload C dX8_standsWell_50 1 rfl ?_
          refine V_calliS C dX8_standsWell_52 (c_X8_isWritten l D K (mw K h u) (ga u 1 (n)) 1) gX8_standsWell_X8_isWritten rfl 2 rfl (by decide +kernel) (by decide) ⟨Nat.le_of_ble_eq_true rfl, Nat.le_of_ble_eq_true rfl⟩ rfl (Nat.le_of_ble_eq_true rfl) (det0 ?_)
          refine V_ifz_eq (tgt := 65) C dX8_standsWell_55 (by decide) (fun zh55 => ?_) (fun zh55 => ?_)
          · refine V_sub [4, 0, 1, 2, 3, 5, 6, 7] rfl ?_
            exact zj65 xu0 (by simp (decide := true) [mUse, zh46, zh55])
          · refine V_iload_n C dX8_standsWell_58 rfl 4 rfl ?_
            refine V_iconst (v := 1) C dX8_standsWell_59 (by decide) ?_
            refine V_iload C dX8_standsWell_60 0 rfl ?_
            refine V_ishl C dX8_standsWell_62 ?_
            refine V_ior C dX8_standsWell_63 ?_
            refine V_istore_n (lv' := [(3, .int (xu0 ||| ((1 : Int32) <<< (((ga u 3 (3 * n + 1)) &&& 31) &&& 31)))), (7, .int ((ga u 3 (3 * n + 1)) &&& 31)), (6, .int 1), (4, .int xt0), (5, .int xw0), (2, .int (ga u 1 (n))), (0, .ref (h 0)), (1, .int (nI n))]) C dX8_standsWell_64 rfl (by decide) rfl ?_
            refine V_sub [0, 1, 2, 3, 4, 5, 6, 7] rfl ?_
            exact zj65 (xu0 ||| ((1 : Int32) <<< (((ga u 3 (3 * n + 1)) &&& 31) &&& 31))) (by simp (decide := true) [mUse, zh46, zh55])
      intro xu1 e_xu1
      suffices zj80 : ∀ xw1 : Int32, xw1 = (mWrt (ga u 1 n) (ga u 3 (3 * n + 1)) 1 xw0) → V X 0 0 (mw K h u) 80 [(5, .int xw1), (3, .int xu1), (7, .int ((ga u 3 (3 * n + 1)) &&& 31)), (6, .int 1), (4, .int xt0), (2, .int (ga u 1 (n))), (0, .ref (h 0)), (1, .int (nI n))] [] by
        refine V_iload_n C dX8_standsWell_65 rfl 5 rfl ?_
        refine V_iload C dX8_standsWell_66 2 rfl ?_
        refine V_calliS C dX8_standsWell_68 (c_X8_isWritten l D K (mw K h u) (ga u 1 (n)) 1) gX8_standsWell_X8_isWritten rfl 2 rfl (by decide +kernel) (by decide) ⟨Nat.le_of_ble_eq_true rfl, Nat.le_of_ble_eq_true rfl⟩ rfl (Nat.le_of_ble_eq_true rfl) (det0 ?_)
        refine V_ifz_eq (tgt := 80) C dX8_standsWell_71 (by decide) (fun zh71 => ?_) (fun zh71 => ?_)
        · refine V_sub [4, 0, 1, 2, 3, 5, 6, 7] rfl ?_
          exact zj80 xw0 (by simp (decide := true) [mWrt, zh71])
        · refine V_iconst (v := 1) C dX8_standsWell_74 (by decide) ?_
          refine V_iload C dX8_standsWell_75 1 rfl ?_
          refine V_ishl C dX8_standsWell_77 ?_
          refine V_istore (lv' := [(5, .int ((1 : Int32) <<< (((ga u 3 (3 * n + 1)) &&& 31) &&& 31))), (3, .int xu1), (7, .int ((ga u 3 (3 * n + 1)) &&& 31)), (6, .int 1), (4, .int xt0), (2, .int (ga u 1 (n))), (0, .ref (h 0)), (1, .int (nI n))]) C dX8_standsWell_78 (by decide) rfl ?_
          refine V_sub [0, 1, 2, 3, 4, 5, 6, 7] rfl ?_
          exact zj80 ((1 : Int32) <<< (((ga u 3 (3 * n + 1)) &&& 31) &&& 31)) (by simp (decide := true) [mWrt, zh71])
      intro xw1 e_xw1
      suffices zj95 : ∀ xt1 : Int32, xt1 = (mTel (ga u 1 n) (ga u 3 (3 * n + 1)) 1 xt0) → V X 0 0 (mw K h u) 95 [(4, .int xt1), (5, .int xw1), (3, .int xu1), (7, .int ((ga u 3 (3 * n + 1)) &&& 31)), (6, .int 1), (2, .int (ga u 1 (n))), (0, .ref (h 0)), (1, .int (nI n))] [] by
        refine V_iload_n C dX8_standsWell_80 rfl 5 rfl ?_
        refine V_iload C dX8_standsWell_81 3 rfl ?_
        refine V_calliS C dX8_standsWell_83 (c_X8_isPredicate l D K (mw K h u) (ga u 1 (n)) 1) gX8_standsWell_X8_isPredicate rfl 2 rfl (by decide +kernel) (by decide) ⟨Nat.le_of_ble_eq_true rfl, Nat.le_of_ble_eq_true rfl⟩ rfl (Nat.le_of_ble_eq_true rfl) (det0 ?_)
        refine V_ifz_eq (tgt := 95) C dX8_standsWell_86 (by decide) (fun zh86 => ?_) (fun zh86 => ?_)
        · refine V_sub [4, 0, 1, 2, 3, 5, 6, 7] rfl ?_
          exact zj95 xt0 (by simp (decide := true) [mTel, zh86])
        · refine V_iconst (v := 3) C dX8_standsWell_89 (by decide) ?_
          refine V_iload C dX8_standsWell_90 2 rfl ?_
          refine V_ishl C dX8_standsWell_92 ?_
          refine V_istore (lv' := [(4, .int ((3 : Int32) <<< (((ga u 3 (3 * n + 1)) &&& 31) &&& 31))), (5, .int xw1), (3, .int xu1), (7, .int ((ga u 3 (3 * n + 1)) &&& 31)), (6, .int 1), (2, .int (ga u 1 (n))), (0, .ref (h 0)), (1, .int (nI n))]) C dX8_standsWell_93 (by decide) rfl ?_
          refine V_sub [0, 1, 2, 3, 4, 5, 6, 7] rfl ?_
          exact zj95 ((3 : Int32) <<< (((ga u 3 (3 * n + 1)) &&& 31) &&& 31)) (by simp (decide := true) [mTel, zh86])
      intro xt1 e_xt1
      refine V_iinc (lv' := [(6, .int 2), (4, .int xt1), (5, .int xw1), (3, .int xu1), (7, .int ((ga u 3 (3 * n + 1)) &&& 31)), (2, .int (ga u 1 (n))), (0, .ref (h 0)), (1, .int (nI n))]) C dX8_standsWell_95 (j := 4) rfl (by decide) (by decide) rfl ?_
      refine V_goto (tgt := 18) C dX8_standsWell_98 (by decide) ?_
      refine V_iload C dX8_standsWell_18 0 rfl ?_
      refine V_iconst (v := 3) C dX8_standsWell_20 (by decide) ?_
      refine V_icmp_ge (tgt := 101) C dX8_standsWell_21 (by decide) (fun zh21 => ?_) (fun zh21 => ?_)
      · exact absurd zh21 (by decide)
      · refine V_aload_n C dX8_standsWell_24 rfl 6 rfl ?_
        refine V_get (v := .ref (h 4)) C dX8_standsWell_25 hi8 0 rfl rfl 3 (by decide) (List.mem_of_getElem? (i := 2) rfl) rfl rfl ?_
        refine V_iconst (v := 3) C dX8_standsWell_28 (by decide) ?_
        refine V_iload_n C dX8_standsWell_29 rfl 7 rfl ?_
        refine V_imul C dX8_standsWell_30 ?_
        refine V_iload C dX8_standsWell_31 0 rfl ?_
        refine V_iadd C dX8_standsWell_33 ?_
        refine V_ialdn (v := (ga u 3 (3 * n + 2))) C dX8_standsWell_34 3 0 rfl rfl (3 * n + 2) (ix3 n rfl 2 2 rfl (by omega)).1 ((ix3 n rfl 2 2 rfl (by omega)).2) rfl ?_
        refine V_bipush (v := 31) C dX8_standsWell_35 (by decide) ?_
        refine V_iand C dX8_standsWell_37 ?_
        refine V_istore (lv' := [(7, .int ((ga u 3 (3 * n + 2)) &&& 31)), (6, .int 2), (4, .int xt1), (5, .int xw1), (3, .int xu1), (2, .int (ga u 1 (n))), (0, .ref (h 0)), (1, .int (nI n))]) C dX8_standsWell_38 (by decide) rfl ?_
        suffices zj65 : ∀ xu2 : Int32, xu2 = (mUse (ga u 1 n) (ga u 3 (3 * n + 2)) 2 xu1) → V X 0 0 (mw K h u) 65 [(3, .int xu2), (7, .int ((ga u 3 (3 * n + 2)) &&& 31)), (6, .int 2), (4, .int xt1), (5, .int xw1), (2, .int (ga u 1 (n))), (0, .ref (h 0)), (1, .int (nI n))] [] by
          refine V_iload_n C dX8_standsWell_40 rfl 5 rfl ?_
          refine V_iload C dX8_standsWell_41 1 rfl ?_
          refine V_calliS C dX8_standsWell_43 (c_X8_isRead l D K (mw K h u) (ga u 1 (n)) 2) gX8_standsWell_X8_isRead rfl 2 rfl (by decide +kernel) (by decide) ⟨Nat.le_of_ble_eq_true rfl, Nat.le_of_ble_eq_true rfl⟩ rfl (Nat.le_of_ble_eq_true rfl) (det0 ?_)
          refine V_ifz_ne (tgt := 58) C dX8_standsWell_46 (by decide) (fun zh46 => ?_) (fun zh46 => ?_)
          · refine V_iload_n C dX8_standsWell_58 rfl 4 rfl ?_
            refine V_iconst (v := 1) C dX8_standsWell_59 (by decide) ?_
            refine V_iload C dX8_standsWell_60 0 rfl ?_
            refine V_ishl C dX8_standsWell_62 ?_
            refine V_ior C dX8_standsWell_63 ?_
            refine V_istore_n (lv' := [(3, .int (xu1 ||| ((1 : Int32) <<< (((ga u 3 (3 * n + 2)) &&& 31) &&& 31)))), (7, .int ((ga u 3 (3 * n + 2)) &&& 31)), (6, .int 2), (4, .int xt1), (5, .int xw1), (2, .int (ga u 1 (n))), (0, .ref (h 0)), (1, .int (nI n))]) C dX8_standsWell_64 rfl (by decide) rfl ?_
            refine V_sub [0, 1, 2, 3, 4, 5, 6, 7] rfl ?_
            exact zj65 (xu1 ||| ((1 : Int32) <<< (((ga u 3 (3 * n + 2)) &&& 31) &&& 31))) (by simp (decide := true) [mUse, zh46])
          · refine V_iload_n C dX8_standsWell_49 rfl 5 rfl ?_
            refine V_iload C dX8_standsWell_50 1 rfl ?_
            refine V_calliS C dX8_standsWell_52 (c_X8_isWritten l D K (mw K h u) (ga u 1 (n)) 2) gX8_standsWell_X8_isWritten rfl 2 rfl (by decide +kernel) (by decide) ⟨Nat.le_of_ble_eq_true rfl, Nat.le_of_ble_eq_true rfl⟩ rfl (Nat.le_of_ble_eq_true rfl) (det0 ?_)
            refine V_ifz_eq (tgt := 65) C dX8_standsWell_55 (by decide) (fun zh55 => ?_) (fun zh55 => ?_)
            · refine V_sub [4, 0, 1, 2, 3, 5, 6, 7] rfl ?_
              exact zj65 xu1 (by simp (decide := true) [mUse, zh46, zh55])
            · refine V_iload_n C dX8_standsWell_58 rfl 4 rfl ?_
              refine V_iconst (v := 1) C dX8_standsWell_59 (by decide) ?_
              refine V_iload C dX8_standsWell_60 0 rfl ?_
              refine V_ishl C dX8_standsWell_62 ?_
              refine V_ior C dX8_standsWell_63 ?_
              refine V_istore_n (lv' := [(3, .int (xu1 ||| ((1 : Int32) <<< (((ga u 3 (3 * n + 2)) &&& 31) &&& 31)))), (7, .int ((ga u 3 (3 * n + 2)) &&& 31)), (6, .int 2), (4, .int xt1), (5, .int xw1), (2, .int (ga u 1 (n))), (0, .ref (h 0)), (1, .int (nI n))]) C dX8_standsWell_64 rfl (by decide) rfl ?_
              refine V_sub [0, 1, 2, 3, 4, 5, 6, 7] rfl ?_
              exact zj65 (xu1 ||| ((1 : Int32) <<< (((ga u 3 (3 * n + 2)) &&& 31) &&& 31))) (by simp (decide := true) [mUse, zh46, zh55])
        intro xu2 e_xu2
        suffices zj80 : ∀ xw2 : Int32, xw2 = (mWrt (ga u 1 n) (ga u 3 (3 * n + 2)) 2 xw1) → V X 0 0 (mw K h u) 80 [(5, .int xw2), (3, .int xu2), (7, .int ((ga u 3 (3 * n + 2)) &&& 31)), (6, .int 2), (4, .int xt1), (2, .int (ga u 1 (n))), (0, .ref (h 0)), (1, .int (nI n))] [] by
          refine V_iload_n C dX8_standsWell_65 rfl 5 rfl ?_
          refine V_iload C dX8_standsWell_66 2 rfl ?_
          refine V_calliS C dX8_standsWell_68 (c_X8_isWritten l D K (mw K h u) (ga u 1 (n)) 2) gX8_standsWell_X8_isWritten rfl 2 rfl (by decide +kernel) (by decide) ⟨Nat.le_of_ble_eq_true rfl, Nat.le_of_ble_eq_true rfl⟩ rfl (Nat.le_of_ble_eq_true rfl) (det0 ?_)
          refine V_ifz_eq (tgt := 80) C dX8_standsWell_71 (by decide) (fun zh71 => ?_) (fun zh71 => ?_)
          · refine V_sub [4, 0, 1, 2, 3, 5, 6, 7] rfl ?_
            exact zj80 xw1 (by simp (decide := true) [mWrt, zh71])
          · refine V_iconst (v := 1) C dX8_standsWell_74 (by decide) ?_
            refine V_iload C dX8_standsWell_75 1 rfl ?_
            refine V_ishl C dX8_standsWell_77 ?_
            refine V_istore (lv' := [(5, .int ((1 : Int32) <<< (((ga u 3 (3 * n + 2)) &&& 31) &&& 31))), (3, .int xu2), (7, .int ((ga u 3 (3 * n + 2)) &&& 31)), (6, .int 2), (4, .int xt1), (2, .int (ga u 1 (n))), (0, .ref (h 0)), (1, .int (nI n))]) C dX8_standsWell_78 (by decide) rfl ?_
            refine V_sub [0, 1, 2, 3, 4, 5, 6, 7] rfl ?_
            exact zj80 ((1 : Int32) <<< (((ga u 3 (3 * n + 2)) &&& 31) &&& 31)) (by simp (decide := true) [mWrt, zh71])
        intro xw2 e_xw2
        suffices zj95 : ∀ xt2 : Int32, xt2 = (mTel (ga u 1 n) (ga u 3 (3 * n + 2)) 2 xt1) → V X 0 0 (mw K h u) 95 [(4, .int xt2), (5, .int xw2), (3, .int xu2), (7, .int ((ga u 3 (3 * n + 2)) &&& 31)), (6, .int 2), (2, .int (ga u 1 (n))), (0, .ref (h 0)), (1, .int (nI n))] [] by
          refine V_iload_n C dX8_standsWell_80 rfl 5 rfl ?_
          refine V_iload C dX8_standsWell_81 3 rfl ?_
          refine V_calliS C dX8_standsWell_83 (c_X8_isPredicate l D K (mw K h u) (ga u 1 (n)) 2) gX8_standsWell_X8_isPredicate rfl 2 rfl (by decide +kernel) (by decide) ⟨Nat.le_of_ble_eq_true rfl, Nat.le_of_ble_eq_true rfl⟩ rfl (Nat.le_of_ble_eq_true rfl) (det0 ?_)
          refine V_ifz_eq (tgt := 95) C dX8_standsWell_86 (by decide) (fun zh86 => ?_) (fun zh86 => ?_)
          · refine V_sub [4, 0, 1, 2, 3, 5, 6, 7] rfl ?_
            exact zj95 xt1 (by simp (decide := true) [mTel, zh86])
          · refine V_iconst (v := 3) C dX8_standsWell_89 (by decide) ?_
            refine V_iload C dX8_standsWell_90 2 rfl ?_
            refine V_ishl C dX8_standsWell_92 ?_
            refine V_istore (lv' := [(4, .int ((3 : Int32) <<< (((ga u 3 (3 * n + 2)) &&& 31) &&& 31))), (5, .int xw2), (3, .int xu2), (7, .int ((ga u 3 (3 * n + 2)) &&& 31)), (6, .int 2), (2, .int (ga u 1 (n))), (0, .ref (h 0)), (1, .int (nI n))]) C dX8_standsWell_93 (by decide) rfl ?_
            refine V_sub [0, 1, 2, 3, 4, 5, 6, 7] rfl ?_
            exact zj95 ((3 : Int32) <<< (((ga u 3 (3 * n + 2)) &&& 31) &&& 31)) (by simp (decide := true) [mTel, zh86])
        intro xt2 e_xt2
        refine V_iinc (lv' := [(6, .int 3), (4, .int xt2), (5, .int xw2), (3, .int xu2), (7, .int ((ga u 3 (3 * n + 2)) &&& 31)), (2, .int (ga u 1 (n))), (0, .ref (h 0)), (1, .int (nI n))]) C dX8_standsWell_95 (j := 4) rfl (by decide) (by decide) rfl ?_
        refine V_goto (tgt := 18) C dX8_standsWell_98 (by decide) ?_
        refine V_iload C dX8_standsWell_18 0 rfl ?_
        refine V_iconst (v := 3) C dX8_standsWell_20 (by decide) ?_
        refine V_icmp_ge (tgt := 101) C dX8_standsWell_21 (by decide) (fun zh21 => ?_) (fun zh21 => ?_)
        · have zu : xu2 = mUse3 (ga u 1 n) (ga u 3 (3 * n)) (ga u 3 (3 * n + 1)) (ga u 3 (3 * n + 2)) := by rw [e_xu2, e_xu1, e_xu0]; rfl
          have zw : xw2 = mWrt3 (ga u 1 n) (ga u 3 (3 * n)) (ga u 3 (3 * n + 1)) (ga u 3 (3 * n + 2)) := by rw [e_xw2, e_xw1, e_xw0]; rfl
          have zt : xt2 = mTel3 (ga u 1 n) (ga u 3 (3 * n)) (ga u 3 (3 * n + 1)) (ga u 3 (3 * n + 2)) := by rw [e_xt2, e_xt1, e_xt0]; rfl
          suffices zj141 : ∀ xgo : Bool, xgo = (!gb u 12 && decide ((xu2 &&& gi u 10) = 0) && decide (((xt2 ||| (1 <<< (ga u 2 n &&& 31))) &&& gi u 11) = 0)) → V X 0 0 (mw K h u) 141 [(6, .int 3), (4, .int xt2), (5, .int xw2), (3, .int xu2), (7, .int ((ga u 3 (3 * n + 2)) &&& 31)), (2, .int (ga u 1 (n))), (0, .ref (h 0)), (1, .int (nI n))] [.int (b2i xgo)] by
            refine V_aload_n C dX8_standsWell_101 rfl 6 rfl ?_
            refine V_get (v := .int (b2i (gb u 12))) C dX8_standsWell_102 hi8 0 rfl rfl 12 (by decide) (List.mem_of_getElem? (i := 3) rfl) rfl rfl ?_
            refine V_ifz_ne (tgt := 140) C dX8_standsWell_105 (by decide) (fun zh105 => ?_) (fun zh105 => ?_)
            · refine V_iconst (v := 0) C dX8_standsWell_140 (by decide) ?_
              refine V_sub [0, 1, 2, 3, 4, 5, 6, 7] rfl ?_
              exact zj141 false (by simp (decide := true) [zh105])
            · refine V_iload_n C dX8_standsWell_108 rfl 3 rfl ?_
              refine V_aload_n C dX8_standsWell_109 rfl 6 rfl ?_
              refine V_get (v := .int (gi u 10)) C dX8_standsWell_110 hi8 0 rfl rfl 10 (by decide) (List.mem_of_getElem? (i := 4) rfl) rfl rfl ?_
              refine V_iand C dX8_standsWell_113 ?_
              refine V_if_ne (tgt := 140) C dX8_standsWell_114 (by decide) (fun zh114 => ?_) (fun zh114 => ?_)
              · refine V_iconst (v := 0) C dX8_standsWell_140 (by decide) ?_
                refine V_sub [0, 1, 2, 3, 4, 5, 6, 7] rfl ?_
                exact zj141 false (by simp (decide := true) [zh105, zh114])
              · refine V_iload C dX8_standsWell_117 1 rfl ?_
                refine V_iconst (v := 1) C dX8_standsWell_119 (by decide) ?_
                refine V_aload_n C dX8_standsWell_120 rfl 6 rfl ?_
                refine V_get (v := .ref (h 3)) C dX8_standsWell_121 hi8 0 rfl rfl 2 (by decide) (List.mem_of_getElem? (i := 5) rfl) rfl rfl ?_
                refine V_iload_n C dX8_standsWell_124 rfl 7 rfl ?_
                refine V_ialdn (v := (ga u 2 (n))) C dX8_standsWell_125 2 0 rfl rfl (n) (nI_clamp (by omega)) (vp_in_nI (by omega) (by omega)) rfl ?_
                refine V_ishl C dX8_standsWell_126 ?_
                refine V_ior C dX8_standsWell_127 ?_
                refine V_aload_n C dX8_standsWell_128 rfl 6 rfl ?_
                refine V_get (v := .int (gi u 11)) C dX8_standsWell_129 hi8 0 rfl rfl 11 (by decide) (List.mem_of_getElem? (i := 6) rfl) rfl rfl ?_
                refine V_iand C dX8_standsWell_132 ?_
                refine V_if_ne (tgt := 140) C dX8_standsWell_133 (by decide) (fun zh133 => ?_) (fun zh133 => ?_)
                · refine V_iconst (v := 0) C dX8_standsWell_140 (by decide) ?_
                  refine V_sub [0, 1, 2, 3, 4, 5, 6, 7] rfl ?_
                  exact zj141 false (by simp (decide := true) [zh105, zh114, zh133])
                · refine V_iconst (v := 1) C dX8_standsWell_136 (by decide) ?_
                  refine V_goto (tgt := 141) C dX8_standsWell_137 (by decide) ?_
                  refine V_sub [0, 1, 2, 3, 4, 5, 6, 7] rfl ?_
                  exact zj141 true (by simp (decide := true) [zh105, zh114, zh133])
          intro xgo e_xgo
          refine V_istore (lv' := [(6, .int (b2i xgo)), (4, .int xt2), (5, .int xw2), (3, .int xu2), (7, .int ((ga u 3 (3 * n + 2)) &&& 31)), (2, .int (ga u 1 (n))), (0, .ref (h 0)), (1, .int (nI n))]) C dX8_standsWell_141 (by decide) rfl ?_
          refine V_aload_n C dX8_standsWell_143 rfl 6 rfl ?_
          refine V_aload_n C dX8_standsWell_144 rfl 6 rfl ?_
          refine V_get (v := .int (gi u 10)) C dX8_standsWell_145 hi8 0 rfl rfl 10 (by decide) (List.mem_of_getElem? (i := 4) rfl) rfl rfl ?_
          refine V_iload C dX8_standsWell_148 2 rfl ?_
          refine V_ior C dX8_standsWell_150 ?_
          refine V_put (ws' := (mw K h (si u 10 ((gi u 10) ||| xw2)))) C dX8_standsWell_151 hi8 tyX8_ok nmX8 0 rfl rfl 10 (by decide) (List.mem_of_getElem? (i := 4) rfl) rfl rfl rfl rfl rfl (Nat.le_of_ble_eq_true rfl) (ms_10 K h u ((gi u 10) ||| xw2)) ?_
          refine V_aload_n C dX8_standsWell_154 rfl 6 rfl ?_
          refine V_aload_n C dX8_standsWell_155 rfl 6 rfl ?_
          refine V_get (v := .int (gi u 11)) C dX8_standsWell_156 hi8 0 rfl rfl 11 (by decide) (List.mem_of_getElem? (i := 6) rfl) rfl rfl ?_
          refine V_iload C dX8_standsWell_159 1 rfl ?_
          refine V_ior C dX8_standsWell_161 ?_
          refine V_put (ws' := (mw K h (si (si u 10 ((gi u 10) ||| xw2)) 11 ((gi u 11) ||| xt2)))) C dX8_standsWell_162 hi8 tyX8_ok nmX8 0 rfl rfl 11 (by decide) (List.mem_of_getElem? (i := 6) rfl) rfl rfl rfl rfl rfl (Nat.le_of_ble_eq_true rfl) (ms_11 K h (si u 10 ((gi u 10) ||| xw2)) ((gi u 11) ||| xt2)) ?_
          refine V_aload_n C dX8_standsWell_165 rfl 6 rfl ?_
          suffices zj201 : ∀ xcl : Bool, xcl = (mCls (ga u 1 n)) → V X 0 0 (mw K h (si (si u 10 ((gi u 10) ||| xw2)) 11 ((gi u 11) ||| xt2))) 201 [(6, .int (b2i xgo)), (4, .int xt2), (5, .int xw2), (3, .int xu2), (7, .int ((ga u 3 (3 * n + 2)) &&& 31)), (2, .int (ga u 1 (n))), (0, .ref (h 0)), (1, .int (nI n))] [.int (b2i xcl), .ref (h 0)] by
            refine V_iload_n C dX8_standsWell_166 rfl 5 rfl ?_
            refine V_bipush (v := 17) C dX8_standsWell_167 (by decide) ?_
            refine V_icmp_eq (tgt := 196) C dX8_standsWell_169 (by decide) (fun zh169 => ?_) (fun zh169 => ?_)
            · refine V_iconst (v := 1) C dX8_standsWell_196 (by decide) ?_
              refine V_goto (tgt := 201) C dX8_standsWell_197 (by decide) ?_
              refine V_sub [0, 1, 2, 3, 4, 5, 6, 7] rfl ?_
              exact zj201 true (by simp (decide := true) [mCls, zh169])
            · refine V_iload_n C dX8_standsWell_172 rfl 5 rfl ?_
              refine V_bipush (v := 18) C dX8_standsWell_173 (by decide) ?_
              refine V_icmp_eq (tgt := 196) C dX8_standsWell_175 (by decide) (fun zh175 => ?_) (fun zh175 => ?_)
              · refine V_iconst (v := 1) C dX8_standsWell_196 (by decide) ?_
                refine V_goto (tgt := 201) C dX8_standsWell_197 (by decide) ?_
                refine V_sub [0, 1, 2, 3, 4, 5, 6, 7] rfl ?_
                exact zj201 true (by simp (decide := true) [mCls, zh169, zh175])
              · refine V_iload_n C dX8_standsWell_178 rfl 5 rfl ?_
                refine V_bipush (v := 15) C dX8_standsWell_179 (by decide) ?_
                refine V_icmp_eq (tgt := 196) C dX8_standsWell_181 (by decide) (fun zh181 => ?_) (fun zh181 => ?_)
                · refine V_iconst (v := 1) C dX8_standsWell_196 (by decide) ?_
                  refine V_goto (tgt := 201) C dX8_standsWell_197 (by decide) ?_
                  refine V_sub [0, 1, 2, 3, 4, 5, 6, 7] rfl ?_
                  exact zj201 true (by simp (decide := true) [mCls, zh169, zh175, zh181])
                · refine V_iload_n C dX8_standsWell_184 rfl 5 rfl ?_
                  refine V_bipush (v := 16) C dX8_standsWell_185 (by decide) ?_
                  refine V_icmp_eq (tgt := 196) C dX8_standsWell_187 (by decide) (fun zh187 => ?_) (fun zh187 => ?_)
                  · refine V_iconst (v := 1) C dX8_standsWell_196 (by decide) ?_
                    refine V_goto (tgt := 201) C dX8_standsWell_197 (by decide) ?_
                    refine V_sub [0, 1, 2, 3, 4, 5, 6, 7] rfl ?_
                    exact zj201 true (by simp (decide := true) [mCls, zh169, zh175, zh181, zh187])
                  · refine V_iload_n C dX8_standsWell_190 rfl 5 rfl ?_
                    refine V_bipush (v := 19) C dX8_standsWell_191 (by decide) ?_
                    refine V_icmp_ne (tgt := 200) C dX8_standsWell_193 (by decide) (fun zh193 => ?_) (fun zh193 => ?_)
                    · refine V_iconst (v := 0) C dX8_standsWell_200 (by decide) ?_
                      refine V_sub [0, 1, 2, 3, 4, 5, 6, 7] rfl ?_
                      exact zj201 false (by simp (decide := true) [mCls, zh169, zh175, zh181, zh187, zh193])
                    · refine V_iconst (v := 1) C dX8_standsWell_196 (by decide) ?_
                      refine V_goto (tgt := 201) C dX8_standsWell_197 (by decide) ?_
                      refine V_sub [0, 1, 2, 3, 4, 5, 6, 7] rfl ?_
                      exact zj201 true (by simp (decide := true) [mCls, zh169, zh175, zh181, zh187, zh193])
          intro xcl e_xcl
          refine V_put (ws' := (mw K h (sb (si (si u 10 ((gi u 10) ||| xw2)) 11 ((gi u 11) ||| xt2)) 12 xcl))) C dX8_standsWell_201 hi8 tyX8_ok nmX8 0 rfl rfl 12 (by decide) (List.mem_of_getElem? (i := 3) rfl) rfl rfl rfl (nar_b2i _) (fit_b2i _) (Nat.le_of_ble_eq_true rfl) (ms_12 K h (si (si u 10 ((gi u 10) ||| xw2)) 11 ((gi u 11) ||| xt2)) xcl) ?_
          refine V_iload C dX8_standsWell_204 0 rfl ?_
          exact E (b2i xgo) (sb (si (si u 10 ((gi u 10) ||| xw2)) 11 ((gi u 11) ||| xt2)) 12 xcl) _ _ dX8_standsWell_206 (nar_b2i _) ⟨by rw [e_xgo, zu, zt]; rfl, by rw [zw, zt, e_xcl]; rfl⟩
        · exact absurd zh21 (by decide)

