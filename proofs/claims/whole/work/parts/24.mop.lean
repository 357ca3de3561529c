def mTurnU (u : MS) : MS := if gi u 28 = 0 ∧ gi u 29 = 0 then u else
  sz (sa (si (si u 28 (if 0 < gi u 28 then gi u 28 - 1 else 0)) 29 (if 0 < gi u 28 then gi u 29 else gi u 29 - 1)) 25 4 (if ga u 25 4 = 0 then 15 else ga u 25 4 - 1)) 20 (mSlot (sa u 25 4 (if ga u 25 4 = 0 then 15 else ga u 25 4 - 1)) 8).toNatClampNeg (decide (0 < gi u 28))
def mTurnR (u : MS) (t : Int32) : Int32 := if gi u 28 = 0 ∧ gi u 29 = 0 then gi u 27 + 1 else if 0 < gi u 28 ∨ 1 < gi u 29 then t else gi u 27 + 1
theorem mSlot_2 (u : MS) (a b : Int32) (v p : Int32) : mSlot (sa (si (si u 28 a) 29 b) 25 4 v) p = mSlot (sa u 25 4 v) p := rfl
set_option maxHeartbeats 4000000 in
set_option maxRecDepth 100000 in
theorem c_X8_turn (l : Launch) (D : va_G) (K : Nat → ClassId) (h : Nat → Nat) (u : MS) (xt : Int32) (hp : ∀ v : Int32, (v = 15 ∨ v = ga u 25 4 - 1) → vp_in (mSlot (sa u 25 4 v) 8) 16) : vMi l D vwCl (tys0 K) yX8_turn wsX8_turn ({ frames := 1, cells := 0, slots := 0, locals := 21 } : Room) [.ref (h 0), .int xt] (mw K h u) (mw K h) (fun r9 u9 => r9 = (mTurnR u xt) ∧ u9 = (mTurnU u)) := by
  refine vMi_of (cc := cX8_turn) (nL := 4) (rt := .int) (by decide) rfl (Nat.le_of_ble_eq_true rfl) ?_
  intro X C E
  show V X 0 0 (mw K h u) 0 [(0, .ref (h 0)), (1, .int xt)] []
  have hi8 : ∀ w ∈ wsX80, w ∈ wsX8_turn := fun _ h => List.mem_cons_of_mem _ (List.mem_append_right _ h)
  refine V_aload_n C dX8_turn_0 rfl 0 rfl ?_
  refine V_get (v := .int (gi u 28)) C dX8_turn_1 hi8 0 rfl rfl 28 (by decide) (List.mem_of_getElem? (i := 1) rfl) rfl rfl ?_
  refine V_istore_n (lv' := [(2, .int (gi u 28)), (0, .ref (h 0)), (1, .int xt)]) C dX8_turn_4 rfl (by decide) rfl ?_
  refine V_aload_n C dX8_turn_5 rfl 1 rfl ?_
  refine V_get (v := .int (gi u 29)) C dX8_turn_6 hi8 0 rfl rfl 29 (by decide) (List.mem_of_getElem? (i := 2) rfl) rfl rfl ?_
  refine V_istore_n (lv' := [(3, .int (gi u 29)), (2, .int (gi u 28)), (0, .ref (h 0)), (1, .int xt)]) C dX8_turn_9 rfl (by decide) rfl ?_
  refine V_iload_n C dX8_turn_10 rfl 1 rfl ?_
  refine V_if_ne (tgt := 25) C dX8_turn_11 (by decide) (fun zh11 => ?_) (fun zh11 => ?_)
  · refine V_aload_n C dX8_turn_25 rfl 2 rfl ?_
    refine V_iload_n C dX8_turn_26 rfl 1 rfl ?_
    refine V_if_le (tgt := 36) C dX8_turn_27 (by decide) (fun zh27 => ?_) (fun zh27 => ?_)
    · refine V_iconst (v := 0) C dX8_turn_36 (by decide) ?_
      refine V_put (ws' := (mw K h (si u 28 0))) C dX8_turn_37 hi8 tyX8_ok nmX8 0 rfl rfl 28 (by decide) (List.mem_of_getElem? (i := 1) rfl) rfl rfl rfl rfl rfl (Nat.le_of_ble_eq_true rfl) (ms_28 K h u 0) ?_
      refine V_aload_n C dX8_turn_40 rfl 2 rfl ?_
      refine V_iload_n C dX8_turn_41 rfl 1 rfl ?_
      refine V_if_le (tgt := 49) C dX8_turn_42 (by decide) (fun zh42 => ?_) (fun zh42 => ?_)
      · refine V_iload_n C dX8_turn_49 rfl 0 rfl ?_
        refine V_iconst (v := 1) C dX8_turn_50 (by decide) ?_
        refine V_isub C dX8_turn_51 ?_
        refine V_put (ws' := (mw K h (si (si u 28 0) 29 ((gi u 29) - 1)))) C dX8_turn_52 hi8 tyX8_ok nmX8 0 rfl rfl 29 (by decide) (List.mem_of_getElem? (i := 2) rfl) rfl rfl rfl rfl rfl (Nat.le_of_ble_eq_true rfl) (ms_29 K h (si u 28 0) ((gi u 29) - 1)) ?_
        refine V_aload_n C dX8_turn_55 rfl 2 rfl ?_
        refine V_get (v := .ref (h 26)) C dX8_turn_56 hi8 0 rfl rfl 25 (by decide) (List.mem_of_getElem? (i := 4) rfl) rfl rfl ?_
        refine V_iconst (v := 4) C dX8_turn_59 (by decide) ?_
        refine V_aload_n C dX8_turn_60 rfl 2 rfl ?_
        refine V_get (v := .ref (h 26)) C dX8_turn_61 hi8 0 rfl rfl 25 (by decide) (List.mem_of_getElem? (i := 4) rfl) rfl rfl ?_
        refine V_iconst (v := 4) C dX8_turn_64 (by decide) ?_
        refine V_ialdn (v := (ga u 25 4)) C dX8_turn_65 13 0 rfl rfl (4) (by decide) (by unfold vp_in; decide) (by first | rfl | (simp (disch := omega) only [ga_sa_ne, ga_sa_eq, ga_si, ga_sb, ga_sz, ga_sl])) ?_
        refine V_if_ne (tgt := 74) C dX8_turn_66 (by decide) (fun zh66 => ?_) (fun zh66 => ?_)
        · refine V_aload_n C dX8_turn_74 rfl 2 rfl ?_
          refine V_get (v := .ref (h 26)) C dX8_turn_75 hi8 0 rfl rfl 25 (by decide) (List.mem_of_getElem? (i := 4) rfl) rfl rfl ?_
          refine V_iconst (v := 4) C dX8_turn_78 (by decide) ?_
          refine V_ialdn (v := (ga u 25 4)) C dX8_turn_79 13 0 rfl rfl (4) (by decide) (by unfold vp_in; decide) (by first | rfl | (simp (disch := omega) only [ga_sa_ne, ga_sa_eq, ga_si, ga_sb, ga_sz, ga_sl])) ?_
          refine V_iconst (v := 1) C dX8_turn_80 (by decide) ?_
          refine V_isub C dX8_turn_81 ?_
          refine V_iastn (ws' := (mw K h (sa (si (si u 28 0) 29 ((gi u 29) - 1)) 25 4 ((ga u 25 4) - 1)))) C dX8_turn_82 13 0 rfl rfl (4) (by decide) (by unfold vp_in; decide) (ms_25 K h (si (si u 28 0) 29 ((gi u 29) - 1)) 4 ((ga u 25 4) - 1)) ?_
          refine V_aload_n C dX8_turn_83 rfl 2 rfl ?_
          refine V_get (v := .ref (h 21)) C dX8_turn_84 hi8 0 rfl rfl 20 (by decide) (List.mem_of_getElem? (i := 5) rfl) rfl rfl ?_
          refine V_aload_n C dX8_turn_87 rfl 2 rfl ?_
          refine V_bipush (v := 8) C dX8_turn_88 (by decide) ?_
          refine V_calliV C dX8_turn_90 0 rfl rfl (c_X8_slot l D K h (sa (si (si u 28 0) 29 ((gi u 29) - 1)) 25 4 ((ga u 25 4) - 1)) 8 ) gX8_turn_X8_slot rfl 1 rfl (by decide +kernel) (by decide) ⟨Nat.le_of_ble_eq_true rfl, Nat.le_of_ble_eq_true rfl⟩ rfl (Nat.le_of_ble_eq_true rfl) (det2 ?_)
          refine V_iload_n C dX8_turn_93 rfl 1 rfl ?_
          refine V_if_le (tgt := 101) C dX8_turn_94 (by decide) (fun zh94 => ?_) (fun zh94 => ?_)
          · refine V_iconst (v := 0) C dX8_turn_101 (by decide) ?_
            refine V_zastn (ws' := (mw K h (sz (sa (si (si u 28 0) 29 ((gi u 29) - 1)) 25 4 ((ga u 25 4) - 1)) 20 ((mSlot (sa (si (si u 28 0) 29 ((gi u 29) - 1)) 25 4 ((ga u 25 4) - 1)) 8).toNatClampNeg) false))) C dX8_turn_102 12 2 rfl rfl ((mSlot (sa (si (si u 28 0) 29 ((gi u 29) - 1)) 25 4 ((ga u 25 4) - 1)) 8).toNatClampNeg) rfl (hp _ (by first | exact Or.inl rfl | exact Or.inr rfl)) (ms_20 K h (sa (si (si u 28 0) 29 ((gi u 29) - 1)) 25 4 ((ga u 25 4) - 1)) ((mSlot (sa (si (si u 28 0) 29 ((gi u 29) - 1)) 25 4 ((ga u 25 4) - 1)) 8).toNatClampNeg) false) ?_
            refine V_iload_n C dX8_turn_103 rfl 1 rfl ?_
            refine V_if_gt (tgt := 112) C dX8_turn_104 (by decide) (fun zh104 => ?_) (fun zh104 => ?_)
            · first | exact absurd zh104 zh94 | exact absurd zh94 zh104 | exact absurd (Int32.not_lt.mp zh104) zh94 | exact absurd (Int32.not_le.mp zh104) zh94 | exact absurd zh104 (Int32.not_lt.mpr zh94) | exact absurd zh104 (Int32.not_le.mpr zh94) | exact absurd (Int32.not_lt.mp zh94) (Int32.not_le.mpr zh104) | (rw [zh94] at zh104; cases zh104)
            · refine V_iload_n C dX8_turn_107 rfl 0 rfl ?_
              refine V_iconst (v := 1) C dX8_turn_108 (by decide) ?_
              refine V_icmp_le (tgt := 116) C dX8_turn_109 (by decide) (fun zh109 => ?_) (fun zh109 => ?_)
              · refine V_aload_n C dX8_turn_116 rfl 2 rfl ?_
                refine V_get (v := .int (gi u 27)) C dX8_turn_117 hi8 0 rfl rfl 27 (by decide) (List.mem_of_getElem? (i := 3) rfl) rfl rfl ?_
                refine V_iconst (v := 1) C dX8_turn_120 (by decide) ?_
                refine V_iadd C dX8_turn_121 ?_
                exact E ((gi u 27) + 1) (sz (sa (si (si u 28 0) 29 ((gi u 29) - 1)) 25 4 ((ga u 25 4) - 1)) 20 ((mSlot (sa (si (si u 28 0) 29 ((gi u 29) - 1)) 25 4 ((ga u 25 4) - 1)) 8).toNatClampNeg) false) _ _ dX8_turn_122 rfl ⟨by first | rfl | (simp (decide := true) [b2i, gi_si, ga_si, gz_si, gl_si, gb_si, mPl_si, mGet_si, mNat_si, mSlot_si, mBy_si, mThr, mTurnR, mTurnU, mSlot_2, zh11, zh27, Int32.not_lt.mpr zh27, zh42, Int32.not_lt.mpr zh42, zh66, zh94, Int32.not_lt.mpr zh94, zh104, Int32.not_lt.mp zh104, zh109, Int32.not_lt.mpr zh109]; done) | (simp (decide := true) [b2i, gi_si, ga_si, gz_si, gl_si, gb_si, mPl_si, mGet_si, mNat_si, mSlot_si, mBy_si, mThr, mTurnR, mTurnU, mSlot_2, zh11, zh27, Int32.not_lt.mpr zh27, zh42, Int32.not_lt.mpr zh42, zh66, zh94, Int32.not_lt.mpr zh94, zh104, Int32.not_lt.mp zh104, zh109, Int32.not_lt.mpr zh109]; rfl) | (simp_all (decide := true) [b2i, gi_si, ga_si, gz_si, gl_si, gb_si, mPl_si, mGet_si, mNat_si, mSlot_si, mBy_si, mThr, mTurnR, mTurnU, mSlot_2]; done), by first | rfl | (simp (decide := true) [b2i, gi_si, ga_si, gz_si, gl_si, gb_si, mPl_si, mGet_si, mNat_si, mSlot_si, mBy_si, mThr, mTurnR, mTurnU, mSlot_2, zh11, zh27, Int32.not_lt.mpr zh27, zh42, Int32.not_lt.mpr zh42, zh66, zh94, Int32.not_lt.mpr zh94, zh104, Int32.not_lt.mp zh104, zh109, Int32.not_lt.mpr zh109]; done) | (simp (decide := true) [b2i, gi_si, ga_si, gz_si, gl_si, gb_si, mPl_si, mGet_si, mNat_si, mSlot_si, mBy_si, mThr, mTurnR, mTurnU, mSlot_2, zh11, zh27, Int32.not_lt.mpr zh27, zh42, Int32.not_lt.mpr zh42, zh66, zh94, Int32.not_lt.mpr zh94, zh104, Int32.not_lt.mp zh104, zh109, Int32.not_lt.mpr zh109]; rfl) | (simp_all (decide := true) [b2i, gi_si, ga_si, gz_si, gl_si, gb_si, mPl_si, mGet_si, mNat_si, mSlot_si, mBy_si, mThr, mTurnR, mTurnU, mSlot_2]; done)⟩
              · refine V_iload_n C dX8_turn_112 rfl 3 rfl ?_
                refine V_goto (tgt := 122) C dX8_turn_113 (by decide) ?_
                exact E xt (sz (sa (si (si u 28 0) 29 ((gi u 29) - 1)) 25 4 ((ga u 25 4) - 1)) 20 ((mSlot (sa (si (si u 28 0) 29 ((gi u 29) - 1)) 25 4 ((ga u 25 4) - 1)) 8).toNatClampNeg) false) _ _ dX8_turn_122 rfl ⟨by first | rfl | (simp (decide := true) [b2i, gi_si, ga_si, gz_si, gl_si, gb_si, mPl_si, mGet_si, mNat_si, mSlot_si, mBy_si, mThr, mTurnR, mTurnU, mSlot_2, zh11, zh27, Int32.not_lt.mpr zh27, zh42, Int32.not_lt.mpr zh42, zh66, zh94, Int32.not_lt.mpr zh94, zh104, Int32.not_lt.mp zh104, zh109, Int32.not_le.mp zh109]; done) | (simp (decide := true) [b2i, gi_si, ga_si, gz_si, gl_si, gb_si, mPl_si, mGet_si, mNat_si, mSlot_si, mBy_si, mThr, mTurnR, mTurnU, mSlot_2, zh11, zh27, Int32.not_lt.mpr zh27, zh42, Int32.not_lt.mpr zh42, zh66, zh94, Int32.not_lt.mpr zh94, zh104, Int32.not_lt.mp zh104, zh109, Int32.not_le.mp zh109]; rfl) | (simp_all (decide := true) [b2i, gi_si, ga_si, gz_si, gl_si, gb_si, mPl_si, mGet_si, mNat_si, mSlot_si, mBy_si, mThr, mTurnR, mTurnU, mSlot_2]; done), by first | rfl | (simp (decide := true) [b2i, gi_si, ga_si, gz_si, gl_si, gb_si, mPl_si, mGet_si, mNat_si, mSlot_si, mBy_si, mThr, mTurnR, mTurnU, mSlot_2, zh11, zh27, Int32.not_lt.mpr zh27, zh42, Int32.not_lt.mpr zh42, zh66, zh94, Int32.not_lt.mpr zh94, zh104, Int32.not_lt.mp zh104, zh109, Int32.not_le.mp zh109]; done) | (simp (decide := true) [b2i, gi_si, ga_si, gz_si, gl_si, gb_si, mPl_si, mGet_si, mNat_si, mSlot_si, mBy_si, mThr, mTurnR, mTurnU, mSlot_2, zh11, zh27, Int32.not_lt.mpr zh27, zh42, Int32.not_lt.mpr zh42, zh66, zh94, Int32.not_lt.mpr zh94, zh104, Int32.not_lt.mp zh104, zh109, Int32.not_le.mp zh109]; rfl) | (simp_all (decide := true) [b2i, gi_si, ga_si, gz_si, gl_si, gb_si, mPl_si, mGet_si, mNat_si, mSlot_si, mBy_si, mThr, mTurnR, mTurnU, mSlot_2]; done)⟩
          · first | exact absurd zh94 zh42 | exact absurd zh42 zh94 | exact absurd (Int32.not_lt.mp zh94) zh42 | exact absurd (Int32.not_le.mp zh94) zh42 | exact absurd zh94 (Int32.not_lt.mpr zh42) | exact absurd zh94 (Int32.not_le.mpr zh42) | exact absurd (Int32.not_lt.mp zh42) (Int32.not_le.mpr zh94) | (rw [zh42] at zh94; cases zh94)
        · refine V_bipush (v := 15) C dX8_turn_69 (by decide) ?_
          refine V_goto (tgt := 82) C dX8_turn_71 (by decide) ?_
          refine V_iastn (ws' := (mw K h (sa (si (si u 28 0) 29 ((gi u 29) - 1)) 25 4 15))) C dX8_turn_82 13 0 rfl rfl (4) (by decide) (by unfold vp_in; decide) (ms_25 K h (si (si u 28 0) 29 ((gi u 29) - 1)) 4 15) ?_
          refine V_aload_n C dX8_turn_83 rfl 2 rfl ?_
          refine V_get (v := .ref (h 21)) C dX8_turn_84 hi8 0 rfl rfl 20 (by decide) (List.mem_of_getElem? (i := 5) rfl) rfl rfl ?_
          refine V_aload_n C dX8_turn_87 rfl 2 rfl ?_
          refine V_bipush (v := 8) C dX8_turn_88 (by decide) ?_
          refine V_calliV C dX8_turn_90 0 rfl rfl (c_X8_slot l D K h (sa (si (si u 28 0) 29 ((gi u 29) - 1)) 25 4 15) 8 ) gX8_turn_X8_slot rfl 1 rfl (by decide +kernel) (by decide) ⟨Nat.le_of_ble_eq_true rfl, Nat.le_of_ble_eq_true rfl⟩ rfl (Nat.le_of_ble_eq_true rfl) (det2 ?_)
          refine V_iload_n C dX8_turn_93 rfl 1 rfl ?_
          refine V_if_le (tgt := 101) C dX8_turn_94 (by decide) (fun zh94 => ?_) (fun zh94 => ?_)
          · refine V_iconst (v := 0) C dX8_turn_101 (by decide) ?_
            refine V_zastn (ws' := (mw K h (sz (sa (si (si u 28 0) 29 ((gi u 29) - 1)) 25 4 15) 20 ((mSlot (sa (si (si u 28 0) 29 ((gi u 29) - 1)) 25 4 15) 8).toNatClampNeg) false))) C dX8_turn_102 12 2 rfl rfl ((mSlot (sa (si (si u 28 0) 29 ((gi u 29) - 1)) 25 4 15) 8).toNatClampNeg) rfl (hp _ (by first | exact Or.inl rfl | exact Or.inr rfl)) (ms_20 K h (sa (si (si u 28 0) 29 ((gi u 29) - 1)) 25 4 15) ((mSlot (sa (si (si u 28 0) 29 ((gi u 29) - 1)) 25 4 15) 8).toNatClampNeg) false) ?_
            refine V_iload_n C dX8_turn_103 rfl 1 rfl ?_
            refine V_if_gt (tgt := 112) C dX8_turn_104 (by decide) (fun zh104 => ?_) (fun zh104 => ?_)
            · first | exact absurd zh104 zh94 | exact absurd zh94 zh104 | exact absurd (Int32.not_lt.mp zh104) zh94 | exact absurd (Int32.not_le.mp zh104) zh94 | exact absurd zh104 (Int32.not_lt.mpr zh94) | exact absurd zh104 (Int32.not_le.mpr zh94) | exact absurd (Int32.not_lt.mp zh94) (Int32.not_le.mpr zh104) | (rw [zh94] at zh104; cases zh104)
            · refine V_iload_n C dX8_turn_107 rfl 0 rfl ?_
              refine V_iconst (v := 1) C dX8_turn_108 (by decide) ?_
              refine V_icmp_le (tgt := 116) C dX8_turn_109 (by decide) (fun zh109 => ?_) (fun zh109 => ?_)
              · refine V_aload_n C dX8_turn_116 rfl 2 rfl ?_
                refine V_get (v := .int (gi u 27)) C dX8_turn_117 hi8 0 rfl rfl 27 (by decide) (List.mem_of_getElem? (i := 3) rfl) rfl rfl ?_
                refine V_iconst (v := 1) C dX8_turn_120 (by decide) ?_
                refine V_iadd C dX8_turn_121 ?_
                exact E ((gi u 27) + 1) (sz (sa (si (si u 28 0) 29 ((gi u 29) - 1)) 25 4 15) 20 ((mSlot (sa (si (si u 28 0) 29 ((gi u 29) - 1)) 25 4 15) 8).toNatClampNeg) false) _ _ dX8_turn_122 rfl ⟨by first | rfl | (simp (decide := true) [b2i, gi_si, ga_si, gz_si, gl_si, gb_si, mPl_si, mGet_si, mNat_si, mSlot_si, mBy_si, mThr, mTurnR, mTurnU, mSlot_2, zh11, zh27, Int32.not_lt.mpr zh27, zh42, Int32.not_lt.mpr zh42, zh66, zh94, Int32.not_lt.mpr zh94, zh104, Int32.not_lt.mp zh104, zh109, Int32.not_lt.mpr zh109]; done) | (simp (decide := true) [b2i, gi_si, ga_si, gz_si, gl_si, gb_si, mPl_si, mGet_si, mNat_si, mSlot_si, mBy_si, mThr, mTurnR, mTurnU, mSlot_2, zh11, zh27, Int32.not_lt.mpr zh27, zh42, Int32.not_lt.mpr zh42, zh66, zh94, Int32.not_lt.mpr zh94, zh104, Int32.not_lt.mp zh104, zh109, Int32.not_lt.mpr zh109]; rfl) | (simp_all (decide := true) [b2i, gi_si, ga_si, gz_si, gl_si, gb_si, mPl_si, mGet_si, mNat_si, mSlot_si, mBy_si, mThr, mTurnR, mTurnU, mSlot_2]; done), by first | rfl | (simp (decide := true) [b2i, gi_si, ga_si, gz_si, gl_si, gb_si, mPl_si, mGet_si, mNat_si, mSlot_si, mBy_si, mThr, mTurnR, mTurnU, mSlot_2, zh11, zh27, Int32.not_lt.mpr zh27, zh42, Int32.not_lt.mpr zh42, zh66, zh94, Int32.not_lt.mpr zh94, zh104, Int32.not_lt.mp zh104, zh109, Int32.not_lt.mpr zh109]; done) | (simp (decide := true) [b2i, gi_si, ga_si, gz_si, gl_si, gb_si, mPl_si, mGet_si, mNat_si, mSlot_si, mBy_si, mThr, mTurnR, mTurnU, mSlot_2, zh11, zh27, Int32.not_lt.mpr zh27, zh42, Int32.not_lt.mpr zh42, zh66, zh94, Int32.not_lt.mpr zh94, zh104, Int32.not_lt.mp zh104, zh109, Int32.not_lt.mpr zh109]; rfl) | (simp_all (decide := true) [b2i, gi_si, ga_si, gz_si, gl_si, gb_si, mPl_si, mGet_si, mNat_si, mSlot_si, mBy_si, mThr, mTurnR, mTurnU, mSlot_2]; done)⟩
              · refine V_iload_n C dX8_turn_112 rfl 3 rfl ?_
                refine V_goto (tgt := 122) C dX8_turn_113 (by decide) ?_
                exact E xt (sz (sa (si (si u 28 0) 29 ((gi u 29) - 1)) 25 4 15) 20 ((mSlot (sa (si (si u 28 0) 29 ((gi u 29) - 1)) 25 4 15) 8).toNatClampNeg) false) _ _ dX8_turn_122 rfl ⟨by first | rfl | (simp (decide := true) [b2i, gi_si, ga_si, gz_si, gl_si, gb_si, mPl_si, mGet_si, mNat_si, mSlot_si, mBy_si, mThr, mTurnR, mTurnU, mSlot_2, zh11, zh27, Int32.not_lt.mpr zh27, zh42, Int32.not_lt.mpr zh42, zh66, zh94, Int32.not_lt.mpr zh94, zh104, Int32.not_lt.mp zh104, zh109, Int32.not_le.mp zh109]; done) | (simp (decide := true) [b2i, gi_si, ga_si, gz_si, gl_si, gb_si, mPl_si, mGet_si, mNat_si, mSlot_si, mBy_si, mThr, mTurnR, mTurnU, mSlot_2, zh11, zh27, Int32.not_lt.mpr zh27, zh42, Int32.not_lt.mpr zh42, zh66, zh94, Int32.not_lt.mpr zh94, zh104, Int32.not_lt.mp zh104, zh109, Int32.not_le.mp zh109]; rfl) | (simp_all (decide := true) [b2i, gi_si, ga_si, gz_si, gl_si, gb_si, mPl_si, mGet_si, mNat_si, mSlot_si, mBy_si, mThr, mTurnR, mTurnU, mSlot_2]; done), by first | rfl | (simp (decide := true) [b2i, gi_si, ga_si, gz_si, gl_si, gb_si, mPl_si, mGet_si, mNat_si, mSlot_si, mBy_si, mThr, mTurnR, mTurnU, mSlot_2, zh11, zh27, Int32.not_lt.mpr zh27, zh42, Int32.not_lt.mpr zh42, zh66, zh94, Int32.not_lt.mpr zh94, zh104, Int32.not_lt.mp zh104, zh109, Int32.not_le.mp zh109]; done) | (simp (decide := true) [b2i, gi_si, ga_si, gz_si, gl_si, gb_si, mPl_si, mGet_si, mNat_si, mSlot_si, mBy_si, mThr, mTurnR, mTurnU, mSlot_2, zh11, zh27, Int32.not_lt.mpr zh27, zh42, Int32.not_lt.mpr zh42, zh66, zh94, Int32.not_lt.mpr zh94, zh104, Int32.not_lt.mp zh104, zh109, Int32.not_le.mp zh109]; rfl) | (simp_all (decide := true) [b2i, gi_si, ga_si, gz_si, gl_si, gb_si, mPl_si, mGet_si, mNat_si, mSlot_si, mBy_si, mThr, mTurnR, mTurnU, mSlot_2]; done)⟩
          · first | exact absurd zh94 zh42 | exact absurd zh42 zh94 | exact absurd (Int32.not_lt.mp zh94) zh42 | exact absurd (Int32.not_le.mp zh94) zh42 | exact absurd zh94 (Int32.not_lt.mpr zh42) | exact absurd zh94 (Int32.not_le.mpr zh42) | exact absurd (Int32.not_lt.mp zh42) (Int32.not_le.mpr zh94) | (rw [zh42] at zh94; cases zh94)
      · first | exact absurd zh42 zh27 | exact absurd zh27 zh42 | exact absurd (Int32.not_lt.mp zh42) zh27 | exact absurd (Int32.not_le.mp zh42) zh27 | exact absurd zh42 (Int32.not_lt.mpr zh27) | exact absurd zh42 (Int32.not_le.mpr zh27) | exact absurd (Int32.not_lt.mp zh27) (Int32.not_le.mpr zh42) | (rw [zh27] at zh42; cases zh42)
    · refine V_iload_n C dX8_turn_30 rfl 1 rfl ?_
      refine V_iconst (v := 1) C dX8_turn_31 (by decide) ?_
      refine V_isub C dX8_turn_32 ?_
      refine V_goto (tgt := 37) C dX8_turn_33 (by decide) ?_
      refine V_put (ws' := (mw K h (si u 28 ((gi u 28) - 1)))) C dX8_turn_37 hi8 tyX8_ok nmX8 0 rfl rfl 28 (by decide) (List.mem_of_getElem? (i := 1) rfl) rfl rfl rfl rfl rfl (Nat.le_of_ble_eq_true rfl) (ms_28 K h u ((gi u 28) - 1)) ?_
      refine V_aload_n C dX8_turn_40 rfl 2 rfl ?_
      refine V_iload_n C dX8_turn_41 rfl 1 rfl ?_
      refine V_if_le (tgt := 49) C dX8_turn_42 (by decide) (fun zh42 => ?_) (fun zh42 => ?_)
      · first | exact absurd zh42 zh27 | exact absurd zh27 zh42 | exact absurd (Int32.not_lt.mp zh42) zh27 | exact absurd (Int32.not_le.mp zh42) zh27 | exact absurd zh42 (Int32.not_lt.mpr zh27) | exact absurd zh42 (Int32.not_le.mpr zh27) | exact absurd (Int32.not_lt.mp zh27) (Int32.not_le.mpr zh42) | (rw [zh27] at zh42; cases zh42)
      · refine V_iload_n C dX8_turn_45 rfl 0 rfl ?_
        refine V_goto (tgt := 52) C dX8_turn_46 (by decide) ?_
        refine V_put (ws' := (mw K h (si (si u 28 ((gi u 28) - 1)) 29 (gi u 29)))) C dX8_turn_52 hi8 tyX8_ok nmX8 0 rfl rfl 29 (by decide) (List.mem_of_getElem? (i := 2) rfl) rfl rfl rfl rfl rfl (Nat.le_of_ble_eq_true rfl) (ms_29 K h (si u 28 ((gi u 28) - 1)) (gi u 29)) ?_
        refine V_aload_n C dX8_turn_55 rfl 2 rfl ?_
        refine V_get (v := .ref (h 26)) C dX8_turn_56 hi8 0 rfl rfl 25 (by decide) (List.mem_of_getElem? (i := 4) rfl) rfl rfl ?_
        refine V_iconst (v := 4) C dX8_turn_59 (by decide) ?_
        refine V_aload_n C dX8_turn_60 rfl 2 rfl ?_
        refine V_get (v := .ref (h 26)) C dX8_turn_61 hi8 0 rfl rfl 25 (by decide) (List.mem_of_getElem? (i := 4) rfl) rfl rfl ?_
        refine V_iconst (v := 4) C dX8_turn_64 (by decide) ?_
        refine V_ialdn (v := (ga u 25 4)) C dX8_turn_65 13 0 rfl rfl (4) (by decide) (by unfold vp_in; decide) (by first | rfl | (simp (disch := omega) only [ga_sa_ne, ga_sa_eq, ga_si, ga_sb, ga_sz, ga_sl])) ?_
        refine V_if_ne (tgt := 74) C dX8_turn_66 (by decide) (fun zh66 => ?_) (fun zh66 => ?_)
        · refine V_aload_n C dX8_turn_74 rfl 2 rfl ?_
          refine V_get (v := .ref (h 26)) C dX8_turn_75 hi8 0 rfl rfl 25 (by decide) (List.mem_of_getElem? (i := 4) rfl) rfl rfl ?_
          refine V_iconst (v := 4) C dX8_turn_78 (by decide) ?_
          refine V_ialdn (v := (ga u 25 4)) C dX8_turn_79 13 0 rfl rfl (4) (by decide) (by unfold vp_in; decide) (by first | rfl | (simp (disch := omega) only [ga_sa_ne, ga_sa_eq, ga_si, ga_sb, ga_sz, ga_sl])) ?_
          refine V_iconst (v := 1) C dX8_turn_80 (by decide) ?_
          refine V_isub C dX8_turn_81 ?_
          refine V_iastn (ws' := (mw K h (sa (si (si u 28 ((gi u 28) - 1)) 29 (gi u 29)) 25 4 ((ga u 25 4) - 1)))) C dX8_turn_82 13 0 rfl rfl (4) (by decide) (by unfold vp_in; decide) (ms_25 K h (si (si u 28 ((gi u 28) - 1)) 29 (gi u 29)) 4 ((ga u 25 4) - 1)) ?_
          refine V_aload_n C dX8_turn_83 rfl 2 rfl ?_
          refine V_get (v := .ref (h 21)) C dX8_turn_84 hi8 0 rfl rfl 20 (by decide) (List.mem_of_getElem? (i := 5) rfl) rfl rfl ?_
          refine V_aload_n C dX8_turn_87 rfl 2 rfl ?_
          refine V_bipush (v := 8) C dX8_turn_88 (by decide) ?_
          refine V_calliV C dX8_turn_90 0 rfl rfl (c_X8_slot l D K h (sa (si (si u 28 ((gi u 28) - 1)) 29 (gi u 29)) 25 4 ((ga u 25 4) - 1)) 8 ) gX8_turn_X8_slot rfl 1 rfl (by decide +kernel) (by decide) ⟨Nat.le_of_ble_eq_true rfl, Nat.le_of_ble_eq_true rfl⟩ rfl (Nat.le_of_ble_eq_true rfl) (det2 ?_)
          refine V_iload_n C dX8_turn_93 rfl 1 rfl ?_
          refine V_if_le (tgt := 101) C dX8_turn_94 (by decide) (fun zh94 => ?_) (fun zh94 => ?_)
          · first | exact absurd zh94 zh42 | exact absurd zh42 zh94 | exact absurd (Int32.not_lt.mp zh94) zh42 | exact absurd (Int32.not_le.mp zh94) zh42 | exact absurd zh94 (Int32.not_lt.mpr zh42) | exact absurd zh94 (Int32.not_le.mpr zh42) | exact absurd (Int32.not_lt.mp zh42) (Int32.not_le.mpr zh94) | (rw [zh42] at zh94; cases zh94)
          · refine V_iconst (v := 1) C dX8_turn_97 (by decide) ?_
            refine V_goto (tgt := 102) C dX8_turn_98 (by decide) ?_
            refine V_zastn (ws' := (mw K h (sz (sa (si (si u 28 ((gi u 28) - 1)) 29 (gi u 29)) 25 4 ((ga u 25 4) - 1)) 20 ((mSlot (sa (si (si u 28 ((gi u 28) - 1)) 29 (gi u 29)) 25 4 ((ga u 25 4) - 1)) 8).toNatClampNeg) true))) C dX8_turn_102 12 2 rfl rfl ((mSlot (sa (si (si u 28 ((gi u 28) - 1)) 29 (gi u 29)) 25 4 ((ga u 25 4) - 1)) 8).toNatClampNeg) rfl (hp _ (by first | exact Or.inl rfl | exact Or.inr rfl)) (ms_20 K h (sa (si (si u 28 ((gi u 28) - 1)) 29 (gi u 29)) 25 4 ((ga u 25 4) - 1)) ((mSlot (sa (si (si u 28 ((gi u 28) - 1)) 29 (gi u 29)) 25 4 ((ga u 25 4) - 1)) 8).toNatClampNeg) true) ?_
            refine V_iload_n C dX8_turn_103 rfl 1 rfl ?_
            refine V_if_gt (tgt := 112) C dX8_turn_104 (by decide) (fun zh104 => ?_) (fun zh104 => ?_)
            · refine V_iload_n C dX8_turn_112 rfl 3 rfl ?_
              refine V_goto (tgt := 122) C dX8_turn_113 (by decide) ?_
              exact E xt (sz (sa (si (si u 28 ((gi u 28) - 1)) 29 (gi u 29)) 25 4 ((ga u 25 4) - 1)) 20 ((mSlot (sa (si (si u 28 ((gi u 28) - 1)) 29 (gi u 29)) 25 4 ((ga u 25 4) - 1)) 8).toNatClampNeg) true) _ _ dX8_turn_122 rfl ⟨by first | rfl | (simp (decide := true) [b2i, gi_si, ga_si, gz_si, gl_si, gb_si, mPl_si, mGet_si, mNat_si, mSlot_si, mBy_si, mThr, mTurnR, mTurnU, mSlot_2, zh11, zh27, Int32.not_le.mp zh27, zh42, Int32.not_le.mp zh42, zh66, zh94, Int32.not_le.mp zh94, zh104, Int32.not_le.mpr zh104]; done) | (simp (decide := true) [b2i, gi_si, ga_si, gz_si, gl_si, gb_si, mPl_si, mGet_si, mNat_si, mSlot_si, mBy_si, mThr, mTurnR, mTurnU, mSlot_2, zh11, zh27, Int32.not_le.mp zh27, zh42, Int32.not_le.mp zh42, zh66, zh94, Int32.not_le.mp zh94, zh104, Int32.not_le.mpr zh104]; rfl) | (simp_all (decide := true) [b2i, gi_si, ga_si, gz_si, gl_si, gb_si, mPl_si, mGet_si, mNat_si, mSlot_si, mBy_si, mThr, mTurnR, mTurnU, mSlot_2]; done), by first | rfl | (simp (decide := true) [b2i, gi_si, ga_si, gz_si, gl_si, gb_si, mPl_si, mGet_si, mNat_si, mSlot_si, mBy_si, mThr, mTurnR, mTurnU, mSlot_2, zh11, zh27, Int32.not_le.mp zh27, zh42, Int32.not_le.mp zh42, zh66, zh94, Int32.not_le.mp zh94, zh104, Int32.not_le.mpr zh104]; done) | (simp (decide := true) [b2i, gi_si, ga_si, gz_si, gl_si, gb_si, mPl_si, mGet_si, mNat_si, mSlot_si, mBy_si, mThr, mTurnR, mTurnU, mSlot_2, zh11, zh27, Int32.not_le.mp zh27, zh42, Int32.not_le.mp zh42, zh66, zh94, Int32.not_le.mp zh94, zh104, Int32.not_le.mpr zh104]; rfl) | (simp_all (decide := true) [b2i, gi_si, ga_si, gz_si, gl_si, gb_si, mPl_si, mGet_si, mNat_si, mSlot_si, mBy_si, mThr, mTurnR, mTurnU, mSlot_2]; done)⟩
            · first | exact absurd zh104 zh94 | exact absurd zh94 zh104 | exact absurd (Int32.not_lt.mp zh104) zh94 | exact absurd (Int32.not_le.mp zh104) zh94 | exact absurd zh104 (Int32.not_lt.mpr zh94) | exact absurd zh104 (Int32.not_le.mpr zh94) | exact absurd (Int32.not_lt.mp zh94) (Int32.not_le.mpr zh104) | (rw [zh94] at zh104; cases zh104)
        · refine V_bipush (v := 15) C dX8_turn_69 (by decide) ?_
          refine V_goto (tgt := 82) C dX8_turn_71 (by decide) ?_
          refine V_iastn (ws' := (mw K h (sa (si (si u 28 ((gi u 28) - 1)) 29 (gi u 29)) 25 4 15))) C dX8_turn_82 13 0 rfl rfl (4) (by decide) (by unfold vp_in; decide) (ms_25 K h (si (si u 28 ((gi u 28) - 1)) 29 (gi u 29)) 4 15) ?_
          refine V_aload_n C dX8_turn_83 rfl 2 rfl ?_
          refine V_get (v := .ref (h 21)) C dX8_turn_84 hi8 0 rfl rfl 20 (by decide) (List.mem_of_getElem? (i := 5) rfl) rfl rfl ?_
          refine V_aload_n C dX8_turn_87 rfl 2 rfl ?_
          refine V_bipush (v := 8) C dX8_turn_88 (by decide) ?_
          refine V_calliV C dX8_turn_90 0 rfl rfl (c_X8_slot l D K h (sa (si (si u 28 ((gi u 28) - 1)) 29 (gi u 29)) 25 4 15) 8 ) gX8_turn_X8_slot rfl 1 rfl (by decide +kernel) (by decide) ⟨Nat.le_of_ble_eq_true rfl, Nat.le_of_ble_eq_true rfl⟩ rfl (Nat.le_of_ble_eq_true rfl) (det2 ?_)
          refine V_iload_n C dX8_turn_93 rfl 1 rfl ?_
          refine V_if_le (tgt := 101) C dX8_turn_94 (by decide) (fun zh94 => ?_) (fun zh94 => ?_)
          · first | exact absurd zh94 zh42 | exact absurd zh42 zh94 | exact absurd (Int32.not_lt.mp zh94) zh42 | exact absurd (Int32.not_le.mp zh94) zh42 | exact absurd zh94 (Int32.not_lt.mpr zh42) | exact absurd zh94 (Int32.not_le.mpr zh42) | exact absurd (Int32.not_lt.mp zh42) (Int32.not_le.mpr zh94) | (rw [zh42] at zh94; cases zh94)
          · refine V_iconst (v := 1) C dX8_turn_97 (by decide) ?_
            refine V_goto (tgt := 102) C dX8_turn_98 (by decide) ?_
            refine V_zastn (ws' := (mw K h (sz (sa (si (si u 28 ((gi u 28) - 1)) 29 (gi u 29)) 25 4 15) 20 ((mSlot (sa (si (si u 28 ((gi u 28) - 1)) 29 (gi u 29)) 25 4 15) 8).toNatClampNeg) true))) C dX8_turn_102 12 2 rfl rfl ((mSlot (sa (si (si u 28 ((gi u 28) - 1)) 29 (gi u 29)) 25 4 15) 8).toNatClampNeg) rfl (hp _ (by first | exact Or.inl rfl | exact Or.inr rfl)) (ms_20 K h (sa (si (si u 28 ((gi u 28) - 1)) 29 (gi u 29)) 25 4 15) ((mSlot (sa (si (si u 28 ((gi u 28) - 1)) 29 (gi u 29)) 25 4 15) 8).toNatClampNeg) true) ?_
            refine V_iload_n C dX8_turn_103 rfl 1 rfl ?_
            refine V_if_gt (tgt := 112) C dX8_turn_104 (by decide) (fun zh104 => ?_) (fun zh104 => ?_)
            · refine V_iload_n C dX8_turn_112 rfl 3 rfl ?_
              refine V_goto (tgt := 122) C dX8_turn_113 (by decide) ?_
              exact E xt (sz (sa (si (si u 28 ((gi u 28) - 1)) 29 (gi u 29)) 25 4 15) 20 ((mSlot (sa (si (si u 28 ((gi u 28) - 1)) 29 (gi u 29)) 25 4 15) 8).toNatClampNeg) true) _ _ dX8_turn_122 rfl ⟨by first | rfl | (simp (decide := true) [b2i, gi_si, ga_si, gz_si, gl_si, gb_si, mPl_si, mGet_si, mNat_si, mSlot_si, mBy_si, mThr, mTurnR, mTurnU, mSlot_2, zh11, zh27, Int32.not_le.mp zh27, zh42, Int32.not_le.mp zh42, zh66, zh94, Int32.not_le.mp zh94, zh104, Int32.not_le.mpr zh104]; done) | (simp (decide := true) [b2i, gi_si, ga_si, gz_si, gl_si, gb_si, mPl_si, mGet_si, mNat_si, mSlot_si, mBy_si, mThr, mTurnR, mTurnU, mSlot_2, zh11, zh27, Int32.not_le.mp zh27, zh42, Int32.not_le.mp zh42, zh66, zh94, Int32.not_le.mp zh94, zh104, Int32.not_le.mpr zh104]; rfl) | (simp_all (decide := true) [b2i, gi_si, ga_si, gz_si, gl_si, gb_si, mPl_si, mGet_si, mNat_si, mSlot_si, mBy_si, mThr, mTurnR, mTurnU, mSlot_2]; done), by first | rfl | (simp (decide := true) [b2i, gi_si, ga_si, gz_si, gl_si, gb_si, mPl_si, mGet_si, mNat_si, mSlot_si, mBy_si, mThr, mTurnR, mTurnU, mSlot_2, zh11, zh27, Int32.not_le.mp zh27, zh42, Int32.not_le.mp zh42, zh66, zh94, Int32.not_le.mp zh94, zh104, Int32.not_le.mpr zh104]; done) | (simp (decide := true) [b2i, gi_si, ga_si, gz_si, gl_si, gb_si, mPl_si, mGet_si, mNat_si, mSlot_si, mBy_si, mThr, mTurnR, mTurnU, mSlot_2, zh11, zh27, Int32.not_le.mp zh27, zh42, Int32.not_le.mp zh42, zh66, zh94, Int32.not_le.mp zh94, zh104, Int32.not_le.mpr zh104]; rfl) | (simp_all (decide := true) [b2i, gi_si, ga_si, gz_si, gl_si, gb_si, mPl_si, mGet_si, mNat_si, mSlot_si, mBy_si, mThr, mTurnR, mTurnU, mSlot_2]; done)⟩
            · first | exact absurd zh104 zh94 | exact absurd zh94 zh104 | exact absurd (Int32.not_lt.mp zh104) zh94 | exact absurd (Int32.not_le.mp zh104) zh94 | exact absurd zh104 (Int32.not_lt.mpr zh94) | exact absurd zh104 (Int32.not_le.mpr zh94) | exact absurd (Int32.not_lt.mp zh94) (Int32.not_le.mpr zh104) | (rw [zh94] at zh104; cases zh104)
  · refine V_iload_n C dX8_turn_14 rfl 0 rfl ?_
    refine V_if_ne (tgt := 25) C dX8_turn_15 (by decide) (fun zh15 => ?_) (fun zh15 => ?_)
    · refine V_aload_n C dX8_turn_25 rfl 2 rfl ?_
      refine V_iload_n C dX8_turn_26 rfl 1 rfl ?_
      refine V_if_le (tgt := 36) C dX8_turn_27 (by decide) (fun zh27 => ?_) (fun zh27 => ?_)
      · refine V_iconst (v := 0) C dX8_turn_36 (by decide) ?_
        refine V_put (ws' := (mw K h (si u 28 0))) C dX8_turn_37 hi8 tyX8_ok nmX8 0 rfl rfl 28 (by decide) (List.mem_of_getElem? (i := 1) rfl) rfl rfl rfl rfl rfl (Nat.le_of_ble_eq_true rfl) (ms_28 K h u 0) ?_
        refine V_aload_n C dX8_turn_40 rfl 2 rfl ?_
        refine V_iload_n C dX8_turn_41 rfl 1 rfl ?_
        refine V_if_le (tgt := 49) C dX8_turn_42 (by decide) (fun zh42 => ?_) (fun zh42 => ?_)
        · refine V_iload_n C dX8_turn_49 rfl 0 rfl ?_
          refine V_iconst (v := 1) C dX8_turn_50 (by decide) ?_
          refine V_isub C dX8_turn_51 ?_
          refine V_put (ws' := (mw K h (si (si u 28 0) 29 ((gi u 29) - 1)))) C dX8_turn_52 hi8 tyX8_ok nmX8 0 rfl rfl 29 (by decide) (List.mem_of_getElem? (i := 2) rfl) rfl rfl rfl rfl rfl (Nat.le_of_ble_eq_true rfl) (ms_29 K h (si u 28 0) ((gi u 29) - 1)) ?_
          refine V_aload_n C dX8_turn_55 rfl 2 rfl ?_
          refine V_get (v := .ref (h 26)) C dX8_turn_56 hi8 0 rfl rfl 25 (by decide) (List.mem_of_getElem? (i := 4) rfl) rfl rfl ?_
          refine V_iconst (v := 4) C dX8_turn_59 (by decide) ?_
          refine V_aload_n C dX8_turn_60 rfl 2 rfl ?_
          refine V_get (v := .ref (h 26)) C dX8_turn_61 hi8 0 rfl rfl 25 (by decide) (List.mem_of_getElem? (i := 4) rfl) rfl rfl ?_
          refine V_iconst (v := 4) C dX8_turn_64 (by decide) ?_
          refine V_ialdn (v := (ga u 25 4)) C dX8_turn_65 13 0 rfl rfl (4) (by decide) (by unfold vp_in; decide) (by first | rfl | (simp (disch := omega) only [ga_sa_ne, ga_sa_eq, ga_si, ga_sb, ga_sz, ga_sl])) ?_
          refine V_if_ne (tgt := 74) C dX8_turn_66 (by decide) (fun zh66 => ?_) (fun zh66 => ?_)
          · refine V_aload_n C dX8_turn_74 rfl 2 rfl ?_
            refine V_get (v := .ref (h 26)) C dX8_turn_75 hi8 0 rfl rfl 25 (by decide) (List.mem_of_getElem? (i := 4) rfl) rfl rfl ?_
            refine V_iconst (v := 4) C dX8_turn_78 (by decide) ?_
            refine V_ialdn (v := (ga u 25 4)) C dX8_turn_79 13 0 rfl rfl (4) (by decide) (by unfold vp_in; decide) (by first | rfl | (simp (disch := omega) only [ga_sa_ne, ga_sa_eq, ga_si, ga_sb, ga_sz, ga_sl])) ?_
            refine V_iconst (v := 1) C dX8_turn_80 (by decide) ?_
            refine V_isub C dX8_turn_81 ?_
            refine V_iastn (ws' := (mw K h (sa (si (si u 28 0) 29 ((gi u 29) - 1)) 25 4 ((ga u 25 4) - 1)))) C dX8_turn_82 13 0 rfl rfl (4) (by decide) (by unfold vp_in; decide) (ms_25 K h (si (si u 28 0) 29 ((gi u 29) - 1)) 4 ((ga u 25 4) - 1)) ?_
            refine V_aload_n C dX8_turn_83 rfl 2 rfl ?_
            refine V_get (v := .ref (h 21)) C dX8_turn_84 hi8 0 rfl rfl 20 (by decide) (List.mem_of_getElem? (i := 5) rfl) rfl rfl ?_
            refine V_aload_n C dX8_turn_87 rfl 2 rfl ?_
            refine V_bipush (v := 8) C dX8_turn_88 (by decide) ?_
            refine V_calliV C dX8_turn_90 0 rfl rfl (c_X8_slot l D K h (sa (si (si u 28 0) 29 ((gi u 29) - 1)) 25 4 ((ga u 25 4) - 1)) 8 ) gX8_turn_X8_slot rfl 1 rfl (by decide +kernel) (by decide) ⟨Nat.le_of_ble_eq_true rfl, Nat.le_of_ble_eq_true rfl⟩ rfl (Nat.le_of_ble_eq_true rfl) (det2 ?_)
            refine V_iload_n C dX8_turn_93 rfl 1 rfl ?_
            refine V_if_le (tgt := 101) C dX8_turn_94 (by decide) (fun zh94 => ?_) (fun zh94 => ?_)
            · refine V_iconst (v := 0) C dX8_turn_101 (by decide) ?_
              refine V_zastn (ws' := (mw K h (sz (sa (si (si u 28 0) 29 ((gi u 29) - 1)) 25 4 ((ga u 25 4) - 1)) 20 ((mSlot (sa (si (si u 28 0) 29 ((gi u 29) - 1)) 25 4 ((ga u 25 4) - 1)) 8).toNatClampNeg) false))) C dX8_turn_102 12 2 rfl rfl ((mSlot (sa (si (si u 28 0) 29 ((gi u 29) - 1)) 25 4 ((ga u 25 4) - 1)) 8).toNatClampNeg) rfl (hp _ (by first | exact Or.inl rfl | exact Or.inr rfl)) (ms_20 K h (sa (si (si u 28 0) 29 ((gi u 29) - 1)) 25 4 ((ga u 25 4) - 1)) ((mSlot (sa (si (si u 28 0) 29 ((gi u 29) - 1)) 25 4 ((ga u 25 4) - 1)) 8).toNatClampNeg) false) ?_
              refine V_iload_n C dX8_turn_103 rfl 1 rfl ?_
              refine V_if_gt (tgt := 112) C dX8_turn_104 (by decide) (fun zh104 => ?_) (fun zh104 => ?_)
              · first | exact absurd zh104 zh94 | exact absurd zh94 zh104 | exact absurd (Int32.not_lt.mp zh104) zh94 | exact absurd (Int32.not_le.mp zh104) zh94 | exact absurd zh104 (Int32.not_lt.mpr zh94) | exact absurd zh104 (Int32.not_le.mpr zh94) | exact absurd (Int32.not_lt.mp zh94) (Int32.not_le.mpr zh104) | (rw [zh94] at zh104; cases zh104)
              · refine V_iload_n C dX8_turn_107 rfl 0 rfl ?_
                refine V_iconst (v := 1) C dX8_turn_108 (by decide) ?_
                refine V_icmp_le (tgt := 116) C dX8_turn_109 (by decide) (fun zh109 => ?_) (fun zh109 => ?_)
                · refine V_aload_n C dX8_turn_116 rfl 2 rfl ?_
                  refine V_get (v := .int (gi u 27)) C dX8_turn_117 hi8 0 rfl rfl 27 (by decide) (List.mem_of_getElem? (i := 3) rfl) rfl rfl ?_
                  refine V_iconst (v := 1) C dX8_turn_120 (by decide) ?_
                  refine V_iadd C dX8_turn_121 ?_
                  exact E ((gi u 27) + 1) (sz (sa (si (si u 28 0) 29 ((gi u 29) - 1)) 25 4 ((ga u 25 4) - 1)) 20 ((mSlot (sa (si (si u 28 0) 29 ((gi u 29) - 1)) 25 4 ((ga u 25 4) - 1)) 8).toNatClampNeg) false) _ _ dX8_turn_122 rfl ⟨by first | rfl | (simp (decide := true) [b2i, gi_si, ga_si, gz_si, gl_si, gb_si, mPl_si, mGet_si, mNat_si, mSlot_si, mBy_si, mThr, mTurnR, mTurnU, mSlot_2, zh11, zh15, zh27, Int32.not_lt.mpr zh27, zh42, Int32.not_lt.mpr zh42, zh66, zh94, Int32.not_lt.mpr zh94, zh104, Int32.not_lt.mp zh104, zh109, Int32.not_lt.mpr zh109]; done) | (simp (decide := true) [b2i, gi_si, ga_si, gz_si, gl_si, gb_si, mPl_si, mGet_si, mNat_si, mSlot_si, mBy_si, mThr, mTurnR, mTurnU, mSlot_2, zh11, zh15, zh27, Int32.not_lt.mpr zh27, zh42, Int32.not_lt.mpr zh42, zh66, zh94, Int32.not_lt.mpr zh94, zh104, Int32.not_lt.mp zh104, zh109, Int32.not_lt.mpr zh109]; rfl) | (simp_all (decide := true) [b2i, gi_si, ga_si, gz_si, gl_si, gb_si, mPl_si, mGet_si, mNat_si, mSlot_si, mBy_si, mThr, mTurnR, mTurnU, mSlot_2]; done), by first | rfl | (simp (decide := true) [b2i, gi_si, ga_si, gz_si, gl_si, gb_si, mPl_si, mGet_si, mNat_si, mSlot_si, mBy_si, mThr, mTurnR, mTurnU, mSlot_2, zh11, zh15, zh27, Int32.not_lt.mpr zh27, zh42, Int32.not_lt.mpr zh42, zh66, zh94, Int32.not_lt.mpr zh94, zh104, Int32.not_lt.mp zh104, zh109, Int32.not_lt.mpr zh109]; done) | (simp (decide := true) [b2i, gi_si, ga_si, gz_si, gl_si, gb_si, mPl_si, mGet_si, mNat_si, mSlot_si, mBy_si, mThr, mTurnR, mTurnU, mSlot_2, zh11, zh15, zh27, Int32.not_lt.mpr zh27, zh42, Int32.not_lt.mpr zh42, zh66, zh94, Int32.not_lt.mpr zh94, zh104, Int32.not_lt.mp zh104, zh109, Int32.not_lt.mpr zh109]; rfl) | (simp_all (decide := true) [b2i, gi_si, ga_si, gz_si, gl_si, gb_si, mPl_si, mGet_si, mNat_si, mSlot_si, mBy_si, mThr, mTurnR, mTurnU, mSlot_2]; done)⟩
                · refine V_iload_n C dX8_turn_112 rfl 3 rfl ?_
                  refine V_goto (tgt := 122) C dX8_turn_113 (by decide) ?_
                  exact E xt (sz (sa (si (si u 28 0) 29 ((gi u 29) - 1)) 25 4 ((ga u 25 4) - 1)) 20 ((mSlot (sa (si (si u 28 0) 29 ((gi u 29) - 1)) 25 4 ((ga u 25 4) - 1)) 8).toNatClampNeg) false) _ _ dX8_turn_122 rfl ⟨by first | rfl | (simp (decide := true) [b2i, gi_si, ga_si, gz_si, gl_si, gb_si, mPl_si, mGet_si, mNat_si, mSlot_si, mBy_si, mThr, mTurnR, mTurnU, mSlot_2, zh11, zh15, zh27, Int32.not_lt.mpr zh27, zh42, Int32.not_lt.mpr zh42, zh66, zh94, Int32.not_lt.mpr zh94, zh104, Int32.not_lt.mp zh104, zh109, Int32.not_le.mp zh109]; done) | (simp (decide := true) [b2i, gi_si, ga_si, gz_si, gl_si, gb_si, mPl_si, mGet_si, mNat_si, mSlot_si, mBy_si, mThr, mTurnR, mTurnU, mSlot_2, zh11, zh15, zh27, Int32.not_lt.mpr zh27, zh42, Int32.not_lt.mpr zh42, zh66, zh94, Int32.not_lt.mpr zh94, zh104, Int32.not_lt.mp zh104, zh109, Int32.not_le.mp zh109]; rfl) | (simp_all (decide := true) [b2i, gi_si, ga_si, gz_si, gl_si, gb_si, mPl_si, mGet_si, mNat_si, mSlot_si, mBy_si, mThr, mTurnR, mTurnU, mSlot_2]; done), by first | rfl | (simp (decide := true) [b2i, gi_si, ga_si, gz_si, gl_si, gb_si, mPl_si, mGet_si, mNat_si, mSlot_si, mBy_si, mThr, mTurnR, mTurnU, mSlot_2, zh11, zh15, zh27, Int32.not_lt.mpr zh27, zh42, Int32.not_lt.mpr zh42, zh66, zh94, Int32.not_lt.mpr zh94, zh104, Int32.not_lt.mp zh104, zh109, Int32.not_le.mp zh109]; done) | (simp (decide := true) [b2i, gi_si, ga_si, gz_si, gl_si, gb_si, mPl_si, mGet_si, mNat_si, mSlot_si, mBy_si, mThr, mTurnR, mTurnU, mSlot_2, zh11, zh15, zh27, Int32.not_lt.mpr zh27, zh42, Int32.not_lt.mpr zh42, zh66, zh94, Int32.not_lt.mpr zh94, zh104, Int32.not_lt.mp zh104, zh109, Int32.not_le.mp zh109]; rfl) | (simp_all (decide := true) [b2i, gi_si, ga_si, gz_si, gl_si, gb_si, mPl_si, mGet_si, mNat_si, mSlot_si, mBy_si, mThr, mTurnR, mTurnU, mSlot_2]; done)⟩
            · first | exact absurd zh94 zh42 | exact absurd zh42 zh94 | exact absurd (Int32.not_lt.mp zh94) zh42 | exact absurd (Int32.not_le.mp zh94) zh42 | exact absurd zh94 (Int32.not_lt.mpr zh42) | exact absurd zh94 (Int32.not_le.mpr zh42) | exact absurd (Int32.not_lt.mp zh42) (Int32.not_le.mpr zh94) | (rw [zh42] at zh94; cases zh94)
          · refine V_bipush (v := 15) C dX8_turn_69 (by decide) ?_
            refine V_goto (tgt := 82) C dX8_turn_71 (by decide) ?_
            refine V_iastn (ws' := (mw K h (sa (si (si u 28 0) 29 ((gi u 29) - 1)) 25 4 15))) C dX8_turn_82 13 0 rfl rfl (4) (by decide) (by unfold vp_in; decide) (ms_25 K h (si (si u 28 0) 29 ((gi u 29) - 1)) 4 15) ?_
            refine V_aload_n C dX8_turn_83 rfl 2 rfl ?_
            refine V_get (v := .ref (h 21)) C dX8_turn_84 hi8 0 rfl rfl 20 (by decide) (List.mem_of_getElem? (i := 5) rfl) rfl rfl ?_
            refine V_aload_n C dX8_turn_87 rfl 2 rfl ?_
            refine V_bipush (v := 8) C dX8_turn_88 (by decide) ?_
            refine V_calliV C dX8_turn_90 0 rfl rfl (c_X8_slot l D K h (sa (si (si u 28 0) 29 ((gi u 29) - 1)) 25 4 15) 8 ) gX8_turn_X8_slot rfl 1 rfl (by decide +kernel) (by decide) ⟨Nat.le_of_ble_eq_true rfl, Nat.le_of_ble_eq_true rfl⟩ rfl (Nat.le_of_ble_eq_true rfl) (det2 ?_)
            refine V_iload_n C dX8_turn_93 rfl 1 rfl ?_
            refine V_if_le (tgt := 101) C dX8_turn_94 (by decide) (fun zh94 => ?_) (fun zh94 => ?_)
            · refine V_iconst (v := 0) C dX8_turn_101 (by decide) ?_
              refine V_zastn (ws' := (mw K h (sz (sa (si (si u 28 0) 29 ((gi u 29) - 1)) 25 4 15) 20 ((mSlot (sa (si (si u 28 0) 29 ((gi u 29) - 1)) 25 4 15) 8).toNatClampNeg) false))) C dX8_turn_102 12 2 rfl rfl ((mSlot (sa (si (si u 28 0) 29 ((gi u 29) - 1)) 25 4 15) 8).toNatClampNeg) rfl (hp _ (by first | exact Or.inl rfl | exact Or.inr rfl)) (ms_20 K h (sa (si (si u 28 0) 29 ((gi u 29) - 1)) 25 4 15) ((mSlot (sa (si (si u 28 0) 29 ((gi u 29) - 1)) 25 4 15) 8).toNatClampNeg) false) ?_
              refine V_iload_n C dX8_turn_103 rfl 1 rfl ?_
              refine V_if_gt (tgt := 112) C dX8_turn_104 (by decide) (fun zh104 => ?_) (fun zh104 => ?_)
              · first | exact absurd zh104 zh94 | exact absurd zh94 zh104 | exact absurd (Int32.not_lt.mp zh104) zh94 | exact absurd (Int32.not_le.mp zh104) zh94 | exact absurd zh104 (Int32.not_lt.mpr zh94) | exact absurd zh104 (Int32.not_le.mpr zh94) | exact absurd (Int32.not_lt.mp zh94) (Int32.not_le.mpr zh104) | (rw [zh94] at zh104; cases zh104)
              · refine V_iload_n C dX8_turn_107 rfl 0 rfl ?_
                refine V_iconst (v := 1) C dX8_turn_108 (by decide) ?_
                refine V_icmp_le (tgt := 116) C dX8_turn_109 (by decide) (fun zh109 => ?_) (fun zh109 => ?_)
                · refine V_aload_n C dX8_turn_116 rfl 2 rfl ?_
                  refine V_get (v := .int (gi u 27)) C dX8_turn_117 hi8 0 rfl rfl 27 (by decide) (List.mem_of_getElem? (i := 3) rfl) rfl rfl ?_
                  refine V_iconst (v := 1) C dX8_turn_120 (by decide) ?_
                  refine V_iadd C dX8_turn_121 ?_
                  exact E ((gi u 27) + 1) (sz (sa (si (si u 28 0) 29 ((gi u 29) - 1)) 25 4 15) 20 ((mSlot (sa (si (si u 28 0) 29 ((gi u 29) - 1)) 25 4 15) 8).toNatClampNeg) false) _ _ dX8_turn_122 rfl ⟨by first | rfl | (simp (decide := true) [b2i, gi_si, ga_si, gz_si, gl_si, gb_si, mPl_si, mGet_si, mNat_si, mSlot_si, mBy_si, mThr, mTurnR, mTurnU, mSlot_2, zh11, zh15, zh27, Int32.not_lt.mpr zh27, zh42, Int32.not_lt.mpr zh42, zh66, zh94, Int32.not_lt.mpr zh94, zh104, Int32.not_lt.mp zh104, zh109, Int32.not_lt.mpr zh109]; done) | (simp (decide := true) [b2i, gi_si, ga_si, gz_si, gl_si, gb_si, mPl_si, mGet_si, mNat_si, mSlot_si, mBy_si, mThr, mTurnR, mTurnU, mSlot_2, zh11, zh15, zh27, Int32.not_lt.mpr zh27, zh42, Int32.not_lt.mpr zh42, zh66, zh94, Int32.not_lt.mpr zh94, zh104, Int32.not_lt.mp zh104, zh109, Int32.not_lt.mpr zh109]; rfl) | (simp_all (decide := true) [b2i, gi_si, ga_si, gz_si, gl_si, gb_si, mPl_si, mGet_si, mNat_si, mSlot_si, mBy_si, mThr, mTurnR, mTurnU, mSlot_2]; done), by first | rfl | (simp (decide := true) [b2i, gi_si, ga_si, gz_si, gl_si, gb_si, mPl_si, mGet_si, mNat_si, mSlot_si, mBy_si, mThr, mTurnR, mTurnU, mSlot_2, zh11, zh15, zh27, Int32.not_lt.mpr zh27, zh42, Int32.not_lt.mpr zh42, zh66, zh94, Int32.not_lt.mpr zh94, zh104, Int32.not_lt.mp zh104, zh109, Int32.not_lt.mpr zh109]; done) | (simp (decide := true) [b2i, gi_si, ga_si, gz_si, gl_si, gb_si, mPl_si, mGet_si, mNat_si, mSlot_si, mBy_si, mThr, mTurnR, mTurnU, mSlot_2, zh11, zh15, zh27, Int32.not_lt.mpr zh27, zh42, Int32.not_lt.mpr zh42, zh66, zh94, Int32.not_lt.mpr zh94, zh104, Int32.not_lt.mp zh104, zh109, Int32.not_lt.mpr zh109]; rfl) | (simp_all (decide := true) [b2i, gi_si, ga_si, gz_si, gl_si, gb_si, mPl_si, mGet_si, mNat_si, mSlot_si, mBy_si, mThr, mTurnR, mTurnU, mSlot_2]; done)⟩
                · refine V_iload_n C dX8_turn_112 rfl 3 rfl ?_
                  refine V_goto (tgt := 122) C dX8_turn_113 (by decide) ?_
                  exact E xt (sz (sa (si (si u 28 0) 29 ((gi u 29) - 1)) 25 4 15) 20 ((mSlot (sa (si (si u 28 0) 29 ((gi u 29) - 1)) 25 4 15) 8).toNatClampNeg) false) _ _ dX8_turn_122 rfl ⟨by first | rfl | (simp (decide := true) [b2i, gi_si, ga_si, gz_si, gl_si, gb_si, mPl_si, mGet_si, mNat_si, mSlot_si, mBy_si, mThr, mTurnR, mTurnU, mSlot_2, zh11, zh15, zh27, Int32.not_lt.mpr zh27, zh42, Int32.not_lt.mpr zh42, zh66, zh94, Int32.not_lt.mpr zh94, zh104, Int32.not_lt.mp zh104, zh109, Int32.not_le.mp zh109]; done) | (simp (decide := true) [b2i, gi_si, ga_si, gz_si, gl_si, gb_si, mPl_si, mGet_si, mNat_si, mSlot_si, mBy_si, mThr, mTurnR, mTurnU, mSlot_2, zh11, zh15, zh27, Int32.not_lt.mpr zh27, zh42, Int32.not_lt.mpr zh42, zh66, zh94, Int32.not_lt.mpr zh94, zh104, Int32.not_lt.mp zh104, zh109, Int32.not_le.mp zh109]; rfl) | (simp_all (decide := true) [b2i, gi_si, ga_si, gz_si, gl_si, gb_si, mPl_si, mGet_si, mNat_si, mSlot_si, mBy_si, mThr, mTurnR, mTurnU, mSlot_2]; done), by first | rfl | (simp (decide := true) [b2i, gi_si, ga_si, gz_si, gl_si, gb_si, mPl_si, mGet_si, mNat_si, mSlot_si, mBy_si, mThr, mTurnR, mTurnU, mSlot_2, zh11, zh15, zh27, Int32.not_lt.mpr zh27, zh42, Int32.not_lt.mpr zh42, zh66, zh94, Int32.not_lt.mpr zh94, zh104, Int32.not_lt.mp zh104, zh109, Int32.not_le.mp zh109]; done) | (simp (decide := true) [b2i, gi_si, ga_si, gz_si, gl_si, gb_si, mPl_si, mGet_si, mNat_si, mSlot_si, mBy_si, mThr, mTurnR, mTurnU, mSlot_2, zh11, zh15, zh27, Int32.not_lt.mpr zh27, zh42, Int32.not_lt.mpr zh42, zh66, zh94, Int32.not_lt.mpr zh94, zh104, Int32.not_lt.mp zh104, zh109, Int32.not_le.mp zh109]; rfl) | (simp_all (decide := true) [b2i, gi_si, ga_si, gz_si, gl_si, gb_si, mPl_si, mGet_si, mNat_si, mSlot_si, mBy_si, mThr, mTurnR, mTurnU, mSlot_2]; done)⟩
            · first | exact absurd zh94 zh42 | exact absurd zh42 zh94 | exact absurd (Int32.not_lt.mp zh94) zh42 | exact absurd (Int32.not_le.mp zh94) zh42 | exact absurd zh94 (Int32.not_lt.mpr zh42) | exact absurd zh94 (Int32.not_le.mpr zh42) | exact absurd (Int32.not_lt.mp zh42) (Int32.not_le.mpr zh94) | (rw [zh42] at zh94; cases zh94)
        · first | exact absurd zh42 zh27 | exact absurd zh27 zh42 | exact absurd (Int32.not_lt.mp zh42) zh27 | exact absurd (Int32.not_le.mp zh42) zh27 | exact absurd zh42 (Int32.not_lt.mpr zh27) | exact absurd zh42 (Int32.not_le.mpr zh27) | exact absurd (Int32.not_lt.mp zh27) (Int32.not_le.mpr zh42) | (rw [zh27] at zh42; cases zh42)
      · exact absurd zh27 (by rw [zh11]; decide)
    · refine V_aload_n C dX8_turn_18 rfl 2 rfl ?_
      refine V_get (v := .int (gi u 27)) C dX8_turn_19 hi8 0 rfl rfl 27 (by decide) (List.mem_of_getElem? (i := 3) rfl) rfl rfl ?_
      refine V_iconst (v := 1) C dX8_turn_22 (by decide) ?_
      refine V_iadd C dX8_turn_23 ?_
      exact E ((gi u 27) + 1) u _ _ dX8_turn_24 rfl ⟨by first | rfl | (simp (decide := true) [b2i, gi_si, ga_si, gz_si, gl_si, gb_si, mPl_si, mGet_si, mNat_si, mSlot_si, mBy_si, mThr, mTurnR, mTurnU, mSlot_2, zh11, zh15]; done) | (simp (decide := true) [b2i, gi_si, ga_si, gz_si, gl_si, gb_si, mPl_si, mGet_si, mNat_si, mSlot_si, mBy_si, mThr, mTurnR, mTurnU, mSlot_2, zh11, zh15]; rfl) | (simp_all (decide := true) [b2i, gi_si, ga_si, gz_si, gl_si, gb_si, mPl_si, mGet_si, mNat_si, mSlot_si, mBy_si, mThr, mTurnR, mTurnU, mSlot_2]; done), by first | rfl | (simp (decide := true) [b2i, gi_si, ga_si, gz_si, gl_si, gb_si, mPl_si, mGet_si, mNat_si, mSlot_si, mBy_si, mThr, mTurnR, mTurnU, mSlot_2, zh11, zh15]; done) | (simp (decide := true) [b2i, gi_si, ga_si, gz_si, gl_si, gb_si, mPl_si, mGet_si, mNat_si, mSlot_si, mBy_si, mThr, mTurnR, mTurnU, mSlot_2, zh11, zh15]; rfl) | (simp_all (decide := true) [b2i, gi_si, ga_si, gz_si, gl_si, gb_si, mPl_si, mGet_si, mNat_si, mSlot_si, mBy_si, mThr, mTurnR, mTurnU, mSlot_2]; done)⟩

def mReck (u : MS) (o a b c : Int32) : MS := if o = 1 then mPut u a b.toInt64 false else
  if 6 ≤ o then
    sz (sz u 20 (mSlot u a).toNatClampNeg ((if o = 6 then decide (mGet u b < mGet u c) else decide (mGet u b = mGet u c)) && !(mNat u b || mNat u c))) 20 (mSlot u (a + 1)).toNatClampNeg (!(if o = 6 then decide (mGet u b < mGet u c) else decide (mGet u b = mGet u c)) && !(mNat u b || mNat u c))
  else mPut u a (if o = 2 then mGet u b + mGet u c else if o = 3 then mGet u b - mGet u c else if o = 4 then mGet u b * mGet u c else mGet u b &&& mGet u c) (mNat u b || mNat u c)
set_option maxHeartbeats 4000000 in
set_option maxRecDepth 100000 in
theorem c_X8_reckon (l : Launch) (D : va_G) (K : Nat → ClassId) (h : Nat → Nat) (u : MS) (xo : Int32) (xa : Int32) (xb : Int32) (xc : Int32) (hpa : xo = 1 ∨ xo < 6 → mOk u xa) (hpb : ¬ xo = 1 → mOk u xb) (hpc : ¬ xo = 1 → mOk u xc) (hpp : 6 ≤ xo → vp_in (mSlot u xa) 16 ∧ vp_in (mSlot u (xa + 1)) 16) : vMv l D vwCl (tys0 K) yX8_reckon wsX8_reckon ({ frames := 2, cells := 0, slots := 0, locals := 46 } : Room) [.ref (h 0), .int xo, .int xa, .int xb, .int xc] (mw K h u) (mw K h) (fun u9 => u9 = (mReck u xo xa xb xc)) := by
  refine vMv_of (cc := cX8_reckon) (nL := 11) (by decide) rfl (Nat.le_of_ble_eq_true rfl) ?_
  intro X C E
  show V X 0 0 (mw K h u) 0 [(0, .ref (h 0)), (1, .int xo), (2, .int xa), (3, .int xb), (4, .int xc)] []
  have hi8 : ∀ w ∈ wsX80, w ∈ wsX8_reckon := fun _ h => List.mem_cons_of_mem _ (List.mem_append_right _ h)
  refine V_iload_n C dX8_reckon_0 rfl 1 rfl ?_
  refine V_iconst (v := 1) C dX8_reckon_1 (by decide) ?_
  refine V_icmp_ne (tgt := 14) C dX8_reckon_2 (by decide) (fun zh2 => ?_) (fun zh2 => ?_)
  · suffices zj36 : ∀ xn : Bool, xn = (mNat u xb || mNat u xc) → V X 0 0 (mw K h u) 36 [(0, .ref (h 0)), (1, .int xo), (2, .int xa), (3, .int xb), (4, .int xc)] [.int (b2i xn)] by
      refine V_aload_n C dX8_reckon_14 rfl 0 rfl ?_
      refine V_iload_n C dX8_reckon_15 rfl 3 rfl ?_
      refine V_calliV C dX8_reckon_16 0 rfl rfl (c_X8_isNat l D K h u xb (hpb zh2)) gX8_reckon_X8_isNat rfl 1 rfl (by decide +kernel) (by decide) ⟨Nat.le_of_ble_eq_true rfl, Nat.le_of_ble_eq_true rfl⟩ rfl (Nat.le_of_ble_eq_true rfl) (det2 ?_)
      refine V_ifz_ne (tgt := 31) C dX8_reckon_19 (by decide) (fun zh19 => ?_) (fun zh19 => ?_)
      · refine V_iconst (v := 1) C dX8_reckon_31 (by decide) ?_
        refine V_goto (tgt := 36) C dX8_reckon_32 (by decide) ?_
        refine V_sub [0, 1, 2, 3, 4] rfl ?_
        exact zj36 true (by first | rfl | (simp (decide := true) [b2i, gi_si, ga_si, gz_si, gl_si, gb_si, mPl_si, mGet_si, mNat_si, mSlot_si, mBy_si, mThr, zh2, zh19]; done) | (simp (decide := true) [b2i, gi_si, ga_si, gz_si, gl_si, gb_si, mPl_si, mGet_si, mNat_si, mSlot_si, mBy_si, mThr, zh2, zh19]; rfl) | (simp_all (decide := true) [b2i, gi_si, ga_si, gz_si, gl_si, gb_si, mPl_si, mGet_si, mNat_si, mSlot_si, mBy_si, mThr]; done))
      · refine V_aload_n C dX8_reckon_22 rfl 0 rfl ?_
        refine V_iload C dX8_reckon_23 4 rfl ?_
        refine V_calliV C dX8_reckon_25 0 rfl rfl (c_X8_isNat l D K h u xc (hpc zh2)) gX8_reckon_X8_isNat rfl 1 rfl (by decide +kernel) (by decide) ⟨Nat.le_of_ble_eq_true rfl, Nat.le_of_ble_eq_true rfl⟩ rfl (Nat.le_of_ble_eq_true rfl) (det2 ?_)
        refine V_ifz_eq (tgt := 35) C dX8_reckon_28 (by decide) (fun zh28 => ?_) (fun zh28 => ?_)
        · refine V_iconst (v := 0) C dX8_reckon_35 (by decide) ?_
          refine V_sub [0, 1, 2, 3, 4] rfl ?_
          exact zj36 false (by first | rfl | (simp (decide := true) [b2i, gi_si, ga_si, gz_si, gl_si, gb_si, mPl_si, mGet_si, mNat_si, mSlot_si, mBy_si, mThr, zh2, zh19, zh28]; done) | (simp (decide := true) [b2i, gi_si, ga_si, gz_si, gl_si, gb_si, mPl_si, mGet_si, mNat_si, mSlot_si, mBy_si, mThr, zh2, zh19, zh28]; rfl) | (simp_all (decide := true) [b2i, gi_si, ga_si, gz_si, gl_si, gb_si, mPl_si, mGet_si, mNat_si, mSlot_si, mBy_si, mThr]; done))
        · refine V_iconst (v := 1) C dX8_reckon_31 (by decide) ?_
          refine V_goto (tgt := 36) C dX8_reckon_32 (by decide) ?_
          refine V_sub [0, 1, 2, 3, 4] rfl ?_
          exact zj36 true (by first | rfl | (simp (decide := true) [b2i, gi_si, ga_si, gz_si, gl_si, gb_si, mPl_si, mGet_si, mNat_si, mSlot_si, mBy_si, mThr, zh2, zh19, zh28]; done) | (simp (decide := true) [b2i, gi_si, ga_si, gz_si, gl_si, gb_si, mPl_si, mGet_si, mNat_si, mSlot_si, mBy_si, mThr, zh2, zh19, zh28]; rfl) | (simp_all (decide := true) [b2i, gi_si, ga_si, gz_si, gl_si, gb_si, mPl_si, mGet_si, mNat_si, mSlot_si, mBy_si, mThr]; done))
    intro xn e_xn
    refine V_istore (lv' := [(5, .int (b2i xn)), (0, .ref (h 0)), (1, .int xo), (2, .int xa), (3, .int xb), (4, .int xc)]) C dX8_reckon_36 (by decide) rfl ?_
    refine V_aload_n C dX8_reckon_38 rfl 1 rfl ?_
    refine V_iload_n C dX8_reckon_39 rfl 4 rfl ?_
    refine V_calllV C dX8_reckon_40 0 rfl rfl (c_X8_get l D K h u xb (hpb zh2)) gX8_reckon_X8_get rfl 1 rfl (by decide +kernel) (by decide) ⟨Nat.le_of_ble_eq_true rfl, Nat.le_of_ble_eq_true rfl⟩ rfl (Nat.le_of_ble_eq_true rfl) (det2 ?_)
    refine V_lstore (lv' := [(6, .long (mGet u xb)), (5, .int (b2i xn)), (0, .ref (h 0)), (1, .int xo), (2, .int xa), (3, .int xb), (4, .int xc)]) C dX8_reckon_43 (by decide) rfl ?_
    refine V_aload_n C dX8_reckon_45 rfl 2 rfl ?_
    refine V_iload C dX8_reckon_46 6 rfl ?_
    refine V_calllV C dX8_reckon_48 0 rfl rfl (c_X8_get l D K h u xc (hpc zh2)) gX8_reckon_X8_get rfl 1 rfl (by decide +kernel) (by decide) ⟨Nat.le_of_ble_eq_true rfl, Nat.le_of_ble_eq_true rfl⟩ rfl (Nat.le_of_ble_eq_true rfl) (det2 ?_)
    refine V_lstore (lv' := [(8, .long (mGet u xc)), (6, .long (mGet u xb)), (5, .int (b2i xn)), (0, .ref (h 0)), (1, .int xo), (2, .int xa), (3, .int xb), (4, .int xc)]) C dX8_reckon_51 (by decide) rfl ?_
    refine V_iload_n C dX8_reckon_53 rfl 4 rfl ?_
    refine V_bipush (v := 6) C dX8_reckon_54 (by decide) ?_
    refine V_icmp_lt (tgt := 151) C dX8_reckon_56 (by decide) (fun zh56 => ?_) (fun zh56 => ?_)
    · refine V_aload_n C dX8_reckon_151 rfl 3 rfl ?_
      refine V_iload_n C dX8_reckon_152 rfl 5 rfl ?_
      suffices zj197 : ∀ xq : Int64, xq = (if xo = 2 then mGet u xb + mGet u xc else if xo = 3 then mGet u xb - mGet u xc else if xo = 4 then mGet u xb * mGet u xc else mGet u xb &&& mGet u xc) → V X 0 0 (mw K h u) 197 [(8, .long (mGet u xc)), (6, .long (mGet u xb)), (5, .int (b2i xn)), (0, .ref (h 0)), (1, .int xo), (2, .int xa), (3, .int xb), (4, .int xc)] [.long xq, .int xa, .ref (h 0)] by
        refine V_iload_n C dX8_reckon_153 rfl 4 rfl ?_
        refine V_iconst (v := 2) C dX8_reckon_154 (by decide) ?_
        refine V_icmp_ne (tgt := 166) C dX8_reckon_155 (by decide) (fun zh155 => ?_) (fun zh155 => ?_)
        · refine V_iload_n C dX8_reckon_166 rfl 4 rfl ?_
          refine V_iconst (v := 3) C dX8_reckon_167 (by decide) ?_
          refine V_icmp_ne (tgt := 179) C dX8_reckon_168 (by decide) (fun zh168 => ?_) (fun zh168 => ?_)
          · refine V_iload_n C dX8_reckon_179 rfl 4 rfl ?_
            refine V_iconst (v := 4) C dX8_reckon_180 (by decide) ?_
            refine V_icmp_ne (tgt := 192) C dX8_reckon_181 (by decide) (fun zh181 => ?_) (fun zh181 => ?_)
            · refine V_lload C dX8_reckon_192 1 rfl ?_
              refine V_lload C dX8_reckon_194 0 rfl ?_
              refine V_land C dX8_reckon_196 ?_
              refine V_sub [0, 1, 2, 3, 4, 5, 6, 7] rfl ?_
              exact zj197 ((mGet u xb) &&& (mGet u xc)) (by first | rfl | (simp (decide := true) [b2i, gi_si, ga_si, gz_si, gl_si, gb_si, mPl_si, mGet_si, mNat_si, mSlot_si, mBy_si, mThr, zh2, zh56, Int32.not_le.mpr zh56, zh155, zh168, zh181]; done) | (simp (decide := true) [b2i, gi_si, ga_si, gz_si, gl_si, gb_si, mPl_si, mGet_si, mNat_si, mSlot_si, mBy_si, mThr, zh2, zh56, Int32.not_le.mpr zh56, zh155, zh168, zh181]; rfl) | (simp_all (decide := true) [b2i, gi_si, ga_si, gz_si, gl_si, gb_si, mPl_si, mGet_si, mNat_si, mSlot_si, mBy_si, mThr]; done))
            · refine V_lload C dX8_reckon_184 1 rfl ?_
              refine V_lload C dX8_reckon_186 0 rfl ?_
              refine V_lmul C dX8_reckon_188 ?_
              refine V_goto (tgt := 197) C dX8_reckon_189 (by decide) ?_
              refine V_sub [0, 1, 2, 3, 4, 5, 6, 7] rfl ?_
              exact zj197 ((mGet u xb) * (mGet u xc)) (by first | rfl | (simp (decide := true) [b2i, gi_si, ga_si, gz_si, gl_si, gb_si, mPl_si, mGet_si, mNat_si, mSlot_si, mBy_si, mThr, zh2, zh56, Int32.not_le.mpr zh56, zh155, zh168, zh181]; done) | (simp (decide := true) [b2i, gi_si, ga_si, gz_si, gl_si, gb_si, mPl_si, mGet_si, mNat_si, mSlot_si, mBy_si, mThr, zh2, zh56, Int32.not_le.mpr zh56, zh155, zh168, zh181]; rfl) | (simp_all (decide := true) [b2i, gi_si, ga_si, gz_si, gl_si, gb_si, mPl_si, mGet_si, mNat_si, mSlot_si, mBy_si, mThr]; done))
          · refine V_lload C dX8_reckon_171 1 rfl ?_
            refine V_lload C dX8_reckon_173 0 rfl ?_
            refine V_lsub C dX8_reckon_175 ?_
            refine V_goto (tgt := 197) C dX8_reckon_176 (by decide) ?_
            refine V_sub [0, 1, 2, 3, 4, 5, 6, 7] rfl ?_
            exact zj197 ((mGet u xb) - (mGet u xc)) (by first | rfl | (simp (decide := true) [b2i, gi_si, ga_si, gz_si, gl_si, gb_si, mPl_si, mGet_si, mNat_si, mSlot_si, mBy_si, mThr, zh2, zh56, Int32.not_le.mpr zh56, zh155, zh168]; done) | (simp (decide := true) [b2i, gi_si, ga_si, gz_si, gl_si, gb_si, mPl_si, mGet_si, mNat_si, mSlot_si, mBy_si, mThr, zh2, zh56, Int32.not_le.mpr zh56, zh155, zh168]; rfl) | (simp_all (decide := true) [b2i, gi_si, ga_si, gz_si, gl_si, gb_si, mPl_si, mGet_si, mNat_si, mSlot_si, mBy_si, mThr]; done))
        · refine V_lload C dX8_reckon_158 1 rfl ?_
          refine V_lload C dX8_reckon_160 0 rfl ?_
          refine V_ladd C dX8_reckon_162 ?_
          refine V_goto (tgt := 197) C dX8_reckon_163 (by decide) ?_
          refine V_sub [0, 1, 2, 3, 4, 5, 6, 7] rfl ?_
          exact zj197 ((mGet u xb) + (mGet u xc)) (by first | rfl | (simp (decide := true) [b2i, gi_si, ga_si, gz_si, gl_si, gb_si, mPl_si, mGet_si, mNat_si, mSlot_si, mBy_si, mThr, zh2, zh56, Int32.not_le.mpr zh56, zh155]; done) | (simp (decide := true) [b2i, gi_si, ga_si, gz_si, gl_si, gb_si, mPl_si, mGet_si, mNat_si, mSlot_si, mBy_si, mThr, zh2, zh56, Int32.not_le.mpr zh56, zh155]; rfl) | (simp_all (decide := true) [b2i, gi_si, ga_si, gz_si, gl_si, gb_si, mPl_si, mGet_si, mNat_si, mSlot_si, mBy_si, mThr]; done))
      intro xq e_xq
      refine V_iload C dX8_reckon_197 2 rfl ?_
      refine V_callvV C dX8_reckon_199 0 rfl rfl (c_X8_put l D K h u xa xq xn (hpa (Or.inr zh56))) gX8_reckon_X8_put rfl 3 rfl (by decide +kernel) (by decide) ⟨Nat.le_of_ble_eq_true rfl, Nat.le_of_ble_eq_true rfl⟩ rfl (Nat.le_of_ble_eq_true rfl) (det1 ?_)
      exact E (mPut u xa xq xn) _ _ dX8_reckon_202 (by unfold mReck; rw [if_neg zh2, if_neg (Int32.not_le.mpr zh56), ← e_xn, ← e_xq])
    · suffices zj94 : ∀ xg : Bool, xg = (if xo = 6 then decide (mGet u xb < mGet u xc) else decide (mGet u xb = mGet u xc)) → V X 0 0 (mw K h u) 94 [(8, .long (mGet u xc)), (6, .long (mGet u xb)), (5, .int (b2i xn)), (0, .ref (h 0)), (1, .int xo), (2, .int xa), (3, .int xb), (4, .int xc)] [.int (b2i xg)] by
        refine V_iload_n C dX8_reckon_59 rfl 4 rfl ?_
        refine V_bipush (v := 6) C dX8_reckon_60 (by decide) ?_
        refine V_icmp_ne (tgt := 81) C dX8_reckon_62 (by decide) (fun zh62 => ?_) (fun zh62 => ?_)
        · refine V_lload C dX8_reckon_81 1 rfl ?_
          refine V_lload C dX8_reckon_83 0 rfl ?_
          refine V_lcmp C dX8_reckon_85 ?_
          refine V_lc_ne (tgt := 93) C dX8_reckon_86 (by decide) (fun zh86 => ?_) (fun zh86 => ?_)
          · refine V_iconst (v := 0) C dX8_reckon_93 (by decide) ?_
            refine V_sub [0, 1, 2, 3, 4, 5, 6, 7] rfl ?_
            exact zj94 false (by first | rfl | (simp (decide := true) [b2i, gi_si, ga_si, gz_si, gl_si, gb_si, mPl_si, mGet_si, mNat_si, mSlot_si, mBy_si, mThr, zh2, zh56, Int32.not_lt.mp zh56, zh62, zh86]; done) | (simp (decide := true) [b2i, gi_si, ga_si, gz_si, gl_si, gb_si, mPl_si, mGet_si, mNat_si, mSlot_si, mBy_si, mThr, zh2, zh56, Int32.not_lt.mp zh56, zh62, zh86]; rfl) | (simp_all (decide := true) [b2i, gi_si, ga_si, gz_si, gl_si, gb_si, mPl_si, mGet_si, mNat_si, mSlot_si, mBy_si, mThr]; done))
          · refine V_iconst (v := 1) C dX8_reckon_89 (by decide) ?_
            refine V_goto (tgt := 94) C dX8_reckon_90 (by decide) ?_
            refine V_sub [0, 1, 2, 3, 4, 5, 6, 7] rfl ?_
            exact zj94 true (by first | rfl | (simp (decide := true) [b2i, gi_si, ga_si, gz_si, gl_si, gb_si, mPl_si, mGet_si, mNat_si, mSlot_si, mBy_si, mThr, zh2, zh56, Int32.not_lt.mp zh56, zh62, zh86]; done) | (simp (decide := true) [b2i, gi_si, ga_si, gz_si, gl_si, gb_si, mPl_si, mGet_si, mNat_si, mSlot_si, mBy_si, mThr, zh2, zh56, Int32.not_lt.mp zh56, zh62, zh86]; rfl) | (simp_all (decide := true) [b2i, gi_si, ga_si, gz_si, gl_si, gb_si, mPl_si, mGet_si, mNat_si, mSlot_si, mBy_si, mThr]; done))
        · refine V_lload C dX8_reckon_65 1 rfl ?_
          refine V_lload C dX8_reckon_67 0 rfl ?_
          refine V_lcmp C dX8_reckon_69 ?_
          refine V_lc_ge (tgt := 77) C dX8_reckon_70 (by decide) (fun zh70 => ?_) (fun zh70 => ?_)
          · refine V_iconst (v := 0) C dX8_reckon_77 (by decide) ?_
            refine V_goto (tgt := 94) C dX8_reckon_78 (by decide) ?_
            refine V_sub [0, 1, 2, 3, 4, 5, 6, 7] rfl ?_
            exact zj94 false (by first | rfl | (simp (decide := true) [b2i, gi_si, ga_si, gz_si, gl_si, gb_si, mPl_si, mGet_si, mNat_si, mSlot_si, mBy_si, mThr, zh2, zh56, Int32.not_lt.mp zh56, zh62, zh70, Int64.not_lt.mpr zh70]; done) | (simp (decide := true) [b2i, gi_si, ga_si, gz_si, gl_si, gb_si, mPl_si, mGet_si, mNat_si, mSlot_si, mBy_si, mThr, zh2, zh56, Int32.not_lt.mp zh56, zh62, zh70, Int64.not_lt.mpr zh70]; rfl) | (simp_all (decide := true) [b2i, gi_si, ga_si, gz_si, gl_si, gb_si, mPl_si, mGet_si, mNat_si, mSlot_si, mBy_si, mThr]; done))
          · refine V_iconst (v := 1) C dX8_reckon_73 (by decide) ?_
            refine V_goto (tgt := 94) C dX8_reckon_74 (by decide) ?_
            refine V_sub [0, 1, 2, 3, 4, 5, 6, 7] rfl ?_
            exact zj94 true (by first | rfl | (simp (decide := true) [b2i, gi_si, ga_si, gz_si, gl_si, gb_si, mPl_si, mGet_si, mNat_si, mSlot_si, mBy_si, mThr, zh2, zh56, Int32.not_lt.mp zh56, zh62, zh70, Int64.not_le.mp zh70]; done) | (simp (decide := true) [b2i, gi_si, ga_si, gz_si, gl_si, gb_si, mPl_si, mGet_si, mNat_si, mSlot_si, mBy_si, mThr, zh2, zh56, Int32.not_lt.mp zh56, zh62, zh70, Int64.not_le.mp zh70]; rfl) | (simp_all (decide := true) [b2i, gi_si, ga_si, gz_si, gl_si, gb_si, mPl_si, mGet_si, mNat_si, mSlot_si, mBy_si, mThr]; done))
      intro xg e_xg
      refine V_istore (lv' := [(10, .int (b2i xg)), (8, .long (mGet u xc)), (6, .long (mGet u xb)), (5, .int (b2i xn)), (0, .ref (h 0)), (1, .int xo), (2, .int xa), (3, .int xb), (4, .int xc)]) C dX8_reckon_94 (by decide) rfl ?_
      refine V_aload_n C dX8_reckon_96 rfl 4 rfl ?_
      refine V_get (v := .ref (h 21)) C dX8_reckon_97 hi8 0 rfl rfl 20 (by decide) (List.mem_of_getElem? (i := 1) rfl) rfl rfl ?_
      refine V_aload_n C dX8_reckon_100 rfl 4 rfl ?_
      refine V_iload_n C dX8_reckon_101 rfl 6 rfl ?_
      refine V_calliV C dX8_reckon_102 0 rfl rfl (c_X8_slot l D K h u xa ) gX8_reckon_X8_slot rfl 1 rfl (by decide +kernel) (by decide) ⟨Nat.le_of_ble_eq_true rfl, Nat.le_of_ble_eq_true rfl⟩ rfl (Nat.le_of_ble_eq_true rfl) (det2 ?_)
      refine V_iload C dX8_reckon_105 0 rfl ?_
      refine V_ifz_eq (tgt := 119) C dX8_reckon_107 (by decide) (fun zh107 => ?_) (fun zh107 => ?_)
      · refine V_iconst (v := 0) C dX8_reckon_119 (by decide) ?_
        refine V_zastn (ws' := (mw K h (sz u 20 ((mSlot u xa).toNatClampNeg) false))) C dX8_reckon_120 12 2 rfl rfl ((mSlot u xa).toNatClampNeg) rfl ((hpp (Int32.not_lt.mp zh56)).1) (ms_20 K h u ((mSlot u xa).toNatClampNeg) false) ?_
        refine V_aload_n C dX8_reckon_121 rfl 4 rfl ?_
        refine V_get (v := .ref (h 21)) C dX8_reckon_122 hi8 0 rfl rfl 20 (by decide) (List.mem_of_getElem? (i := 1) rfl) rfl rfl ?_
        refine V_aload_n C dX8_reckon_125 rfl 4 rfl ?_
        refine V_iload_n C dX8_reckon_126 rfl 6 rfl ?_
        refine V_iconst (v := 1) C dX8_reckon_127 (by decide) ?_
        refine V_iadd C dX8_reckon_128 ?_
        refine V_calliV C dX8_reckon_129 0 rfl rfl (c_X8_slot l D K h (sz u 20 ((mSlot u xa).toNatClampNeg) false) (xa + 1) ) gX8_reckon_X8_slot rfl 1 rfl (by decide +kernel) (by decide) ⟨Nat.le_of_ble_eq_true rfl, Nat.le_of_ble_eq_true rfl⟩ rfl (Nat.le_of_ble_eq_true rfl) (det2 ?_)
        refine V_iload C dX8_reckon_132 0 rfl ?_
        refine V_ifz_ne (tgt := 146) C dX8_reckon_134 (by decide) (fun zh134 => ?_) (fun zh134 => ?_)
        · first | exact absurd zh134 zh107 | exact absurd zh107 zh134 | exact absurd (Int32.not_lt.mp zh134) zh107 | exact absurd (Int32.not_le.mp zh134) zh107 | exact absurd zh134 (Int32.not_lt.mpr zh107) | exact absurd zh134 (Int32.not_le.mpr zh107) | exact absurd (Int32.not_lt.mp zh107) (Int32.not_le.mpr zh134) | (rw [zh107] at zh134; cases zh134)
        · refine V_iload C dX8_reckon_137 3 rfl ?_
          refine V_ifz_ne (tgt := 146) C dX8_reckon_139 (by decide) (fun zh139 => ?_) (fun zh139 => ?_)
          · refine V_iconst (v := 0) C dX8_reckon_146 (by decide) ?_
            refine V_zastn (ws' := (mw K h (sz (sz u 20 ((mSlot u xa).toNatClampNeg) false) 20 ((mSlot (sz u 20 ((mSlot u xa).toNatClampNeg) false) (xa + 1)).toNatClampNeg) false))) C dX8_reckon_147 12 2 rfl rfl ((mSlot (sz u 20 ((mSlot u xa).toNatClampNeg) false) (xa + 1)).toNatClampNeg) rfl ((hpp (Int32.not_lt.mp zh56)).2) (ms_20 K h (sz u 20 ((mSlot u xa).toNatClampNeg) false) ((mSlot (sz u 20 ((mSlot u xa).toNatClampNeg) false) (xa + 1)).toNatClampNeg) false) ?_
            refine V_goto (tgt := 202) C dX8_reckon_148 (by decide) ?_
            exact E (sz (sz u 20 ((mSlot u xa).toNatClampNeg) false) 20 ((mSlot (sz u 20 ((mSlot u xa).toNatClampNeg) false) (xa + 1)).toNatClampNeg) false) _ _ dX8_reckon_202 (by unfold mReck; rw [if_neg zh2, if_pos (Int32.not_lt.mp zh56), ← e_xn, ← e_xg]; simp [zh107, zh134, zh139]; try rfl)
          · refine V_iconst (v := 1) C dX8_reckon_142 (by decide) ?_
            refine V_goto (tgt := 147) C dX8_reckon_143 (by decide) ?_
            refine V_zastn (ws' := (mw K h (sz (sz u 20 ((mSlot u xa).toNatClampNeg) false) 20 ((mSlot (sz u 20 ((mSlot u xa).toNatClampNeg) false) (xa + 1)).toNatClampNeg) true))) C dX8_reckon_147 12 2 rfl rfl ((mSlot (sz u 20 ((mSlot u xa).toNatClampNeg) false) (xa + 1)).toNatClampNeg) rfl ((hpp (Int32.not_lt.mp zh56)).2) (ms_20 K h (sz u 20 ((mSlot u xa).toNatClampNeg) false) ((mSlot (sz u 20 ((mSlot u xa).toNatClampNeg) false) (xa + 1)).toNatClampNeg) true) ?_
            refine V_goto (tgt := 202) C dX8_reckon_148 (by decide) ?_
            exact E (sz (sz u 20 ((mSlot u xa).toNatClampNeg) false) 20 ((mSlot (sz u 20 ((mSlot u xa).toNatClampNeg) false) (xa + 1)).toNatClampNeg) true) _ _ dX8_reckon_202 (by unfold mReck; rw [if_neg zh2, if_pos (Int32.not_lt.mp zh56), ← e_xn, ← e_xg]; simp [zh107, zh134, zh139]; try rfl)
      · refine V_iload C dX8_reckon_110 3 rfl ?_
        refine V_ifz_ne (tgt := 119) C dX8_reckon_112 (by decide) (fun zh112 => ?_) (fun zh112 => ?_)
        · refine V_iconst (v := 0) C dX8_reckon_119 (by decide) ?_
          refine V_zastn (ws' := (mw K h (sz u 20 ((mSlot u xa).toNatClampNeg) false))) C dX8_reckon_120 12 2 rfl rfl ((mSlot u xa).toNatClampNeg) rfl ((hpp (Int32.not_lt.mp zh56)).1) (ms_20 K h u ((mSlot u xa).toNatClampNeg) false) ?_
          refine V_aload_n C dX8_reckon_121 rfl 4 rfl ?_
          refine V_get (v := .ref (h 21)) C dX8_reckon_122 hi8 0 rfl rfl 20 (by decide) (List.mem_of_getElem? (i := 1) rfl) rfl rfl ?_
          refine V_aload_n C dX8_reckon_125 rfl 4 rfl ?_
          refine V_iload_n C dX8_reckon_126 rfl 6 rfl ?_
          refine V_iconst (v := 1) C dX8_reckon_127 (by decide) ?_
          refine V_iadd C dX8_reckon_128 ?_
          refine V_calliV C dX8_reckon_129 0 rfl rfl (c_X8_slot l D K h (sz u 20 ((mSlot u xa).toNatClampNeg) false) (xa + 1) ) gX8_reckon_X8_slot rfl 1 rfl (by decide +kernel) (by decide) ⟨Nat.le_of_ble_eq_true rfl, Nat.le_of_ble_eq_true rfl⟩ rfl (Nat.le_of_ble_eq_true rfl) (det2 ?_)
          refine V_iload C dX8_reckon_132 0 rfl ?_
          refine V_ifz_ne (tgt := 146) C dX8_reckon_134 (by decide) (fun zh134 => ?_) (fun zh134 => ?_)
          · refine V_iconst (v := 0) C dX8_reckon_146 (by decide) ?_
            refine V_zastn (ws' := (mw K h (sz (sz u 20 ((mSlot u xa).toNatClampNeg) false) 20 ((mSlot (sz u 20 ((mSlot u xa).toNatClampNeg) false) (xa + 1)).toNatClampNeg) false))) C dX8_reckon_147 12 2 rfl rfl ((mSlot (sz u 20 ((mSlot u xa).toNatClampNeg) false) (xa + 1)).toNatClampNeg) rfl ((hpp (Int32.not_lt.mp zh56)).2) (ms_20 K h (sz u 20 ((mSlot u xa).toNatClampNeg) false) ((mSlot (sz u 20 ((mSlot u xa).toNatClampNeg) false) (xa + 1)).toNatClampNeg) false) ?_
            refine V_goto (tgt := 202) C dX8_reckon_148 (by decide) ?_
            exact E (sz (sz u 20 ((mSlot u xa).toNatClampNeg) false) 20 ((mSlot (sz u 20 ((mSlot u xa).toNatClampNeg) false) (xa + 1)).toNatClampNeg) false) _ _ dX8_reckon_202 (by unfold mReck; rw [if_neg zh2, if_pos (Int32.not_lt.mp zh56), ← e_xn, ← e_xg]; simp [zh107, zh112, zh134]; try rfl)
          · first | exact absurd zh134 zh107 | exact absurd zh107 zh134 | exact absurd (Int32.not_lt.mp zh134) zh107 | exact absurd (Int32.not_le.mp zh134) zh107 | exact absurd zh134 (Int32.not_lt.mpr zh107) | exact absurd zh134 (Int32.not_le.mpr zh107) | exact absurd (Int32.not_lt.mp zh107) (Int32.not_le.mpr zh134) | (rw [zh107] at zh134; cases zh134)
        · refine V_iconst (v := 1) C dX8_reckon_115 (by decide) ?_
          refine V_goto (tgt := 120) C dX8_reckon_116 (by decide) ?_
          refine V_zastn (ws' := (mw K h (sz u 20 ((mSlot u xa).toNatClampNeg) true))) C dX8_reckon_120 12 2 rfl rfl ((mSlot u xa).toNatClampNeg) rfl ((hpp (Int32.not_lt.mp zh56)).1) (ms_20 K h u ((mSlot u xa).toNatClampNeg) true) ?_
          refine V_aload_n C dX8_reckon_121 rfl 4 rfl ?_
          refine V_get (v := .ref (h 21)) C dX8_reckon_122 hi8 0 rfl rfl 20 (by decide) (List.mem_of_getElem? (i := 1) rfl) rfl rfl ?_
          refine V_aload_n C dX8_reckon_125 rfl 4 rfl ?_
          refine V_iload_n C dX8_reckon_126 rfl 6 rfl ?_
          refine V_iconst (v := 1) C dX8_reckon_127 (by decide) ?_
          refine V_iadd C dX8_reckon_128 ?_
          refine V_calliV C dX8_reckon_129 0 rfl rfl (c_X8_slot l D K h (sz u 20 ((mSlot u xa).toNatClampNeg) true) (xa + 1) ) gX8_reckon_X8_slot rfl 1 rfl (by decide +kernel) (by decide) ⟨Nat.le_of_ble_eq_true rfl, Nat.le_of_ble_eq_true rfl⟩ rfl (Nat.le_of_ble_eq_true rfl) (det2 ?_)
          refine V_iload C dX8_reckon_132 0 rfl ?_
          refine V_ifz_ne (tgt := 146) C dX8_reckon_134 (by decide) (fun zh134 => ?_) (fun zh134 => ?_)
          · refine V_iconst (v := 0) C dX8_reckon_146 (by decide) ?_
            refine V_zastn (ws' := (mw K h (sz (sz u 20 ((mSlot u xa).toNatClampNeg) true) 20 ((mSlot (sz u 20 ((mSlot u xa).toNatClampNeg) true) (xa + 1)).toNatClampNeg) false))) C dX8_reckon_147 12 2 rfl rfl ((mSlot (sz u 20 ((mSlot u xa).toNatClampNeg) true) (xa + 1)).toNatClampNeg) rfl ((hpp (Int32.not_lt.mp zh56)).2) (ms_20 K h (sz u 20 ((mSlot u xa).toNatClampNeg) true) ((mSlot (sz u 20 ((mSlot u xa).toNatClampNeg) true) (xa + 1)).toNatClampNeg) false) ?_
            refine V_goto (tgt := 202) C dX8_reckon_148 (by decide) ?_
            exact E (sz (sz u 20 ((mSlot u xa).toNatClampNeg) true) 20 ((mSlot (sz u 20 ((mSlot u xa).toNatClampNeg) true) (xa + 1)).toNatClampNeg) false) _ _ dX8_reckon_202 (by unfold mReck; rw [if_neg zh2, if_pos (Int32.not_lt.mp zh56), ← e_xn, ← e_xg]; simp [zh107, zh112, zh134]; try rfl)
          · first | exact absurd zh134 zh107 | exact absurd zh107 zh134 | exact absurd (Int32.not_lt.mp zh134) zh107 | exact absurd (Int32.not_le.mp zh134) zh107 | exact absurd zh134 (Int32.not_lt.mpr zh107) | exact absurd zh134 (Int32.not_le.mpr zh107) | exact absurd (Int32.not_lt.mp zh107) (Int32.not_le.mpr zh134) | (rw [zh107] at zh134; cases zh134)
  · refine V_aload_n C dX8_reckon_5 rfl 0 rfl ?_
    refine V_iload_n C dX8_reckon_6 rfl 2 rfl ?_
    refine V_iload_n C dX8_reckon_7 rfl 3 rfl ?_
    refine V_i2l C dX8_reckon_8 ?_
    refine V_iconst (v := 0) C dX8_reckon_9 (by decide) ?_
    refine V_callvV C dX8_reckon_10 0 rfl rfl (c_X8_put l D K h u xa (Int32.toInt64 xb) false (hpa (Or.inl zh2))) gX8_reckon_X8_put rfl 3 rfl (by decide +kernel) (by decide) ⟨Nat.le_of_ble_eq_true rfl, Nat.le_of_ble_eq_true rfl⟩ rfl (Nat.le_of_ble_eq_true rfl) (det1 ?_)
    exact E (mPut u xa (Int32.toInt64 xb) false) _ _ dX8_reckon_13 (by simp [mReck, zh2])

