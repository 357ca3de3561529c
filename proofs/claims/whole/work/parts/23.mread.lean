theorem mOut_f {x lo hi : Int32} (h : mOut x lo hi = false) : lo.toInt ≤ x.toInt ∧ x.toInt ≤ hi.toInt := by
  unfold mOut at h
  have zh2 := of_decide_eq_false h
  have zh3 : ¬ x < lo := fun q => zh2 (Or.inl q)
  have zh4 : ¬ hi < x := fun q => zh2 (Or.inr q)
  exact ⟨Int32.le_iff_toInt_le.mp (Int32.not_lt.mp zh3), Int32.le_iff_toInt_le.mp (Int32.not_lt.mp zh4)⟩
theorem mOut_in {x lo hi : Int32} (n : Nat) (h : mOut x lo hi = false) (zh0 : 0 ≤ lo.toInt) (hh : hi.toInt < n) : vp_in x n := by
  obtain ⟨zh1, zh2⟩ := mOut_f h
  exact vp_in_iff.mpr ⟨by omega, by omega⟩
theorem mOkS {u : MS} {x lo : Int32} (h : mOut x lo 7 = false) (zh0 : 0 ≤ lo.toInt) : mOk u x := by
  obtain ⟨zh1, zh2⟩ := mOut_f h
  refine ⟨fun q => ?_, fun _ => mOut_in 8 h zh0 (by decide)⟩
  have := Int32.le_iff_toInt_le.mp q
  have e8 : (8 : Int32).toInt = 8 := by decide
  have e7 : (7 : Int32).toInt = 7 := by decide
  omega
theorem c_X8_throwing1 (l : Launch) (D : va_G) (K : Nat → ClassId) (h : Nat → Nat) (u : MS) (xa : Bool) : vMi l D vwCl (tys0 K) yX8_throwing wsX8_throwing ({ frames := 0, cells := 0, slots := 0, locals := 0 } : Room) [.ref (h 0), .int (b2i xa), .int (b2i false)] (mw K h u) (mw K h) (fun r9 u9 => r9 = b2i xa ∧ u9 = si u 0 (mThr xa false)) := by
  have := c_X8_throwing l D K h u xa false
  simp only [Bool.or_false] at this
  exact this
set_option maxHeartbeats 4000000 in
set_option maxRecDepth 100000 in
theorem c_X8_fault (l : Launch) (D : va_G) (K : Nat → ClassId) (h : Nat → Nat) (u : MS) (xw : Int32)  : vMi l D vwCl (tys0 K) yX8_fault wsX8_fault ({ frames := 1, cells := 0, slots := 0, locals := 22 } : Room) [.ref (h 0), .int xw] (mw K h u) (mw K h) (fun r9 u9 => r9 = (if mOut xw 0 1 = true then 0 else if xw = 0 then gi u 7 else gi u 8) ∧ u9 = si u 0 (mThr (mOut xw 0 1) false)) := by
  refine vMi_of (cc := cX8_fault) (nL := 2) (rt := .int) (by decide) rfl (Nat.le_of_ble_eq_true rfl) ?_
  intro X C E
  show V X 0 0 (mw K h u) 0 [(0, .ref (h 0)), (1, .int xw)] []
  have hi8 : ∀ w ∈ wsX80, w ∈ wsX8_fault := fun _ h => List.mem_cons_of_mem _ (List.mem_append_right _ h)
  refine V_aload_n C dX8_fault_0 rfl 0 rfl ?_
  refine V_iload_n C dX8_fault_1 rfl 1 rfl ?_
  refine V_iconst (v := 0) C dX8_fault_2 (by decide) ?_
  refine V_iconst (v := 1) C dX8_fault_3 (by decide) ?_
  refine V_calliS C dX8_fault_4 (c_X8_out l D K (mw K h u) xw 0 1) gX8_fault_X8_out rfl 3 rfl (by decide +kernel) (by decide) ⟨Nat.le_of_ble_eq_true rfl, Nat.le_of_ble_eq_true rfl⟩ rfl (Nat.le_of_ble_eq_true rfl) (det0 ?_)
  refine V_iconst (v := 0) C dX8_fault_7 (by decide) ?_
  refine V_calliV C dX8_fault_8 0 rfl rfl (c_X8_throwing1 l D K h u (mOut xw 0 1)) gX8_fault_X8_throwing rfl 2 rfl (by decide +kernel) (by decide) ⟨Nat.le_of_ble_eq_true rfl, Nat.le_of_ble_eq_true rfl⟩ rfl (Nat.le_of_ble_eq_true rfl) (det2 ?_)
  refine V_ifz_eq (tgt := 18) C dX8_fault_11 (by decide) (fun zh11 => ?_) (fun zh11 => ?_)
  · refine V_iload_n C dX8_fault_18 rfl 1 rfl ?_
    refine V_if_ne (tgt := 29) C dX8_fault_19 (by decide) (fun zh19 => ?_) (fun zh19 => ?_)
    · refine V_aload_n C dX8_fault_29 rfl 0 rfl ?_
      refine V_get (v := .int (gi u 8)) C dX8_fault_30 hi8 0 rfl rfl 8 (by decide) (List.mem_of_getElem? (i := 2) rfl) rfl rfl ?_
      exact E (gi u 8) (si u 0 (mThr (mOut xw 0 1) false)) _ _ dX8_fault_33 rfl ⟨by first | rfl | (simp (decide := true) [b2i, gi_si, ga_si, gz_si, gl_si, gb_si, mPl_si, mGet_si, mNat_si, mSlot_si, mBy_si, mThr, zh11, zh19]; done) | (simp (decide := true) [b2i, gi_si, ga_si, gz_si, gl_si, gb_si, mPl_si, mGet_si, mNat_si, mSlot_si, mBy_si, mThr, zh11, zh19]; rfl) | (simp_all (decide := true) [b2i, gi_si, ga_si, gz_si, gl_si, gb_si, mPl_si, mGet_si, mNat_si, mSlot_si, mBy_si, mThr]; done), by first | rfl | (simp (decide := true) [b2i, gi_si, ga_si, gz_si, gl_si, gb_si, mPl_si, mGet_si, mNat_si, mSlot_si, mBy_si, mThr, zh11, zh19]; done) | (simp (decide := true) [b2i, gi_si, ga_si, gz_si, gl_si, gb_si, mPl_si, mGet_si, mNat_si, mSlot_si, mBy_si, mThr, zh11, zh19]; rfl) | (simp_all (decide := true) [b2i, gi_si, ga_si, gz_si, gl_si, gb_si, mPl_si, mGet_si, mNat_si, mSlot_si, mBy_si, mThr]; done)⟩
    · refine V_aload_n C dX8_fault_22 rfl 0 rfl ?_
      refine V_get (v := .int (gi u 7)) C dX8_fault_23 hi8 0 rfl rfl 7 (by decide) (List.mem_of_getElem? (i := 1) rfl) rfl rfl ?_
      refine V_goto (tgt := 33) C dX8_fault_26 (by decide) ?_
      exact E (gi u 7) (si u 0 (mThr (mOut xw 0 1) false)) _ _ dX8_fault_33 rfl ⟨by first | rfl | (simp (decide := true) [b2i, gi_si, ga_si, gz_si, gl_si, gb_si, mPl_si, mGet_si, mNat_si, mSlot_si, mBy_si, mThr, zh11, zh19]; done) | (simp (decide := true) [b2i, gi_si, ga_si, gz_si, gl_si, gb_si, mPl_si, mGet_si, mNat_si, mSlot_si, mBy_si, mThr, zh11, zh19]; rfl) | (simp_all (decide := true) [b2i, gi_si, ga_si, gz_si, gl_si, gb_si, mPl_si, mGet_si, mNat_si, mSlot_si, mBy_si, mThr]; done), by first | rfl | (simp (decide := true) [b2i, gi_si, ga_si, gz_si, gl_si, gb_si, mPl_si, mGet_si, mNat_si, mSlot_si, mBy_si, mThr, zh11, zh19]; done) | (simp (decide := true) [b2i, gi_si, ga_si, gz_si, gl_si, gb_si, mPl_si, mGet_si, mNat_si, mSlot_si, mBy_si, mThr, zh11, zh19]; rfl) | (simp_all (decide := true) [b2i, gi_si, ga_si, gz_si, gl_si, gb_si, mPl_si, mGet_si, mNat_si, mSlot_si, mBy_si, mThr]; done)⟩
  · refine V_iconst (v := 0) C dX8_fault_14 (by decide) ?_
    refine V_goto (tgt := 33) C dX8_fault_15 (by decide) ?_
    exact E 0 (si u 0 (mThr (mOut xw 0 1) false)) _ _ dX8_fault_33 rfl ⟨by first | rfl | (simp (decide := true) [b2i, gi_si, ga_si, gz_si, gl_si, gb_si, mPl_si, mGet_si, mNat_si, mSlot_si, mBy_si, mThr, zh11]; done) | (simp (decide := true) [b2i, gi_si, ga_si, gz_si, gl_si, gb_si, mPl_si, mGet_si, mNat_si, mSlot_si, mBy_si, mThr, zh11]; rfl) | (simp_all (decide := true) [b2i, gi_si, ga_si, gz_si, gl_si, gb_si, mPl_si, mGet_si, mNat_si, mSlot_si, mBy_si, mThr]; done), by first | rfl | (simp (decide := true) [b2i, gi_si, ga_si, gz_si, gl_si, gb_si, mPl_si, mGet_si, mNat_si, mSlot_si, mBy_si, mThr, zh11]; done) | (simp (decide := true) [b2i, gi_si, ga_si, gz_si, gl_si, gb_si, mPl_si, mGet_si, mNat_si, mSlot_si, mBy_si, mThr, zh11]; rfl) | (simp_all (decide := true) [b2i, gi_si, ga_si, gz_si, gl_si, gb_si, mPl_si, mGet_si, mNat_si, mSlot_si, mBy_si, mThr]; done)⟩

set_option maxHeartbeats 4000000 in
set_option maxRecDepth 100000 in
theorem c_X8_set (l : Launch) (D : va_G) (K : Nat → ClassId) (h : Nat → Nat) (u : MS) (xr : Int32) (xv : Int64)  : vMv l D vwCl (tys0 K) yX8_set wsX8_set ({ frames := 2, cells := 0, slots := 0, locals := 46 } : Room) [.ref (h 0), .int xr, .long xv] (mw K h u) (mw K h) (fun u9 => u9 = (if mOut xr 1 7 = true then si u 0 1 else mPut (si u 0 0) xr xv false)) := by
  refine vMv_of (cc := cX8_set) (nL := 4) (by decide) rfl (Nat.le_of_ble_eq_true rfl) ?_
  intro X C E
  show V X 0 0 (mw K h u) 0 [(0, .ref (h 0)), (1, .int xr), (2, .long xv)] []
  have hi8 : ∀ w ∈ wsX80, w ∈ wsX8_set := fun _ h => List.mem_cons_of_mem _ (List.mem_append_right _ h)
  refine V_aload_n C dX8_set_0 rfl 0 rfl ?_
  refine V_iload_n C dX8_set_1 rfl 1 rfl ?_
  refine V_iconst (v := 1) C dX8_set_2 (by decide) ?_
  refine V_bipush (v := 7) C dX8_set_3 (by decide) ?_
  refine V_calliS C dX8_set_5 (c_X8_out l D K (mw K h u) xr 1 7) gX8_set_X8_out rfl 3 rfl (by decide +kernel) (by decide) ⟨Nat.le_of_ble_eq_true rfl, Nat.le_of_ble_eq_true rfl⟩ rfl (Nat.le_of_ble_eq_true rfl) (det0 ?_)
  refine V_iconst (v := 0) C dX8_set_8 (by decide) ?_
  refine V_calliV C dX8_set_9 0 rfl rfl (c_X8_throwing1 l D K h u (mOut xr 1 7)) gX8_set_X8_throwing rfl 2 rfl (by decide +kernel) (by decide) ⟨Nat.le_of_ble_eq_true rfl, Nat.le_of_ble_eq_true rfl⟩ rfl (Nat.le_of_ble_eq_true rfl) (det2 ?_)
  refine V_ifz_eq (tgt := 16) C dX8_set_12 (by decide) (fun zh12 => ?_) (fun zh12 => ?_)
  · refine V_aload_n C dX8_set_16 rfl 0 rfl ?_
    refine V_iload_n C dX8_set_17 rfl 1 rfl ?_
    refine V_lload_n C dX8_set_18 rfl 2 rfl ?_
    refine V_iconst (v := 0) C dX8_set_19 (by decide) ?_
    refine V_callvV C dX8_set_20 0 rfl rfl (c_X8_put l D K h (si u 0 (mThr (mOut xr 1 7) false)) xr xv false (mOkS zh12 (by decide))) gX8_set_X8_put rfl 3 rfl (by decide +kernel) (by decide) ⟨Nat.le_of_ble_eq_true rfl, Nat.le_of_ble_eq_true rfl⟩ rfl (Nat.le_of_ble_eq_true rfl) (det1 ?_)
    exact E (mPut (si u 0 (mThr (mOut xr 1 7) false)) xr xv false) _ _ dX8_set_23 (by first | rfl | (simp (decide := true) [b2i, gi_si, ga_si, gz_si, gl_si, gb_si, mPl_si, mGet_si, mNat_si, mSlot_si, mBy_si, mThr, mThr, zh12]; done) | (simp (decide := true) [b2i, gi_si, ga_si, gz_si, gl_si, gb_si, mPl_si, mGet_si, mNat_si, mSlot_si, mBy_si, mThr, mThr, zh12]; rfl) | (simp_all (decide := true) [b2i, gi_si, ga_si, gz_si, gl_si, gb_si, mPl_si, mGet_si, mNat_si, mSlot_si, mBy_si, mThr, mThr]; done))
  · exact E (si u 0 (mThr (mOut xr 1 7) false)) _ _ dX8_set_15 (by first | rfl | (simp (decide := true) [b2i, gi_si, ga_si, gz_si, gl_si, gb_si, mPl_si, mGet_si, mNat_si, mSlot_si, mBy_si, mThr, mThr, zh12]; done) | (simp (decide := true) [b2i, gi_si, ga_si, gz_si, gl_si, gb_si, mPl_si, mGet_si, mNat_si, mSlot_si, mBy_si, mThr, mThr, zh12]; rfl) | (simp_all (decide := true) [b2i, gi_si, ga_si, gz_si, gl_si, gb_si, mPl_si, mGet_si, mNat_si, mSlot_si, mBy_si, mThr, mThr]; done))

set_option maxHeartbeats 4000000 in
set_option maxRecDepth 100000 in
theorem c_X8_register (l : Launch) (D : va_G) (K : Nat → ClassId) (h : Nat → Nat) (u : MS) (xr : Int32) (hp : mOut xr 0 31 = false → mBy u xr = false → mOk u xr) : vMl l D vwCl (tys0 K) yX8_register wsX8_register ({ frames := 2, cells := 0, slots := 0, locals := 43 } : Room) [.ref (h 0), .int xr] (mw K h u) (mw K h) (fun r9 u9 => r9 = (if (mOut xr 0 31 || mBy u xr) = true then 0 else mGet u xr) ∧ u9 = si u 0 (mThr (mOut xr 0 31 || mBy u xr) false)) := by
  refine vMl_of (cc := cX8_register) (nL := 2) (by decide) rfl (Nat.le_of_ble_eq_true rfl) ?_
  intro X C E
  show V X 0 0 (mw K h u) 0 [(0, .ref (h 0)), (1, .int xr)] []
  have hi8 : ∀ w ∈ wsX80, w ∈ wsX8_register := fun _ h => List.mem_cons_of_mem _ (List.mem_append_right _ h)
  refine V_aload_n C dX8_register_0 rfl 0 rfl ?_
  refine V_iload_n C dX8_register_1 rfl 1 rfl ?_
  refine V_iconst (v := 0) C dX8_register_2 (by decide) ?_
  refine V_bipush (v := 31) C dX8_register_3 (by decide) ?_
  refine V_calliS C dX8_register_5 (c_X8_out l D K (mw K h u) xr 0 31) gX8_register_X8_out rfl 3 rfl (by decide +kernel) (by decide) ⟨Nat.le_of_ble_eq_true rfl, Nat.le_of_ble_eq_true rfl⟩ rfl (Nat.le_of_ble_eq_true rfl) (det0 ?_)
  refine V_ifz_ne (tgt := 19) C dX8_register_8 (by decide) (fun zh8 => ?_) (fun zh8 => ?_)
  · refine V_iconst (v := 1) C dX8_register_19 (by decide) ?_
    refine V_goto (tgt := 24) C dX8_register_20 (by decide) ?_
    refine V_iconst (v := 0) C dX8_register_24 (by decide) ?_
    refine V_calliV C dX8_register_25 0 rfl rfl (c_X8_throwing1 l D K h u true) gX8_register_X8_throwing rfl 2 rfl (by decide +kernel) (by decide) ⟨Nat.le_of_ble_eq_true rfl, Nat.le_of_ble_eq_true rfl⟩ rfl (Nat.le_of_ble_eq_true rfl) (det2 ?_)
    refine V_ifz_eq (tgt := 35) C dX8_register_28 (by decide) (fun zh28 => ?_) (fun zh28 => ?_)
    · exact absurd zh28 (by decide)
    · refine V_lconst (v := 0) C dX8_register_31 (by decide) ?_
      refine V_goto (tgt := 40) C dX8_register_32 (by decide) ?_
      exact E 0 (si u 0 (mThr true false)) _ _ dX8_register_40 ⟨by first | rfl | (simp (decide := true) [b2i, gi_si, ga_si, gz_si, gl_si, gb_si, mPl_si, mGet_si, mNat_si, mSlot_si, mBy_si, mThr, zh8]; done) | (simp (decide := true) [b2i, gi_si, ga_si, gz_si, gl_si, gb_si, mPl_si, mGet_si, mNat_si, mSlot_si, mBy_si, mThr, zh8]; rfl) | (simp_all (decide := true) [b2i, gi_si, ga_si, gz_si, gl_si, gb_si, mPl_si, mGet_si, mNat_si, mSlot_si, mBy_si, mThr]; done), by first | rfl | (simp (decide := true) [b2i, gi_si, ga_si, gz_si, gl_si, gb_si, mPl_si, mGet_si, mNat_si, mSlot_si, mBy_si, mThr, zh8]; done) | (simp (decide := true) [b2i, gi_si, ga_si, gz_si, gl_si, gb_si, mPl_si, mGet_si, mNat_si, mSlot_si, mBy_si, mThr, zh8]; rfl) | (simp_all (decide := true) [b2i, gi_si, ga_si, gz_si, gl_si, gb_si, mPl_si, mGet_si, mNat_si, mSlot_si, mBy_si, mThr]; done)⟩
  · refine V_aload_n C dX8_register_11 rfl 0 rfl ?_
    refine V_iload_n C dX8_register_12 rfl 1 rfl ?_
    refine V_calliV C dX8_register_13 0 rfl rfl (c_X8_isBeyond l D K h u xr ) gX8_register_X8_isBeyond rfl 1 rfl (by decide +kernel) (by decide) ⟨Nat.le_of_ble_eq_true rfl, Nat.le_of_ble_eq_true rfl⟩ rfl (Nat.le_of_ble_eq_true rfl) (det2 ?_)
    refine V_ifz_eq (tgt := 23) C dX8_register_16 (by decide) (fun zh16 => ?_) (fun zh16 => ?_)
    · refine V_iconst (v := 0) C dX8_register_23 (by decide) ?_
      refine V_iconst (v := 0) C dX8_register_24 (by decide) ?_
      refine V_calliV C dX8_register_25 0 rfl rfl (c_X8_throwing1 l D K h u false) gX8_register_X8_throwing rfl 2 rfl (by decide +kernel) (by decide) ⟨Nat.le_of_ble_eq_true rfl, Nat.le_of_ble_eq_true rfl⟩ rfl (Nat.le_of_ble_eq_true rfl) (det2 ?_)
      refine V_ifz_eq (tgt := 35) C dX8_register_28 (by decide) (fun zh28 => ?_) (fun zh28 => ?_)
      · refine V_aload_n C dX8_register_35 rfl 0 rfl ?_
        refine V_iload_n C dX8_register_36 rfl 1 rfl ?_
        refine V_calllV C dX8_register_37 0 rfl rfl (c_X8_get l D K h (si u 0 (mThr false false)) xr (hp zh8 zh16)) gX8_register_X8_get rfl 1 rfl (by decide +kernel) (by decide) ⟨Nat.le_of_ble_eq_true rfl, Nat.le_of_ble_eq_true rfl⟩ rfl (Nat.le_of_ble_eq_true rfl) (det2 ?_)
        exact E (mGet (si u 0 (mThr false false)) xr) (si u 0 (mThr false false)) _ _ dX8_register_40 ⟨by first | rfl | (simp (decide := true) [b2i, gi_si, ga_si, gz_si, gl_si, gb_si, mPl_si, mGet_si, mNat_si, mSlot_si, mBy_si, mThr, zh8, zh16]; done) | (simp (decide := true) [b2i, gi_si, ga_si, gz_si, gl_si, gb_si, mPl_si, mGet_si, mNat_si, mSlot_si, mBy_si, mThr, zh8, zh16]; rfl) | (simp_all (decide := true) [b2i, gi_si, ga_si, gz_si, gl_si, gb_si, mPl_si, mGet_si, mNat_si, mSlot_si, mBy_si, mThr]; done), by first | rfl | (simp (decide := true) [b2i, gi_si, ga_si, gz_si, gl_si, gb_si, mPl_si, mGet_si, mNat_si, mSlot_si, mBy_si, mThr, zh8, zh16]; done) | (simp (decide := true) [b2i, gi_si, ga_si, gz_si, gl_si, gb_si, mPl_si, mGet_si, mNat_si, mSlot_si, mBy_si, mThr, zh8, zh16]; rfl) | (simp_all (decide := true) [b2i, gi_si, ga_si, gz_si, gl_si, gb_si, mPl_si, mGet_si, mNat_si, mSlot_si, mBy_si, mThr]; done)⟩
      · exact absurd zh28 (by decide)
    · refine V_iconst (v := 1) C dX8_register_19 (by decide) ?_
      refine V_goto (tgt := 24) C dX8_register_20 (by decide) ?_
      refine V_iconst (v := 0) C dX8_register_24 (by decide) ?_
      refine V_calliV C dX8_register_25 0 rfl rfl (c_X8_throwing1 l D K h u true) gX8_register_X8_throwing rfl 2 rfl (by decide +kernel) (by decide) ⟨Nat.le_of_ble_eq_true rfl, Nat.le_of_ble_eq_true rfl⟩ rfl (Nat.le_of_ble_eq_true rfl) (det2 ?_)
      refine V_ifz_eq (tgt := 35) C dX8_register_28 (by decide) (fun zh28 => ?_) (fun zh28 => ?_)
      · exact absurd zh28 (by decide)
      · refine V_lconst (v := 0) C dX8_register_31 (by decide) ?_
        refine V_goto (tgt := 40) C dX8_register_32 (by decide) ?_
        exact E 0 (si u 0 (mThr true false)) _ _ dX8_register_40 ⟨by first | rfl | (simp (decide := true) [b2i, gi_si, ga_si, gz_si, gl_si, gb_si, mPl_si, mGet_si, mNat_si, mSlot_si, mBy_si, mThr, zh8, zh16]; done) | (simp (decide := true) [b2i, gi_si, ga_si, gz_si, gl_si, gb_si, mPl_si, mGet_si, mNat_si, mSlot_si, mBy_si, mThr, zh8, zh16]; rfl) | (simp_all (decide := true) [b2i, gi_si, ga_si, gz_si, gl_si, gb_si, mPl_si, mGet_si, mNat_si, mSlot_si, mBy_si, mThr]; done), by first | rfl | (simp (decide := true) [b2i, gi_si, ga_si, gz_si, gl_si, gb_si, mPl_si, mGet_si, mNat_si, mSlot_si, mBy_si, mThr, zh8, zh16]; done) | (simp (decide := true) [b2i, gi_si, ga_si, gz_si, gl_si, gb_si, mPl_si, mGet_si, mNat_si, mSlot_si, mBy_si, mThr, zh8, zh16]; rfl) | (simp_all (decide := true) [b2i, gi_si, ga_si, gz_si, gl_si, gb_si, mPl_si, mGet_si, mNat_si, mSlot_si, mBy_si, mThr]; done)⟩

set_option maxHeartbeats 4000000 in
set_option maxRecDepth 100000 in
theorem c_X8_nat (l : Launch) (D : va_G) (K : Nat → ClassId) (h : Nat → Nat) (u : MS) (xr : Int32) (hp : mOut xr 0 31 = false → mBy u xr = false → mOk u xr) : vMi l D vwCl (tys0 K) yX8_nat wsX8_nat ({ frames := 2, cells := 0, slots := 0, locals := 43 } : Room) [.ref (h 0), .int xr] (mw K h u) (mw K h) (fun r9 u9 => r9 = b2i (!(mOut xr 0 31 || mBy u xr) && mNat u xr) ∧ u9 = si u 0 (mThr (mOut xr 0 31 || mBy u xr) false)) := by
  refine vMi_of (cc := cX8_nat) (nL := 2) (rt := .boolean) (by decide) rfl (Nat.le_of_ble_eq_true rfl) ?_
  intro X C E
  show V X 0 0 (mw K h u) 0 [(0, .ref (h 0)), (1, .int xr)] []
  have hi8 : ∀ w ∈ wsX80, w ∈ wsX8_nat := fun _ h => List.mem_cons_of_mem _ (List.mem_append_right _ h)
  refine V_aload_n C dX8_nat_0 rfl 0 rfl ?_
  refine V_iload_n C dX8_nat_1 rfl 1 rfl ?_
  refine V_iconst (v := 0) C dX8_nat_2 (by decide) ?_
  refine V_bipush (v := 31) C dX8_nat_3 (by decide) ?_
  refine V_calliS C dX8_nat_5 (c_X8_out l D K (mw K h u) xr 0 31) gX8_nat_X8_out rfl 3 rfl (by decide +kernel) (by decide) ⟨Nat.le_of_ble_eq_true rfl, Nat.le_of_ble_eq_true rfl⟩ rfl (Nat.le_of_ble_eq_true rfl) (det0 ?_)
  refine V_ifz_ne (tgt := 19) C dX8_nat_8 (by decide) (fun zh8 => ?_) (fun zh8 => ?_)
  · refine V_iconst (v := 1) C dX8_nat_19 (by decide) ?_
    refine V_goto (tgt := 24) C dX8_nat_20 (by decide) ?_
    refine V_iconst (v := 0) C dX8_nat_24 (by decide) ?_
    refine V_calliV C dX8_nat_25 0 rfl rfl (c_X8_throwing1 l D K h u true) gX8_nat_X8_throwing rfl 2 rfl (by decide +kernel) (by decide) ⟨Nat.le_of_ble_eq_true rfl, Nat.le_of_ble_eq_true rfl⟩ rfl (Nat.le_of_ble_eq_true rfl) (det2 ?_)
    refine V_ifz_ne (tgt := 43) C dX8_nat_28 (by decide) (fun zh28 => ?_) (fun zh28 => ?_)
    · refine V_iconst (v := 0) C dX8_nat_43 (by decide) ?_
      exact E 0 (si u 0 (mThr true false)) _ _ dX8_nat_44 rfl ⟨by first | rfl | (simp (decide := true) [b2i, gi_si, ga_si, gz_si, gl_si, gb_si, mPl_si, mGet_si, mNat_si, mSlot_si, mBy_si, mThr, zh8]; done) | (simp (decide := true) [b2i, gi_si, ga_si, gz_si, gl_si, gb_si, mPl_si, mGet_si, mNat_si, mSlot_si, mBy_si, mThr, zh8]; rfl) | (simp_all (decide := true) [b2i, gi_si, ga_si, gz_si, gl_si, gb_si, mPl_si, mGet_si, mNat_si, mSlot_si, mBy_si, mThr]; done), by first | rfl | (simp (decide := true) [b2i, gi_si, ga_si, gz_si, gl_si, gb_si, mPl_si, mGet_si, mNat_si, mSlot_si, mBy_si, mThr, zh8]; done) | (simp (decide := true) [b2i, gi_si, ga_si, gz_si, gl_si, gb_si, mPl_si, mGet_si, mNat_si, mSlot_si, mBy_si, mThr, zh8]; rfl) | (simp_all (decide := true) [b2i, gi_si, ga_si, gz_si, gl_si, gb_si, mPl_si, mGet_si, mNat_si, mSlot_si, mBy_si, mThr]; done)⟩
    · exact absurd zh28 (by decide)
  · refine V_aload_n C dX8_nat_11 rfl 0 rfl ?_
    refine V_iload_n C dX8_nat_12 rfl 1 rfl ?_
    refine V_calliV C dX8_nat_13 0 rfl rfl (c_X8_isBeyond l D K h u xr ) gX8_nat_X8_isBeyond rfl 1 rfl (by decide +kernel) (by decide) ⟨Nat.le_of_ble_eq_true rfl, Nat.le_of_ble_eq_true rfl⟩ rfl (Nat.le_of_ble_eq_true rfl) (det2 ?_)
    refine V_ifz_eq (tgt := 23) C dX8_nat_16 (by decide) (fun zh16 => ?_) (fun zh16 => ?_)
    · refine V_iconst (v := 0) C dX8_nat_23 (by decide) ?_
      refine V_iconst (v := 0) C dX8_nat_24 (by decide) ?_
      refine V_calliV C dX8_nat_25 0 rfl rfl (c_X8_throwing1 l D K h u false) gX8_nat_X8_throwing rfl 2 rfl (by decide +kernel) (by decide) ⟨Nat.le_of_ble_eq_true rfl, Nat.le_of_ble_eq_true rfl⟩ rfl (Nat.le_of_ble_eq_true rfl) (det2 ?_)
      refine V_ifz_ne (tgt := 43) C dX8_nat_28 (by decide) (fun zh28 => ?_) (fun zh28 => ?_)
      · exact absurd zh28 (by decide)
      · refine V_aload_n C dX8_nat_31 rfl 0 rfl ?_
        refine V_iload_n C dX8_nat_32 rfl 1 rfl ?_
        refine V_calliV C dX8_nat_33 0 rfl rfl (c_X8_isNat l D K h (si u 0 (mThr false false)) xr (hp zh8 zh16)) gX8_nat_X8_isNat rfl 1 rfl (by decide +kernel) (by decide) ⟨Nat.le_of_ble_eq_true rfl, Nat.le_of_ble_eq_true rfl⟩ rfl (Nat.le_of_ble_eq_true rfl) (det2 ?_)
        refine V_ifz_eq (tgt := 43) C dX8_nat_36 (by decide) (fun zh36 => ?_) (fun zh36 => ?_)
        · refine V_iconst (v := 0) C dX8_nat_43 (by decide) ?_
          exact E 0 (si u 0 (mThr false false)) _ _ dX8_nat_44 rfl ⟨by first | rfl | (simp (decide := true) [b2i, gi_si, ga_si, gz_si, gl_si, gb_si, mPl_si, mGet_si, mNat_si, mSlot_si, mBy_si, mThr, zh8, zh16, zh36]; done) | (simp (decide := true) [b2i, gi_si, ga_si, gz_si, gl_si, gb_si, mPl_si, mGet_si, mNat_si, mSlot_si, mBy_si, mThr, zh8, zh16, zh36]; rfl) | (simp_all (decide := true) [b2i, gi_si, ga_si, gz_si, gl_si, gb_si, mPl_si, mGet_si, mNat_si, mSlot_si, mBy_si, mThr]; done), by first | rfl | (simp (decide := true) [b2i, gi_si, ga_si, gz_si, gl_si, gb_si, mPl_si, mGet_si, mNat_si, mSlot_si, mBy_si, mThr, zh8, zh16, zh36]; done) | (simp (decide := true) [b2i, gi_si, ga_si, gz_si, gl_si, gb_si, mPl_si, mGet_si, mNat_si, mSlot_si, mBy_si, mThr, zh8, zh16, zh36]; rfl) | (simp_all (decide := true) [b2i, gi_si, ga_si, gz_si, gl_si, gb_si, mPl_si, mGet_si, mNat_si, mSlot_si, mBy_si, mThr]; done)⟩
        · refine V_iconst (v := 1) C dX8_nat_39 (by decide) ?_
          refine V_goto (tgt := 44) C dX8_nat_40 (by decide) ?_
          exact E 1 (si u 0 (mThr false false)) _ _ dX8_nat_44 rfl ⟨by first | rfl | (simp (decide := true) [b2i, gi_si, ga_si, gz_si, gl_si, gb_si, mPl_si, mGet_si, mNat_si, mSlot_si, mBy_si, mThr, zh8, zh16, zh36]; done) | (simp (decide := true) [b2i, gi_si, ga_si, gz_si, gl_si, gb_si, mPl_si, mGet_si, mNat_si, mSlot_si, mBy_si, mThr, zh8, zh16, zh36]; rfl) | (simp_all (decide := true) [b2i, gi_si, ga_si, gz_si, gl_si, gb_si, mPl_si, mGet_si, mNat_si, mSlot_si, mBy_si, mThr]; done), by first | rfl | (simp (decide := true) [b2i, gi_si, ga_si, gz_si, gl_si, gb_si, mPl_si, mGet_si, mNat_si, mSlot_si, mBy_si, mThr, zh8, zh16, zh36]; done) | (simp (decide := true) [b2i, gi_si, ga_si, gz_si, gl_si, gb_si, mPl_si, mGet_si, mNat_si, mSlot_si, mBy_si, mThr, zh8, zh16, zh36]; rfl) | (simp_all (decide := true) [b2i, gi_si, ga_si, gz_si, gl_si, gb_si, mPl_si, mGet_si, mNat_si, mSlot_si, mBy_si, mThr]; done)⟩
    · refine V_iconst (v := 1) C dX8_nat_19 (by decide) ?_
      refine V_goto (tgt := 24) C dX8_nat_20 (by decide) ?_
      refine V_iconst (v := 0) C dX8_nat_24 (by decide) ?_
      refine V_calliV C dX8_nat_25 0 rfl rfl (c_X8_throwing1 l D K h u true) gX8_nat_X8_throwing rfl 2 rfl (by decide +kernel) (by decide) ⟨Nat.le_of_ble_eq_true rfl, Nat.le_of_ble_eq_true rfl⟩ rfl (Nat.le_of_ble_eq_true rfl) (det2 ?_)
      refine V_ifz_ne (tgt := 43) C dX8_nat_28 (by decide) (fun zh28 => ?_) (fun zh28 => ?_)
      · refine V_iconst (v := 0) C dX8_nat_43 (by decide) ?_
        exact E 0 (si u 0 (mThr true false)) _ _ dX8_nat_44 rfl ⟨by first | rfl | (simp (decide := true) [b2i, gi_si, ga_si, gz_si, gl_si, gb_si, mPl_si, mGet_si, mNat_si, mSlot_si, mBy_si, mThr, zh8, zh16]; done) | (simp (decide := true) [b2i, gi_si, ga_si, gz_si, gl_si, gb_si, mPl_si, mGet_si, mNat_si, mSlot_si, mBy_si, mThr, zh8, zh16]; rfl) | (simp_all (decide := true) [b2i, gi_si, ga_si, gz_si, gl_si, gb_si, mPl_si, mGet_si, mNat_si, mSlot_si, mBy_si, mThr]; done), by first | rfl | (simp (decide := true) [b2i, gi_si, ga_si, gz_si, gl_si, gb_si, mPl_si, mGet_si, mNat_si, mSlot_si, mBy_si, mThr, zh8, zh16]; done) | (simp (decide := true) [b2i, gi_si, ga_si, gz_si, gl_si, gb_si, mPl_si, mGet_si, mNat_si, mSlot_si, mBy_si, mThr, zh8, zh16]; rfl) | (simp_all (decide := true) [b2i, gi_si, ga_si, gz_si, gl_si, gb_si, mPl_si, mGet_si, mNat_si, mSlot_si, mBy_si, mThr]; done)⟩
      · exact absurd zh28 (by decide)

set_option maxHeartbeats 4000000 in
set_option maxRecDepth 100000 in
theorem c_X8_predicate (l : Launch) (D : va_G) (K : Nat → ClassId) (h : Nat → Nat) (u : MS) (xp : Int32) (hp : mOut xp 0 15 = false → vp_in (mSlot u xp) 16) : vMi l D vwCl (tys0 K) yX8_predicate wsX8_predicate ({ frames := 1, cells := 0, slots := 0, locals := 22 } : Room) [.ref (h 0), .int xp] (mw K h u) (mw K h) (fun r9 u9 => r9 = b2i (!mOut xp 0 15 && gz u 20 (mSlot u xp).toNatClampNeg) ∧ u9 = si u 0 (mThr (mOut xp 0 15) false)) := by
  refine vMi_of (cc := cX8_predicate) (nL := 2) (rt := .boolean) (by decide) rfl (Nat.le_of_ble_eq_true rfl) ?_
  intro X C E
  show V X 0 0 (mw K h u) 0 [(0, .ref (h 0)), (1, .int xp)] []
  have hi8 : ∀ w ∈ wsX80, w ∈ wsX8_predicate := fun _ h => List.mem_cons_of_mem _ (List.mem_append_right _ h)
  refine V_aload_n C dX8_predicate_0 rfl 0 rfl ?_
  refine V_iload_n C dX8_predicate_1 rfl 1 rfl ?_
  refine V_iconst (v := 0) C dX8_predicate_2 (by decide) ?_
  refine V_bipush (v := 15) C dX8_predicate_3 (by decide) ?_
  refine V_calliS C dX8_predicate_5 (c_X8_out l D K (mw K h u) xp 0 15) gX8_predicate_X8_out rfl 3 rfl (by decide +kernel) (by decide) ⟨Nat.le_of_ble_eq_true rfl, Nat.le_of_ble_eq_true rfl⟩ rfl (Nat.le_of_ble_eq_true rfl) (det0 ?_)
  refine V_iconst (v := 0) C dX8_predicate_8 (by decide) ?_
  refine V_calliV C dX8_predicate_9 0 rfl rfl (c_X8_throwing1 l D K h u (mOut xp 0 15)) gX8_predicate_X8_throwing rfl 2 rfl (by decide +kernel) (by decide) ⟨Nat.le_of_ble_eq_true rfl, Nat.le_of_ble_eq_true rfl⟩ rfl (Nat.le_of_ble_eq_true rfl) (det2 ?_)
  refine V_ifz_ne (tgt := 32) C dX8_predicate_12 (by decide) (fun zh12 => ?_) (fun zh12 => ?_)
  · refine V_iconst (v := 0) C dX8_predicate_32 (by decide) ?_
    exact E 0 (si u 0 (mThr (mOut xp 0 15) false)) _ _ dX8_predicate_33 rfl ⟨by first | rfl | (simp (decide := true) [b2i, gi_si, ga_si, gz_si, gl_si, gb_si, mPl_si, mGet_si, mNat_si, mSlot_si, mBy_si, mThr, zh12]; done) | (simp (decide := true) [b2i, gi_si, ga_si, gz_si, gl_si, gb_si, mPl_si, mGet_si, mNat_si, mSlot_si, mBy_si, mThr, zh12]; rfl) | (simp_all (decide := true) [b2i, gi_si, ga_si, gz_si, gl_si, gb_si, mPl_si, mGet_si, mNat_si, mSlot_si, mBy_si, mThr]; done), by first | rfl | (simp (decide := true) [b2i, gi_si, ga_si, gz_si, gl_si, gb_si, mPl_si, mGet_si, mNat_si, mSlot_si, mBy_si, mThr, zh12]; done) | (simp (decide := true) [b2i, gi_si, ga_si, gz_si, gl_si, gb_si, mPl_si, mGet_si, mNat_si, mSlot_si, mBy_si, mThr, zh12]; rfl) | (simp_all (decide := true) [b2i, gi_si, ga_si, gz_si, gl_si, gb_si, mPl_si, mGet_si, mNat_si, mSlot_si, mBy_si, mThr]; done)⟩
  · refine V_aload_n C dX8_predicate_15 rfl 0 rfl ?_
    refine V_get (v := .ref (h 21)) C dX8_predicate_16 hi8 0 rfl rfl 20 (by decide) (List.mem_of_getElem? (i := 1) rfl) rfl rfl ?_
    refine V_aload_n C dX8_predicate_19 rfl 0 rfl ?_
    refine V_iload_n C dX8_predicate_20 rfl 1 rfl ?_
    refine V_calliV C dX8_predicate_21 0 rfl rfl (c_X8_slot l D K h (si u 0 (mThr (mOut xp 0 15) false)) xp ) gX8_predicate_X8_slot rfl 1 rfl (by decide +kernel) (by decide) ⟨Nat.le_of_ble_eq_true rfl, Nat.le_of_ble_eq_true rfl⟩ rfl (Nat.le_of_ble_eq_true rfl) (det2 ?_)
    refine V_zaldn (v := (b2i (gz u 20 (mSlot (si u 0 (mThr (mOut xp 0 15) false)) xp).toNatClampNeg))) C dX8_predicate_24 12 2 rfl rfl ((mSlot (si u 0 (mThr (mOut xp 0 15) false)) xp).toNatClampNeg) rfl (hp zh12) rfl ?_
    refine V_ifz_eq (tgt := 32) C dX8_predicate_25 (by decide) (fun zh25 => ?_) (fun zh25 => ?_)
    · refine V_iconst (v := 0) C dX8_predicate_32 (by decide) ?_
      exact E 0 (si u 0 (mThr (mOut xp 0 15) false)) _ _ dX8_predicate_33 rfl ⟨by first | rfl | (simp (decide := true) [b2i, gi_si, ga_si, gz_si, gl_si, gb_si, mPl_si, mGet_si, mNat_si, mSlot_si, mBy_si, mThr, zh12, zh25]; done) | (simp (decide := true) [b2i, gi_si, ga_si, gz_si, gl_si, gb_si, mPl_si, mGet_si, mNat_si, mSlot_si, mBy_si, mThr, zh12, zh25]; rfl) | (simp_all (decide := true) [b2i, gi_si, ga_si, gz_si, gl_si, gb_si, mPl_si, mGet_si, mNat_si, mSlot_si, mBy_si, mThr]; done), by first | rfl | (simp (decide := true) [b2i, gi_si, ga_si, gz_si, gl_si, gb_si, mPl_si, mGet_si, mNat_si, mSlot_si, mBy_si, mThr, zh12, zh25]; done) | (simp (decide := true) [b2i, gi_si, ga_si, gz_si, gl_si, gb_si, mPl_si, mGet_si, mNat_si, mSlot_si, mBy_si, mThr, zh12, zh25]; rfl) | (simp_all (decide := true) [b2i, gi_si, ga_si, gz_si, gl_si, gb_si, mPl_si, mGet_si, mNat_si, mSlot_si, mBy_si, mThr]; done)⟩
    · refine V_iconst (v := 1) C dX8_predicate_28 (by decide) ?_
      refine V_goto (tgt := 33) C dX8_predicate_29 (by decide) ?_
      exact E 1 (si u 0 (mThr (mOut xp 0 15) false)) _ _ dX8_predicate_33 rfl ⟨by first | rfl | (simp (decide := true) [b2i, gi_si, ga_si, gz_si, gl_si, gb_si, mPl_si, mGet_si, mNat_si, mSlot_si, mBy_si, mThr, zh12, zh25]; done) | (simp (decide := true) [b2i, gi_si, ga_si, gz_si, gl_si, gb_si, mPl_si, mGet_si, mNat_si, mSlot_si, mBy_si, mThr, zh12, zh25]; rfl) | (simp_all (decide := true) [b2i, gi_si, ga_si, gz_si, gl_si, gb_si, mPl_si, mGet_si, mNat_si, mSlot_si, mBy_si, mThr]; done), by first | rfl | (simp (decide := true) [b2i, gi_si, ga_si, gz_si, gl_si, gb_si, mPl_si, mGet_si, mNat_si, mSlot_si, mBy_si, mThr, zh12, zh25]; done) | (simp (decide := true) [b2i, gi_si, ga_si, gz_si, gl_si, gb_si, mPl_si, mGet_si, mNat_si, mSlot_si, mBy_si, mThr, zh12, zh25]; rfl) | (simp_all (decide := true) [b2i, gi_si, ga_si, gz_si, gl_si, gb_si, mPl_si, mGet_si, mNat_si, mSlot_si, mBy_si, mThr]; done)⟩

set_option maxHeartbeats 4000000 in
set_option maxRecDepth 100000 in
theorem c_X8_memory (l : Launch) (D : va_G) (K : Nat → ClassId) (h : Nat → Nat) (u : MS) (xc : Int32)  : vMl l D vwCl (tys0 K) yX8_memory wsX8_memory ({ frames := 1, cells := 0, slots := 0, locals := 22 } : Room) [.ref (h 0), .int xc] (mw K h u) (mw K h) (fun r9 u9 => r9 = (if mOut xc 0 31 = true then 0 else gl u 18 xc.toNatClampNeg) ∧ u9 = si u 0 (mThr (mOut xc 0 31) false)) := by
  refine vMl_of (cc := cX8_memory) (nL := 2) (by decide) rfl (Nat.le_of_ble_eq_true rfl) ?_
  intro X C E
  show V X 0 0 (mw K h u) 0 [(0, .ref (h 0)), (1, .int xc)] []
  have hi8 : ∀ w ∈ wsX80, w ∈ wsX8_memory := fun _ h => List.mem_cons_of_mem _ (List.mem_append_right _ h)
  refine V_aload_n C dX8_memory_0 rfl 0 rfl ?_
  refine V_iload_n C dX8_memory_1 rfl 1 rfl ?_
  refine V_iconst (v := 0) C dX8_memory_2 (by decide) ?_
  refine V_bipush (v := 31) C dX8_memory_3 (by decide) ?_
  refine V_calliS C dX8_memory_5 (c_X8_out l D K (mw K h u) xc 0 31) gX8_memory_X8_out rfl 3 rfl (by decide +kernel) (by decide) ⟨Nat.le_of_ble_eq_true rfl, Nat.le_of_ble_eq_true rfl⟩ rfl (Nat.le_of_ble_eq_true rfl) (det0 ?_)
  refine V_iconst (v := 0) C dX8_memory_8 (by decide) ?_
  refine V_calliV C dX8_memory_9 0 rfl rfl (c_X8_throwing1 l D K h u (mOut xc 0 31)) gX8_memory_X8_throwing rfl 2 rfl (by decide +kernel) (by decide) ⟨Nat.le_of_ble_eq_true rfl, Nat.le_of_ble_eq_true rfl⟩ rfl (Nat.le_of_ble_eq_true rfl) (det2 ?_)
  refine V_ifz_eq (tgt := 19) C dX8_memory_12 (by decide) (fun zh12 => ?_) (fun zh12 => ?_)
  · refine V_aload_n C dX8_memory_19 rfl 0 rfl ?_
    refine V_get (v := .ref (h 19)) C dX8_memory_20 hi8 0 rfl rfl 18 (by decide) (List.mem_of_getElem? (i := 1) rfl) rfl rfl ?_
    refine V_iload_n C dX8_memory_23 rfl 1 rfl ?_
    refine V_laldn (v := (gl u 18 (xc.toNatClampNeg))) C dX8_memory_24 10 1 rfl rfl (xc.toNatClampNeg) rfl (mOut_in 32 zh12 (by decide) (by decide)) rfl ?_
    exact E (gl u 18 (xc.toNatClampNeg)) (si u 0 (mThr (mOut xc 0 31) false)) _ _ dX8_memory_25 ⟨by first | rfl | (simp (decide := true) [b2i, gi_si, ga_si, gz_si, gl_si, gb_si, mPl_si, mGet_si, mNat_si, mSlot_si, mBy_si, mThr, zh12]; done) | (simp (decide := true) [b2i, gi_si, ga_si, gz_si, gl_si, gb_si, mPl_si, mGet_si, mNat_si, mSlot_si, mBy_si, mThr, zh12]; rfl) | (simp_all (decide := true) [b2i, gi_si, ga_si, gz_si, gl_si, gb_si, mPl_si, mGet_si, mNat_si, mSlot_si, mBy_si, mThr]; done), by first | rfl | (simp (decide := true) [b2i, gi_si, ga_si, gz_si, gl_si, gb_si, mPl_si, mGet_si, mNat_si, mSlot_si, mBy_si, mThr, zh12]; done) | (simp (decide := true) [b2i, gi_si, ga_si, gz_si, gl_si, gb_si, mPl_si, mGet_si, mNat_si, mSlot_si, mBy_si, mThr, zh12]; rfl) | (simp_all (decide := true) [b2i, gi_si, ga_si, gz_si, gl_si, gb_si, mPl_si, mGet_si, mNat_si, mSlot_si, mBy_si, mThr]; done)⟩
  · refine V_lconst (v := 0) C dX8_memory_15 (by decide) ?_
    refine V_goto (tgt := 25) C dX8_memory_16 (by decide) ?_
    exact E 0 (si u 0 (mThr (mOut xc 0 31) false)) _ _ dX8_memory_25 ⟨by first | rfl | (simp (decide := true) [b2i, gi_si, ga_si, gz_si, gl_si, gb_si, mPl_si, mGet_si, mNat_si, mSlot_si, mBy_si, mThr, zh12]; done) | (simp (decide := true) [b2i, gi_si, ga_si, gz_si, gl_si, gb_si, mPl_si, mGet_si, mNat_si, mSlot_si, mBy_si, mThr, zh12]; rfl) | (simp_all (decide := true) [b2i, gi_si, ga_si, gz_si, gl_si, gb_si, mPl_si, mGet_si, mNat_si, mSlot_si, mBy_si, mThr]; done), by first | rfl | (simp (decide := true) [b2i, gi_si, ga_si, gz_si, gl_si, gb_si, mPl_si, mGet_si, mNat_si, mSlot_si, mBy_si, mThr, zh12]; done) | (simp (decide := true) [b2i, gi_si, ga_si, gz_si, gl_si, gb_si, mPl_si, mGet_si, mNat_si, mSlot_si, mBy_si, mThr, zh12]; rfl) | (simp_all (decide := true) [b2i, gi_si, ga_si, gz_si, gl_si, gb_si, mPl_si, mGet_si, mNat_si, mSlot_si, mBy_si, mThr]; done)⟩

set_option maxHeartbeats 4000000 in
set_option maxRecDepth 100000 in
theorem c_X8_backing (l : Launch) (D : va_G) (K : Nat → ClassId) (h : Nat → Nat) (u : MS) (xk : Int32)  : vMl l D vwCl (tys0 K) yX8_backing wsX8_backing ({ frames := 1, cells := 0, slots := 0, locals := 22 } : Room) [.ref (h 0), .int xk] (mw K h u) (mw K h) (fun r9 u9 => r9 = (if mOut xk 0 119 = true then 0 else gl u 17 xk.toNatClampNeg) ∧ u9 = si u 0 (mThr (mOut xk 0 119) false)) := by
  refine vMl_of (cc := cX8_backing) (nL := 2) (by decide) rfl (Nat.le_of_ble_eq_true rfl) ?_
  intro X C E
  show V X 0 0 (mw K h u) 0 [(0, .ref (h 0)), (1, .int xk)] []
  have hi8 : ∀ w ∈ wsX80, w ∈ wsX8_backing := fun _ h => List.mem_cons_of_mem _ (List.mem_append_right _ h)
  refine V_aload_n C dX8_backing_0 rfl 0 rfl ?_
  refine V_iload_n C dX8_backing_1 rfl 1 rfl ?_
  refine V_iconst (v := 0) C dX8_backing_2 (by decide) ?_
  refine V_bipush (v := 119) C dX8_backing_3 (by decide) ?_
  refine V_calliS C dX8_backing_5 (c_X8_out l D K (mw K h u) xk 0 119) gX8_backing_X8_out rfl 3 rfl (by decide +kernel) (by decide) ⟨Nat.le_of_ble_eq_true rfl, Nat.le_of_ble_eq_true rfl⟩ rfl (Nat.le_of_ble_eq_true rfl) (det0 ?_)
  refine V_iconst (v := 0) C dX8_backing_8 (by decide) ?_
  refine V_calliV C dX8_backing_9 0 rfl rfl (c_X8_throwing1 l D K h u (mOut xk 0 119)) gX8_backing_X8_throwing rfl 2 rfl (by decide +kernel) (by decide) ⟨Nat.le_of_ble_eq_true rfl, Nat.le_of_ble_eq_true rfl⟩ rfl (Nat.le_of_ble_eq_true rfl) (det2 ?_)
  refine V_ifz_eq (tgt := 19) C dX8_backing_12 (by decide) (fun zh12 => ?_) (fun zh12 => ?_)
  · refine V_aload_n C dX8_backing_19 rfl 0 rfl ?_
    refine V_get (v := .ref (h 18)) C dX8_backing_20 hi8 0 rfl rfl 17 (by decide) (List.mem_of_getElem? (i := 1) rfl) rfl rfl ?_
    refine V_iload_n C dX8_backing_23 rfl 1 rfl ?_
    refine V_laldn (v := (gl u 17 (xk.toNatClampNeg))) C dX8_backing_24 9 1 rfl rfl (xk.toNatClampNeg) rfl (mOut_in 120 zh12 (by decide) (by decide)) rfl ?_
    exact E (gl u 17 (xk.toNatClampNeg)) (si u 0 (mThr (mOut xk 0 119) false)) _ _ dX8_backing_25 ⟨by first | rfl | (simp (decide := true) [b2i, gi_si, ga_si, gz_si, gl_si, gb_si, mPl_si, mGet_si, mNat_si, mSlot_si, mBy_si, mThr, zh12]; done) | (simp (decide := true) [b2i, gi_si, ga_si, gz_si, gl_si, gb_si, mPl_si, mGet_si, mNat_si, mSlot_si, mBy_si, mThr, zh12]; rfl) | (simp_all (decide := true) [b2i, gi_si, ga_si, gz_si, gl_si, gb_si, mPl_si, mGet_si, mNat_si, mSlot_si, mBy_si, mThr]; done), by first | rfl | (simp (decide := true) [b2i, gi_si, ga_si, gz_si, gl_si, gb_si, mPl_si, mGet_si, mNat_si, mSlot_si, mBy_si, mThr, zh12]; done) | (simp (decide := true) [b2i, gi_si, ga_si, gz_si, gl_si, gb_si, mPl_si, mGet_si, mNat_si, mSlot_si, mBy_si, mThr, zh12]; rfl) | (simp_all (decide := true) [b2i, gi_si, ga_si, gz_si, gl_si, gb_si, mPl_si, mGet_si, mNat_si, mSlot_si, mBy_si, mThr]; done)⟩
  · refine V_lconst (v := 0) C dX8_backing_15 (by decide) ?_
    refine V_goto (tgt := 25) C dX8_backing_16 (by decide) ?_
    exact E 0 (si u 0 (mThr (mOut xk 0 119) false)) _ _ dX8_backing_25 ⟨by first | rfl | (simp (decide := true) [b2i, gi_si, ga_si, gz_si, gl_si, gb_si, mPl_si, mGet_si, mNat_si, mSlot_si, mBy_si, mThr, zh12]; done) | (simp (decide := true) [b2i, gi_si, ga_si, gz_si, gl_si, gb_si, mPl_si, mGet_si, mNat_si, mSlot_si, mBy_si, mThr, zh12]; rfl) | (simp_all (decide := true) [b2i, gi_si, ga_si, gz_si, gl_si, gb_si, mPl_si, mGet_si, mNat_si, mSlot_si, mBy_si, mThr]; done), by first | rfl | (simp (decide := true) [b2i, gi_si, ga_si, gz_si, gl_si, gb_si, mPl_si, mGet_si, mNat_si, mSlot_si, mBy_si, mThr, zh12]; done) | (simp (decide := true) [b2i, gi_si, ga_si, gz_si, gl_si, gb_si, mPl_si, mGet_si, mNat_si, mSlot_si, mBy_si, mThr, zh12]; rfl) | (simp_all (decide := true) [b2i, gi_si, ga_si, gz_si, gl_si, gb_si, mPl_si, mGet_si, mNat_si, mSlot_si, mBy_si, mThr]; done)⟩

set_option maxHeartbeats 4000000 in
set_option maxRecDepth 100000 in
theorem c_X8_poke (l : Launch) (D : va_G) (K : Nat → ClassId) (h : Nat → Nat) (u : MS) (xc : Int32) (xv : Int64)  : vMv l D vwCl (tys0 K) yX8_poke wsX8_poke ({ frames := 1, cells := 0, slots := 0, locals := 22 } : Room) [.ref (h 0), .int xc, .long xv] (mw K h u) (mw K h) (fun u9 => u9 = (if mOut xc 0 31 = true then si u 0 1 else sz (sl (si u 0 0) 18 xc.toNatClampNeg xv) 19 xc.toNatClampNeg false)) := by
  refine vMv_of (cc := cX8_poke) (nL := 4) (by decide) rfl (Nat.le_of_ble_eq_true rfl) ?_
  intro X C E
  show V X 0 0 (mw K h u) 0 [(0, .ref (h 0)), (1, .int xc), (2, .long xv)] []
  have hi8 : ∀ w ∈ wsX80, w ∈ wsX8_poke := fun _ h => List.mem_cons_of_mem _ (List.mem_append_right _ h)
  refine V_aload_n C dX8_poke_0 rfl 0 rfl ?_
  refine V_iload_n C dX8_poke_1 rfl 1 rfl ?_
  refine V_iconst (v := 0) C dX8_poke_2 (by decide) ?_
  refine V_bipush (v := 31) C dX8_poke_3 (by decide) ?_
  refine V_calliS C dX8_poke_5 (c_X8_out l D K (mw K h u) xc 0 31) gX8_poke_X8_out rfl 3 rfl (by decide +kernel) (by decide) ⟨Nat.le_of_ble_eq_true rfl, Nat.le_of_ble_eq_true rfl⟩ rfl (Nat.le_of_ble_eq_true rfl) (det0 ?_)
  refine V_iconst (v := 0) C dX8_poke_8 (by decide) ?_
  refine V_calliV C dX8_poke_9 0 rfl rfl (c_X8_throwing1 l D K h u (mOut xc 0 31)) gX8_poke_X8_throwing rfl 2 rfl (by decide +kernel) (by decide) ⟨Nat.le_of_ble_eq_true rfl, Nat.le_of_ble_eq_true rfl⟩ rfl (Nat.le_of_ble_eq_true rfl) (det2 ?_)
  refine V_ifz_eq (tgt := 16) C dX8_poke_12 (by decide) (fun zh12 => ?_) (fun zh12 => ?_)
  · refine V_aload_n C dX8_poke_16 rfl 0 rfl ?_
    refine V_get (v := .ref (h 19)) C dX8_poke_17 hi8 0 rfl rfl 18 (by decide) (List.mem_of_getElem? (i := 1) rfl) rfl rfl ?_
    refine V_iload_n C dX8_poke_20 rfl 1 rfl ?_
    refine V_lload_n C dX8_poke_21 rfl 2 rfl ?_
    refine V_lastn (ws' := (mw K h (sl (si u 0 (mThr (mOut xc 0 31) false)) 18 (xc.toNatClampNeg) xv))) C dX8_poke_22 10 1 rfl rfl (xc.toNatClampNeg) rfl (mOut_in 32 zh12 (by decide) (by decide)) (ms_18 K h (si u 0 (mThr (mOut xc 0 31) false)) (xc.toNatClampNeg) xv) ?_
    refine V_aload_n C dX8_poke_23 rfl 0 rfl ?_
    refine V_get (v := .ref (h 20)) C dX8_poke_24 hi8 0 rfl rfl 19 (by decide) (List.mem_of_getElem? (i := 2) rfl) rfl rfl ?_
    refine V_iload_n C dX8_poke_27 rfl 1 rfl ?_
    refine V_iconst (v := 0) C dX8_poke_28 (by decide) ?_
    refine V_zastn (ws' := (mw K h (sz (sl (si u 0 (mThr (mOut xc 0 31) false)) 18 (xc.toNatClampNeg) xv) 19 (xc.toNatClampNeg) false))) C dX8_poke_29 11 2 rfl rfl (xc.toNatClampNeg) rfl (mOut_in 32 zh12 (by decide) (by decide)) (ms_19 K h (sl (si u 0 (mThr (mOut xc 0 31) false)) 18 (xc.toNatClampNeg) xv) (xc.toNatClampNeg) false) ?_
    exact E (sz (sl (si u 0 (mThr (mOut xc 0 31) false)) 18 (xc.toNatClampNeg) xv) 19 (xc.toNatClampNeg) false) _ _ dX8_poke_30 (by first | rfl | (simp (decide := true) [b2i, gi_si, ga_si, gz_si, gl_si, gb_si, mPl_si, mGet_si, mNat_si, mSlot_si, mBy_si, mThr, mThr, zh12]; done) | (simp (decide := true) [b2i, gi_si, ga_si, gz_si, gl_si, gb_si, mPl_si, mGet_si, mNat_si, mSlot_si, mBy_si, mThr, mThr, zh12]; rfl) | (simp_all (decide := true) [b2i, gi_si, ga_si, gz_si, gl_si, gb_si, mPl_si, mGet_si, mNat_si, mSlot_si, mBy_si, mThr, mThr]; done))
  · exact E (si u 0 (mThr (mOut xc 0 31) false)) _ _ dX8_poke_15 (by first | rfl | (simp (decide := true) [b2i, gi_si, ga_si, gz_si, gl_si, gb_si, mPl_si, mGet_si, mNat_si, mSlot_si, mBy_si, mThr, mThr, zh12]; done) | (simp (decide := true) [b2i, gi_si, ga_si, gz_si, gl_si, gb_si, mPl_si, mGet_si, mNat_si, mSlot_si, mBy_si, mThr, mThr, zh12]; rfl) | (simp_all (decide := true) [b2i, gi_si, ga_si, gz_si, gl_si, gb_si, mPl_si, mGet_si, mNat_si, mSlot_si, mBy_si, mThr, mThr]; done))

/-- what look tells -/
def mLook (u : MS) (w : Int32) : Int32 := if 0 < w ∧ w < 5 then ga u 25 w.toNatClampNeg else if w = 0 then gi u 27 else if w = 5 then gi u 26 else if w = 6 then gi u 28 else if w = 7 then gi u 29 else if w = 8 then gi u 23 else if w = 9 then gi u 24 else if w = 10 then ga u 25 0 else gi u 21
set_option maxHeartbeats 4000000 in
set_option maxRecDepth 100000 in
theorem c_X8_look (l : Launch) (D : va_G) (K : Nat → ClassId) (h : Nat → Nat) (u : MS) (xw : Int32)  : vMi l D vwCl (tys0 K) yX8_look wsX8_look ({ frames := 1, cells := 0, slots := 0, locals := 22 } : Room) [.ref (h 0), .int xw] (mw K h u) (mw K h) (fun r9 u9 => r9 = (if mOut xw 0 11 = true then 0 else mLook u xw) ∧ u9 = si u 0 (mThr (mOut xw 0 11) false)) := by
  refine vMi_of (cc := cX8_look) (nL := 2) (rt := .int) (by decide) rfl (Nat.le_of_ble_eq_true rfl) ?_
  intro X C E
  show V X 0 0 (mw K h u) 0 [(0, .ref (h 0)), (1, .int xw)] []
  have hi8 : ∀ w ∈ wsX80, w ∈ wsX8_look := fun _ h => List.mem_cons_of_mem _ (List.mem_append_right _ h)
  refine V_aload_n C dX8_look_0 rfl 0 rfl ?_
  refine V_iload_n C dX8_look_1 rfl 1 rfl ?_
  refine V_iconst (v := 0) C dX8_look_2 (by decide) ?_
  refine V_bipush (v := 11) C dX8_look_3 (by decide) ?_
  refine V_calliS C dX8_look_5 (c_X8_out l D K (mw K h u) xw 0 11) gX8_look_X8_out rfl 3 rfl (by decide +kernel) (by decide) ⟨Nat.le_of_ble_eq_true rfl, Nat.le_of_ble_eq_true rfl⟩ rfl (Nat.le_of_ble_eq_true rfl) (det0 ?_)
  refine V_iconst (v := 0) C dX8_look_8 (by decide) ?_
  refine V_calliV C dX8_look_9 0 rfl rfl (c_X8_throwing1 l D K h u (mOut xw 0 11)) gX8_look_X8_throwing rfl 2 rfl (by decide +kernel) (by decide) ⟨Nat.le_of_ble_eq_true rfl, Nat.le_of_ble_eq_true rfl⟩ rfl (Nat.le_of_ble_eq_true rfl) (det2 ?_)
  refine V_ifz_eq (tgt := 17) C dX8_look_12 (by decide) (fun zh12 => ?_) (fun zh12 => ?_)
  · refine V_iload_n C dX8_look_17 rfl 1 rfl ?_
    refine V_if_le (tgt := 33) C dX8_look_18 (by decide) (fun zh18 => ?_) (fun zh18 => ?_)
    · refine V_iload_n C dX8_look_33 rfl 1 rfl ?_
      by_cases zs34_0 : xw = 0
      · refine V_tab C dX8_look_34 92 (Or.inl (by rw [zs34_0]; exact ⟨by decide, by decide, _, rfl, by decide⟩)) ?_
        refine V_aload_n C dX8_look_92 rfl 0 rfl ?_
        refine V_get (v := .int (gi u 27)) C dX8_look_93 hi8 0 rfl rfl 27 (by decide) (List.mem_of_getElem? (i := 2) rfl) rfl rfl ?_
        exact E (gi u 27) (si u 0 (mThr (mOut xw 0 11) false)) _ _ dX8_look_96 rfl ⟨by first | rfl | (simp (decide := true) [b2i, gi_si, ga_si, gz_si, gl_si, gb_si, mPl_si, mGet_si, mNat_si, mSlot_si, mBy_si, mThr, mLook, mThr, zh12, zh18, Int32.not_lt.mpr zh18, zs34_0]; done) | (simp (decide := true) [b2i, gi_si, ga_si, gz_si, gl_si, gb_si, mPl_si, mGet_si, mNat_si, mSlot_si, mBy_si, mThr, mLook, mThr, zh12, zh18, Int32.not_lt.mpr zh18, zs34_0]; rfl) | (simp_all (decide := true) [b2i, gi_si, ga_si, gz_si, gl_si, gb_si, mPl_si, mGet_si, mNat_si, mSlot_si, mBy_si, mThr, mLook, mThr]; done), by first | rfl | (simp (decide := true) [b2i, gi_si, ga_si, gz_si, gl_si, gb_si, mPl_si, mGet_si, mNat_si, mSlot_si, mBy_si, mThr, mLook, mThr, zh12, zh18, Int32.not_lt.mpr zh18, zs34_0]; done) | (simp (decide := true) [b2i, gi_si, ga_si, gz_si, gl_si, gb_si, mPl_si, mGet_si, mNat_si, mSlot_si, mBy_si, mThr, mLook, mThr, zh12, zh18, Int32.not_lt.mpr zh18, zs34_0]; rfl) | (simp_all (decide := true) [b2i, gi_si, ga_si, gz_si, gl_si, gb_si, mPl_si, mGet_si, mNat_si, mSlot_si, mBy_si, mThr, mLook, mThr]; done)⟩
      by_cases zs34_1 : xw = 1
      · exact absurd zs34_1 (by first | (intro q; rw [q] at zh18; revert zh18; decide) | (intro q; rw [q] at zh23; revert zh23; decide))
      by_cases zs34_2 : xw = 2
      · exact absurd zs34_2 (by first | (intro q; rw [q] at zh18; revert zh18; decide) | (intro q; rw [q] at zh23; revert zh23; decide))
      by_cases zs34_3 : xw = 3
      · exact absurd zs34_3 (by first | (intro q; rw [q] at zh18; revert zh18; decide) | (intro q; rw [q] at zh23; revert zh23; decide))
      by_cases zs34_4 : xw = 4
      · exact absurd zs34_4 (by first | (intro q; rw [q] at zh18; revert zh18; decide) | (intro q; rw [q] at zh23; revert zh23; decide))
      by_cases zs34_5 : xw = 5
      · refine V_tab C dX8_look_34 97 (Or.inl (by rw [zs34_5]; exact ⟨by decide, by decide, _, rfl, by decide⟩)) ?_
        refine V_aload_n C dX8_look_97 rfl 0 rfl ?_
        refine V_get (v := .int (gi u 26)) C dX8_look_98 hi8 0 rfl rfl 26 (by decide) (List.mem_of_getElem? (i := 3) rfl) rfl rfl ?_
        exact E (gi u 26) (si u 0 (mThr (mOut xw 0 11) false)) _ _ dX8_look_101 rfl ⟨by first | rfl | (simp (decide := true) [b2i, gi_si, ga_si, gz_si, gl_si, gb_si, mPl_si, mGet_si, mNat_si, mSlot_si, mBy_si, mThr, mLook, mThr, zh12, zh18, Int32.not_lt.mpr zh18, zs34_5]; done) | (simp (decide := true) [b2i, gi_si, ga_si, gz_si, gl_si, gb_si, mPl_si, mGet_si, mNat_si, mSlot_si, mBy_si, mThr, mLook, mThr, zh12, zh18, Int32.not_lt.mpr zh18, zs34_5]; rfl) | (simp_all (decide := true) [b2i, gi_si, ga_si, gz_si, gl_si, gb_si, mPl_si, mGet_si, mNat_si, mSlot_si, mBy_si, mThr, mLook, mThr]; done), by first | rfl | (simp (decide := true) [b2i, gi_si, ga_si, gz_si, gl_si, gb_si, mPl_si, mGet_si, mNat_si, mSlot_si, mBy_si, mThr, mLook, mThr, zh12, zh18, Int32.not_lt.mpr zh18, zs34_5]; done) | (simp (decide := true) [b2i, gi_si, ga_si, gz_si, gl_si, gb_si, mPl_si, mGet_si, mNat_si, mSlot_si, mBy_si, mThr, mLook, mThr, zh12, zh18, Int32.not_lt.mpr zh18, zs34_5]; rfl) | (simp_all (decide := true) [b2i, gi_si, ga_si, gz_si, gl_si, gb_si, mPl_si, mGet_si, mNat_si, mSlot_si, mBy_si, mThr, mLook, mThr]; done)⟩
      by_cases zs34_6 : xw = 6
      · refine V_tab C dX8_look_34 102 (Or.inl (by rw [zs34_6]; exact ⟨by decide, by decide, _, rfl, by decide⟩)) ?_
        refine V_aload_n C dX8_look_102 rfl 0 rfl ?_
        refine V_get (v := .int (gi u 28)) C dX8_look_103 hi8 0 rfl rfl 28 (by decide) (List.mem_of_getElem? (i := 4) rfl) rfl rfl ?_
        exact E (gi u 28) (si u 0 (mThr (mOut xw 0 11) false)) _ _ dX8_look_106 rfl ⟨by first | rfl | (simp (decide := true) [b2i, gi_si, ga_si, gz_si, gl_si, gb_si, mPl_si, mGet_si, mNat_si, mSlot_si, mBy_si, mThr, mLook, mThr, zh12, zh18, Int32.not_lt.mpr zh18, zs34_6]; done) | (simp (decide := true) [b2i, gi_si, ga_si, gz_si, gl_si, gb_si, mPl_si, mGet_si, mNat_si, mSlot_si, mBy_si, mThr, mLook, mThr, zh12, zh18, Int32.not_lt.mpr zh18, zs34_6]; rfl) | (simp_all (decide := true) [b2i, gi_si, ga_si, gz_si, gl_si, gb_si, mPl_si, mGet_si, mNat_si, mSlot_si, mBy_si, mThr, mLook, mThr]; done), by first | rfl | (simp (decide := true) [b2i, gi_si, ga_si, gz_si, gl_si, gb_si, mPl_si, mGet_si, mNat_si, mSlot_si, mBy_si, mThr, mLook, mThr, zh12, zh18, Int32.not_lt.mpr zh18, zs34_6]; done) | (simp (decide := true) [b2i, gi_si, ga_si, gz_si, gl_si, gb_si, mPl_si, mGet_si, mNat_si, mSlot_si, mBy_si, mThr, mLook, mThr, zh12, zh18, Int32.not_lt.mpr zh18, zs34_6]; rfl) | (simp_all (decide := true) [b2i, gi_si, ga_si, gz_si, gl_si, gb_si, mPl_si, mGet_si, mNat_si, mSlot_si, mBy_si, mThr, mLook, mThr]; done)⟩
      by_cases zs34_7 : xw = 7
      · refine V_tab C dX8_look_34 107 (Or.inl (by rw [zs34_7]; exact ⟨by decide, by decide, _, rfl, by decide⟩)) ?_
        refine V_aload_n C dX8_look_107 rfl 0 rfl ?_
        refine V_get (v := .int (gi u 29)) C dX8_look_108 hi8 0 rfl rfl 29 (by decide) (List.mem_of_getElem? (i := 5) rfl) rfl rfl ?_
        exact E (gi u 29) (si u 0 (mThr (mOut xw 0 11) false)) _ _ dX8_look_111 rfl ⟨by first | rfl | (simp (decide := true) [b2i, gi_si, ga_si, gz_si, gl_si, gb_si, mPl_si, mGet_si, mNat_si, mSlot_si, mBy_si, mThr, mLook, mThr, zh12, zh18, Int32.not_lt.mpr zh18, zs34_7]; done) | (simp (decide := true) [b2i, gi_si, ga_si, gz_si, gl_si, gb_si, mPl_si, mGet_si, mNat_si, mSlot_si, mBy_si, mThr, mLook, mThr, zh12, zh18, Int32.not_lt.mpr zh18, zs34_7]; rfl) | (simp_all (decide := true) [b2i, gi_si, ga_si, gz_si, gl_si, gb_si, mPl_si, mGet_si, mNat_si, mSlot_si, mBy_si, mThr, mLook, mThr]; done), by first | rfl | (simp (decide := true) [b2i, gi_si, ga_si, gz_si, gl_si, gb_si, mPl_si, mGet_si, mNat_si, mSlot_si, mBy_si, mThr, mLook, mThr, zh12, zh18, Int32.not_lt.mpr zh18, zs34_7]; done) | (simp (decide := true) [b2i, gi_si, ga_si, gz_si, gl_si, gb_si, mPl_si, mGet_si, mNat_si, mSlot_si, mBy_si, mThr, mLook, mThr, zh12, zh18, Int32.not_lt.mpr zh18, zs34_7]; rfl) | (simp_all (decide := true) [b2i, gi_si, ga_si, gz_si, gl_si, gb_si, mPl_si, mGet_si, mNat_si, mSlot_si, mBy_si, mThr, mLook, mThr]; done)⟩
      by_cases zs34_8 : xw = 8
      · refine V_tab C dX8_look_34 112 (Or.inl (by rw [zs34_8]; exact ⟨by decide, by decide, _, rfl, by decide⟩)) ?_
        refine V_aload_n C dX8_look_112 rfl 0 rfl ?_
        refine V_get (v := .int (gi u 23)) C dX8_look_113 hi8 0 rfl rfl 23 (by decide) (List.mem_of_getElem? (i := 6) rfl) rfl rfl ?_
        exact E (gi u 23) (si u 0 (mThr (mOut xw 0 11) false)) _ _ dX8_look_116 rfl ⟨by first | rfl | (simp (decide := true) [b2i, gi_si, ga_si, gz_si, gl_si, gb_si, mPl_si, mGet_si, mNat_si, mSlot_si, mBy_si, mThr, mLook, mThr, zh12, zh18, Int32.not_lt.mpr zh18, zs34_8]; done) | (simp (decide := true) [b2i, gi_si, ga_si, gz_si, gl_si, gb_si, mPl_si, mGet_si, mNat_si, mSlot_si, mBy_si, mThr, mLook, mThr, zh12, zh18, Int32.not_lt.mpr zh18, zs34_8]; rfl) | (simp_all (decide := true) [b2i, gi_si, ga_si, gz_si, gl_si, gb_si, mPl_si, mGet_si, mNat_si, mSlot_si, mBy_si, mThr, mLook, mThr]; done), by first | rfl | (simp (decide := true) [b2i, gi_si, ga_si, gz_si, gl_si, gb_si, mPl_si, mGet_si, mNat_si, mSlot_si, mBy_si, mThr, mLook, mThr, zh12, zh18, Int32.not_lt.mpr zh18, zs34_8]; done) | (simp (decide := true) [b2i, gi_si, ga_si, gz_si, gl_si, gb_si, mPl_si, mGet_si, mNat_si, mSlot_si, mBy_si, mThr, mLook, mThr, zh12, zh18, Int32.not_lt.mpr zh18, zs34_8]; rfl) | (simp_all (decide := true) [b2i, gi_si, ga_si, gz_si, gl_si, gb_si, mPl_si, mGet_si, mNat_si, mSlot_si, mBy_si, mThr, mLook, mThr]; done)⟩
      by_cases zs34_9 : xw = 9
      · refine V_tab C dX8_look_34 117 (Or.inl (by rw [zs34_9]; exact ⟨by decide, by decide, _, rfl, by decide⟩)) ?_
        refine V_aload_n C dX8_look_117 rfl 0 rfl ?_
        refine V_get (v := .int (gi u 24)) C dX8_look_118 hi8 0 rfl rfl 24 (by decide) (List.mem_of_getElem? (i := 7) rfl) rfl rfl ?_
        exact E (gi u 24) (si u 0 (mThr (mOut xw 0 11) false)) _ _ dX8_look_121 rfl ⟨by first | rfl | (simp (decide := true) [b2i, gi_si, ga_si, gz_si, gl_si, gb_si, mPl_si, mGet_si, mNat_si, mSlot_si, mBy_si, mThr, mLook, mThr, zh12, zh18, Int32.not_lt.mpr zh18, zs34_9]; done) | (simp (decide := true) [b2i, gi_si, ga_si, gz_si, gl_si, gb_si, mPl_si, mGet_si, mNat_si, mSlot_si, mBy_si, mThr, mLook, mThr, zh12, zh18, Int32.not_lt.mpr zh18, zs34_9]; rfl) | (simp_all (decide := true) [b2i, gi_si, ga_si, gz_si, gl_si, gb_si, mPl_si, mGet_si, mNat_si, mSlot_si, mBy_si, mThr, mLook, mThr]; done), by first | rfl | (simp (decide := true) [b2i, gi_si, ga_si, gz_si, gl_si, gb_si, mPl_si, mGet_si, mNat_si, mSlot_si, mBy_si, mThr, mLook, mThr, zh12, zh18, Int32.not_lt.mpr zh18, zs34_9]; done) | (simp (decide := true) [b2i, gi_si, ga_si, gz_si, gl_si, gb_si, mPl_si, mGet_si, mNat_si, mSlot_si, mBy_si, mThr, mLook, mThr, zh12, zh18, Int32.not_lt.mpr zh18, zs34_9]; rfl) | (simp_all (decide := true) [b2i, gi_si, ga_si, gz_si, gl_si, gb_si, mPl_si, mGet_si, mNat_si, mSlot_si, mBy_si, mThr, mLook, mThr]; done)⟩
      by_cases zs34_10 : xw = 10
      · refine V_tab C dX8_look_34 122 (Or.inl (by rw [zs34_10]; exact ⟨by decide, by decide, _, rfl, by decide⟩)) ?_
        refine V_aload_n C dX8_look_122 rfl 0 rfl ?_
        refine V_get (v := .ref (h 26)) C dX8_look_123 hi8 0 rfl rfl 25 (by decide) (List.mem_of_getElem? (i := 1) rfl) rfl rfl ?_
        refine V_iconst (v := 0) C dX8_look_126 (by decide) ?_
        refine V_ialdn (v := (ga u 25 0)) C dX8_look_127 13 0 rfl rfl (0) (by decide) (by unfold vp_in; decide) (by first | rfl | (simp (disch := omega) only [ga_sa_ne, ga_sa_eq, ga_si, ga_sb, ga_sz, ga_sl])) ?_
        exact E (ga u 25 0) (si u 0 (mThr (mOut xw 0 11) false)) _ _ dX8_look_128 rfl ⟨by first | rfl | (simp (decide := true) [b2i, gi_si, ga_si, gz_si, gl_si, gb_si, mPl_si, mGet_si, mNat_si, mSlot_si, mBy_si, mThr, mLook, mThr, zh12, zh18, Int32.not_lt.mpr zh18, zs34_10]; done) | (simp (decide := true) [b2i, gi_si, ga_si, gz_si, gl_si, gb_si, mPl_si, mGet_si, mNat_si, mSlot_si, mBy_si, mThr, mLook, mThr, zh12, zh18, Int32.not_lt.mpr zh18, zs34_10]; rfl) | (simp_all (decide := true) [b2i, gi_si, ga_si, gz_si, gl_si, gb_si, mPl_si, mGet_si, mNat_si, mSlot_si, mBy_si, mThr, mLook, mThr]; done), by first | rfl | (simp (decide := true) [b2i, gi_si, ga_si, gz_si, gl_si, gb_si, mPl_si, mGet_si, mNat_si, mSlot_si, mBy_si, mThr, mLook, mThr, zh12, zh18, Int32.not_lt.mpr zh18, zs34_10]; done) | (simp (decide := true) [b2i, gi_si, ga_si, gz_si, gl_si, gb_si, mPl_si, mGet_si, mNat_si, mSlot_si, mBy_si, mThr, mLook, mThr, zh12, zh18, Int32.not_lt.mpr zh18, zs34_10]; rfl) | (simp_all (decide := true) [b2i, gi_si, ga_si, gz_si, gl_si, gb_si, mPl_si, mGet_si, mNat_si, mSlot_si, mBy_si, mThr, mLook, mThr]; done)⟩
      refine V_tab C dX8_look_34 129 (Or.inr ⟨by have q_0 := i32ne (c := 0) 0 (by decide) zs34_0; have q_1 := i32ne (c := 1) 1 (by decide) zs34_1; have q_2 := i32ne (c := 2) 2 (by decide) zs34_2; have q_3 := i32ne (c := 3) 3 (by decide) zs34_3; have q_4 := i32ne (c := 4) 4 (by decide) zs34_4; have q_5 := i32ne (c := 5) 5 (by decide) zs34_5; have q_6 := i32ne (c := 6) 6 (by decide) zs34_6; have q_7 := i32ne (c := 7) 7 (by decide) zs34_7; have q_8 := i32ne (c := 8) 8 (by decide) zs34_8; have q_9 := i32ne (c := 9) 9 (by decide) zs34_9; have q_10 := i32ne (c := 10) 10 (by decide) zs34_10; omega, by decide⟩) ?_
      refine V_aload_n C dX8_look_129 rfl 0 rfl ?_
      refine V_get (v := .int (gi u 21)) C dX8_look_130 hi8 0 rfl rfl 21 (by decide) (List.mem_of_getElem? (i := 8) rfl) rfl rfl ?_
      exact E (gi u 21) (si u 0 (mThr (mOut xw 0 11) false)) _ _ dX8_look_133 rfl ⟨by first | rfl | (simp (decide := true) [b2i, gi_si, ga_si, gz_si, gl_si, gb_si, mPl_si, mGet_si, mNat_si, mSlot_si, mBy_si, mThr, mLook, mThr, zh12, zh18, Int32.not_lt.mpr zh18, zs34_0, zs34_1, zs34_2, zs34_3, zs34_4, zs34_5, zs34_6, zs34_7, zs34_8, zs34_9, zs34_10]; done) | (simp (decide := true) [b2i, gi_si, ga_si, gz_si, gl_si, gb_si, mPl_si, mGet_si, mNat_si, mSlot_si, mBy_si, mThr, mLook, mThr, zh12, zh18, Int32.not_lt.mpr zh18, zs34_0, zs34_1, zs34_2, zs34_3, zs34_4, zs34_5, zs34_6, zs34_7, zs34_8, zs34_9, zs34_10]; rfl) | (simp_all (decide := true) [b2i, gi_si, ga_si, gz_si, gl_si, gb_si, mPl_si, mGet_si, mNat_si, mSlot_si, mBy_si, mThr, mLook, mThr]; done), by first | rfl | (simp (decide := true) [b2i, gi_si, ga_si, gz_si, gl_si, gb_si, mPl_si, mGet_si, mNat_si, mSlot_si, mBy_si, mThr, mLook, mThr, zh12, zh18, Int32.not_lt.mpr zh18, zs34_0, zs34_1, zs34_2, zs34_3, zs34_4, zs34_5, zs34_6, zs34_7, zs34_8, zs34_9, zs34_10]; done) | (simp (decide := true) [b2i, gi_si, ga_si, gz_si, gl_si, gb_si, mPl_si, mGet_si, mNat_si, mSlot_si, mBy_si, mThr, mLook, mThr, zh12, zh18, Int32.not_lt.mpr zh18, zs34_0, zs34_1, zs34_2, zs34_3, zs34_4, zs34_5, zs34_6, zs34_7, zs34_8, zs34_9, zs34_10]; rfl) | (simp_all (decide := true) [b2i, gi_si, ga_si, gz_si, gl_si, gb_si, mPl_si, mGet_si, mNat_si, mSlot_si, mBy_si, mThr, mLook, mThr]; done)⟩
    · refine V_iload_n C dX8_look_21 rfl 1 rfl ?_
      refine V_iconst (v := 5) C dX8_look_22 (by decide) ?_
      refine V_icmp_ge (tgt := 33) C dX8_look_23 (by decide) (fun zh23 => ?_) (fun zh23 => ?_)
      · refine V_iload_n C dX8_look_33 rfl 1 rfl ?_
        by_cases zs34_0 : xw = 0
        · refine V_tab C dX8_look_34 92 (Or.inl (by rw [zs34_0]; exact ⟨by decide, by decide, _, rfl, by decide⟩)) ?_
          refine V_aload_n C dX8_look_92 rfl 0 rfl ?_
          refine V_get (v := .int (gi u 27)) C dX8_look_93 hi8 0 rfl rfl 27 (by decide) (List.mem_of_getElem? (i := 2) rfl) rfl rfl ?_
          exact E (gi u 27) (si u 0 (mThr (mOut xw 0 11) false)) _ _ dX8_look_96 rfl ⟨by first | rfl | (simp (decide := true) [b2i, gi_si, ga_si, gz_si, gl_si, gb_si, mPl_si, mGet_si, mNat_si, mSlot_si, mBy_si, mThr, mLook, mThr, zh12, zh18, Int32.not_le.mp zh18, zh23, Int32.not_lt.mpr zh23, zs34_0]; done) | (simp (decide := true) [b2i, gi_si, ga_si, gz_si, gl_si, gb_si, mPl_si, mGet_si, mNat_si, mSlot_si, mBy_si, mThr, mLook, mThr, zh12, zh18, Int32.not_le.mp zh18, zh23, Int32.not_lt.mpr zh23, zs34_0]; rfl) | (simp_all (decide := true) [b2i, gi_si, ga_si, gz_si, gl_si, gb_si, mPl_si, mGet_si, mNat_si, mSlot_si, mBy_si, mThr, mLook, mThr]; done), by first | rfl | (simp (decide := true) [b2i, gi_si, ga_si, gz_si, gl_si, gb_si, mPl_si, mGet_si, mNat_si, mSlot_si, mBy_si, mThr, mLook, mThr, zh12, zh18, Int32.not_le.mp zh18, zh23, Int32.not_lt.mpr zh23, zs34_0]; done) | (simp (decide := true) [b2i, gi_si, ga_si, gz_si, gl_si, gb_si, mPl_si, mGet_si, mNat_si, mSlot_si, mBy_si, mThr, mLook, mThr, zh12, zh18, Int32.not_le.mp zh18, zh23, Int32.not_lt.mpr zh23, zs34_0]; rfl) | (simp_all (decide := true) [b2i, gi_si, ga_si, gz_si, gl_si, gb_si, mPl_si, mGet_si, mNat_si, mSlot_si, mBy_si, mThr, mLook, mThr]; done)⟩
        by_cases zs34_1 : xw = 1
        · exact absurd zs34_1 (by first | (intro q; rw [q] at zh18; revert zh18; decide) | (intro q; rw [q] at zh23; revert zh23; decide))
        by_cases zs34_2 : xw = 2
        · exact absurd zs34_2 (by first | (intro q; rw [q] at zh18; revert zh18; decide) | (intro q; rw [q] at zh23; revert zh23; decide))
        by_cases zs34_3 : xw = 3
        · exact absurd zs34_3 (by first | (intro q; rw [q] at zh18; revert zh18; decide) | (intro q; rw [q] at zh23; revert zh23; decide))
        by_cases zs34_4 : xw = 4
        · exact absurd zs34_4 (by first | (intro q; rw [q] at zh18; revert zh18; decide) | (intro q; rw [q] at zh23; revert zh23; decide))
        by_cases zs34_5 : xw = 5
        · refine V_tab C dX8_look_34 97 (Or.inl (by rw [zs34_5]; exact ⟨by decide, by decide, _, rfl, by decide⟩)) ?_
          refine V_aload_n C dX8_look_97 rfl 0 rfl ?_
          refine V_get (v := .int (gi u 26)) C dX8_look_98 hi8 0 rfl rfl 26 (by decide) (List.mem_of_getElem? (i := 3) rfl) rfl rfl ?_
          exact E (gi u 26) (si u 0 (mThr (mOut xw 0 11) false)) _ _ dX8_look_101 rfl ⟨by first | rfl | (simp (decide := true) [b2i, gi_si, ga_si, gz_si, gl_si, gb_si, mPl_si, mGet_si, mNat_si, mSlot_si, mBy_si, mThr, mLook, mThr, zh12, zh18, Int32.not_le.mp zh18, zh23, Int32.not_lt.mpr zh23, zs34_5]; done) | (simp (decide := true) [b2i, gi_si, ga_si, gz_si, gl_si, gb_si, mPl_si, mGet_si, mNat_si, mSlot_si, mBy_si, mThr, mLook, mThr, zh12, zh18, Int32.not_le.mp zh18, zh23, Int32.not_lt.mpr zh23, zs34_5]; rfl) | (simp_all (decide := true) [b2i, gi_si, ga_si, gz_si, gl_si, gb_si, mPl_si, mGet_si, mNat_si, mSlot_si, mBy_si, mThr, mLook, mThr]; done), by first | rfl | (simp (decide := true) [b2i, gi_si, ga_si, gz_si, gl_si, gb_si, mPl_si, mGet_si, mNat_si, mSlot_si, mBy_si, mThr, mLook, mThr, zh12, zh18, Int32.not_le.mp zh18, zh23, Int32.not_lt.mpr zh23, zs34_5]; done) | (simp (decide := true) [b2i, gi_si, ga_si, gz_si, gl_si, gb_si, mPl_si, mGet_si, mNat_si, mSlot_si, mBy_si, mThr, mLook, mThr, zh12, zh18, Int32.not_le.mp zh18, zh23, Int32.not_lt.mpr zh23, zs34_5]; rfl) | (simp_all (decide := true) [b2i, gi_si, ga_si, gz_si, gl_si, gb_si, mPl_si, mGet_si, mNat_si, mSlot_si, mBy_si, mThr, mLook, mThr]; done)⟩
        by_cases zs34_6 : xw = 6
        · refine V_tab C dX8_look_34 102 (Or.inl (by rw [zs34_6]; exact ⟨by decide, by decide, _, rfl, by decide⟩)) ?_
          refine V_aload_n C dX8_look_102 rfl 0 rfl ?_
          refine V_get (v := .int (gi u 28)) C dX8_look_103 hi8 0 rfl rfl 28 (by decide) (List.mem_of_getElem? (i := 4) rfl) rfl rfl ?_
          exact E (gi u 28) (si u 0 (mThr (mOut xw 0 11) false)) _ _ dX8_look_106 rfl ⟨by first | rfl | (simp (decide := true) [b2i, gi_si, ga_si, gz_si, gl_si, gb_si, mPl_si, mGet_si, mNat_si, mSlot_si, mBy_si, mThr, mLook, mThr, zh12, zh18, Int32.not_le.mp zh18, zh23, Int32.not_lt.mpr zh23, zs34_6]; done) | (simp (decide := true) [b2i, gi_si, ga_si, gz_si, gl_si, gb_si, mPl_si, mGet_si, mNat_si, mSlot_si, mBy_si, mThr, mLook, mThr, zh12, zh18, Int32.not_le.mp zh18, zh23, Int32.not_lt.mpr zh23, zs34_6]; rfl) | (simp_all (decide := true) [b2i, gi_si, ga_si, gz_si, gl_si, gb_si, mPl_si, mGet_si, mNat_si, mSlot_si, mBy_si, mThr, mLook, mThr]; done), by first | rfl | (simp (decide := true) [b2i, gi_si, ga_si, gz_si, gl_si, gb_si, mPl_si, mGet_si, mNat_si, mSlot_si, mBy_si, mThr, mLook, mThr, zh12, zh18, Int32.not_le.mp zh18, zh23, Int32.not_lt.mpr zh23, zs34_6]; done) | (simp (decide := true) [b2i, gi_si, ga_si, gz_si, gl_si, gb_si, mPl_si, mGet_si, mNat_si, mSlot_si, mBy_si, mThr, mLook, mThr, zh12, zh18, Int32.not_le.mp zh18, zh23, Int32.not_lt.mpr zh23, zs34_6]; rfl) | (simp_all (decide := true) [b2i, gi_si, ga_si, gz_si, gl_si, gb_si, mPl_si, mGet_si, mNat_si, mSlot_si, mBy_si, mThr, mLook, mThr]; done)⟩
        by_cases zs34_7 : xw = 7
        · refine V_tab C dX8_look_34 107 (Or.inl (by rw [zs34_7]; exact ⟨by decide, by decide, _, rfl, by decide⟩)) ?_
          refine V_aload_n C dX8_look_107 rfl 0 rfl ?_
          refine V_get (v := .int (gi u 29)) C dX8_look_108 hi8 0 rfl rfl 29 (by decide) (List.mem_of_getElem? (i := 5) rfl) rfl rfl ?_
          exact E (gi u 29) (si u 0 (mThr (mOut xw 0 11) false)) _ _ dX8_look_111 rfl ⟨by first | rfl | (simp (decide := true) [b2i, gi_si, ga_si, gz_si, gl_si, gb_si, mPl_si, mGet_si, mNat_si, mSlot_si, mBy_si, mThr, mLook, mThr, zh12, zh18, Int32.not_le.mp zh18, zh23, Int32.not_lt.mpr zh23, zs34_7]; done) | (simp (decide := true) [b2i, gi_si, ga_si, gz_si, gl_si, gb_si, mPl_si, mGet_si, mNat_si, mSlot_si, mBy_si, mThr, mLook, mThr, zh12, zh18, Int32.not_le.mp zh18, zh23, Int32.not_lt.mpr zh23, zs34_7]; rfl) | (simp_all (decide := true) [b2i, gi_si, ga_si, gz_si, gl_si, gb_si, mPl_si, mGet_si, mNat_si, mSlot_si, mBy_si, mThr, mLook, mThr]; done), by first | rfl | (simp (decide := true) [b2i, gi_si, ga_si, gz_si, gl_si, gb_si, mPl_si, mGet_si, mNat_si, mSlot_si, mBy_si, mThr, mLook, mThr, zh12, zh18, Int32.not_le.mp zh18, zh23, Int32.not_lt.mpr zh23, zs34_7]; done) | (simp (decide := true) [b2i, gi_si, ga_si, gz_si, gl_si, gb_si, mPl_si, mGet_si, mNat_si, mSlot_si, mBy_si, mThr, mLook, mThr, zh12, zh18, Int32.not_le.mp zh18, zh23, Int32.not_lt.mpr zh23, zs34_7]; rfl) | (simp_all (decide := true) [b2i, gi_si, ga_si, gz_si, gl_si, gb_si, mPl_si, mGet_si, mNat_si, mSlot_si, mBy_si, mThr, mLook, mThr]; done)⟩
        by_cases zs34_8 : xw = 8
        · refine V_tab C dX8_look_34 112 (Or.inl (by rw [zs34_8]; exact ⟨by decide, by decide, _, rfl, by decide⟩)) ?_
          refine V_aload_n C dX8_look_112 rfl 0 rfl ?_
          refine V_get (v := .int (gi u 23)) C dX8_look_113 hi8 0 rfl rfl 23 (by decide) (List.mem_of_getElem? (i := 6) rfl) rfl rfl ?_
          exact E (gi u 23) (si u 0 (mThr (mOut xw 0 11) false)) _ _ dX8_look_116 rfl ⟨by first | rfl | (simp (decide := true) [b2i, gi_si, ga_si, gz_si, gl_si, gb_si, mPl_si, mGet_si, mNat_si, mSlot_si, mBy_si, mThr, mLook, mThr, zh12, zh18, Int32.not_le.mp zh18, zh23, Int32.not_lt.mpr zh23, zs34_8]; done) | (simp (decide := true) [b2i, gi_si, ga_si, gz_si, gl_si, gb_si, mPl_si, mGet_si, mNat_si, mSlot_si, mBy_si, mThr, mLook, mThr, zh12, zh18, Int32.not_le.mp zh18, zh23, Int32.not_lt.mpr zh23, zs34_8]; rfl) | (simp_all (decide := true) [b2i, gi_si, ga_si, gz_si, gl_si, gb_si, mPl_si, mGet_si, mNat_si, mSlot_si, mBy_si, mThr, mLook, mThr]; done), by first | rfl | (simp (decide := true) [b2i, gi_si, ga_si, gz_si, gl_si, gb_si, mPl_si, mGet_si, mNat_si, mSlot_si, mBy_si, mThr, mLook, mThr, zh12, zh18, Int32.not_le.mp zh18, zh23, Int32.not_lt.mpr zh23, zs34_8]; done) | (simp (decide := true) [b2i, gi_si, ga_si, gz_si, gl_si, gb_si, mPl_si, mGet_si, mNat_si, mSlot_si, mBy_si, mThr, mLook, mThr, zh12, zh18, Int32.not_le.mp zh18, zh23, Int32.not_lt.mpr zh23, zs34_8]; rfl) | (simp_all (decide := true) [b2i, gi_si, ga_si, gz_si, gl_si, gb_si, mPl_si, mGet_si, mNat_si, mSlot_si, mBy_si, mThr, mLook, mThr]; done)⟩
        by_cases zs34_9 : xw = 9
        · refine V_tab C dX8_look_34 117 (Or.inl (by rw [zs34_9]; exact ⟨by decide, by decide, _, rfl, by decide⟩)) ?_
          refine V_aload_n C dX8_look_117 rfl 0 rfl ?_
          refine V_get (v := .int (gi u 24)) C dX8_look_118 hi8 0 rfl rfl 24 (by decide) (List.mem_of_getElem? (i := 7) rfl) rfl rfl ?_
          exact E (gi u 24) (si u 0 (mThr (mOut xw 0 11) false)) _ _ dX8_look_121 rfl ⟨by first | rfl | (simp (decide := true) [b2i, gi_si, ga_si, gz_si, gl_si, gb_si, mPl_si, mGet_si, mNat_si, mSlot_si, mBy_si, mThr, mLook, mThr, zh12, zh18, Int32.not_le.mp zh18, zh23, Int32.not_lt.mpr zh23, zs34_9]; done) | (simp (decide := true) [b2i, gi_si, ga_si, gz_si, gl_si, gb_si, mPl_si, mGet_si, mNat_si, mSlot_si, mBy_si, mThr, mLook, mThr, zh12, zh18, Int32.not_le.mp zh18, zh23, Int32.not_lt.mpr zh23, zs34_9]; rfl) | (simp_all (decide := true) [b2i, gi_si, ga_si, gz_si, gl_si, gb_si, mPl_si, mGet_si, mNat_si, mSlot_si, mBy_si, mThr, mLook, mThr]; done), by first | rfl | (simp (decide := true) [b2i, gi_si, ga_si, gz_si, gl_si, gb_si, mPl_si, mGet_si, mNat_si, mSlot_si, mBy_si, mThr, mLook, mThr, zh12, zh18, Int32.not_le.mp zh18, zh23, Int32.not_lt.mpr zh23, zs34_9]; done) | (simp (decide := true) [b2i, gi_si, ga_si, gz_si, gl_si, gb_si, mPl_si, mGet_si, mNat_si, mSlot_si, mBy_si, mThr, mLook, mThr, zh12, zh18, Int32.not_le.mp zh18, zh23, Int32.not_lt.mpr zh23, zs34_9]; rfl) | (simp_all (decide := true) [b2i, gi_si, ga_si, gz_si, gl_si, gb_si, mPl_si, mGet_si, mNat_si, mSlot_si, mBy_si, mThr, mLook, mThr]; done)⟩
        by_cases zs34_10 : xw = 10
        · refine V_tab C dX8_look_34 122 (Or.inl (by rw [zs34_10]; exact ⟨by decide, by decide, _, rfl, by decide⟩)) ?_
          refine V_aload_n C dX8_look_122 rfl 0 rfl ?_
          refine V_get (v := .ref (h 26)) C dX8_look_123 hi8 0 rfl rfl 25 (by decide) (List.mem_of_getElem? (i := 1) rfl) rfl rfl ?_
          refine V_iconst (v := 0) C dX8_look_126 (by decide) ?_
          refine V_ialdn (v := (ga u 25 0)) C dX8_look_127 13 0 rfl rfl (0) (by decide) (by unfold vp_in; decide) (by first | rfl | (simp (disch := omega) only [ga_sa_ne, ga_sa_eq, ga_si, ga_sb, ga_sz, ga_sl])) ?_
          exact E (ga u 25 0) (si u 0 (mThr (mOut xw 0 11) false)) _ _ dX8_look_128 rfl ⟨by first | rfl | (simp (decide := true) [b2i, gi_si, ga_si, gz_si, gl_si, gb_si, mPl_si, mGet_si, mNat_si, mSlot_si, mBy_si, mThr, mLook, mThr, zh12, zh18, Int32.not_le.mp zh18, zh23, Int32.not_lt.mpr zh23, zs34_10]; done) | (simp (decide := true) [b2i, gi_si, ga_si, gz_si, gl_si, gb_si, mPl_si, mGet_si, mNat_si, mSlot_si, mBy_si, mThr, mLook, mThr, zh12, zh18, Int32.not_le.mp zh18, zh23, Int32.not_lt.mpr zh23, zs34_10]; rfl) | (simp_all (decide := true) [b2i, gi_si, ga_si, gz_si, gl_si, gb_si, mPl_si, mGet_si, mNat_si, mSlot_si, mBy_si, mThr, mLook, mThr]; done), by first | rfl | (simp (decide := true) [b2i, gi_si, ga_si, gz_si, gl_si, gb_si, mPl_si, mGet_si, mNat_si, mSlot_si, mBy_si, mThr, mLook, mThr, zh12, zh18, Int32.not_le.mp zh18, zh23, Int32.not_lt.mpr zh23, zs34_10]; done) | (simp (decide := true) [b2i, gi_si, ga_si, gz_si, gl_si, gb_si, mPl_si, mGet_si, mNat_si, mSlot_si, mBy_si, mThr, mLook, mThr, zh12, zh18, Int32.not_le.mp zh18, zh23, Int32.not_lt.mpr zh23, zs34_10]; rfl) | (simp_all (decide := true) [b2i, gi_si, ga_si, gz_si, gl_si, gb_si, mPl_si, mGet_si, mNat_si, mSlot_si, mBy_si, mThr, mLook, mThr]; done)⟩
        refine V_tab C dX8_look_34 129 (Or.inr ⟨by have q_0 := i32ne (c := 0) 0 (by decide) zs34_0; have q_1 := i32ne (c := 1) 1 (by decide) zs34_1; have q_2 := i32ne (c := 2) 2 (by decide) zs34_2; have q_3 := i32ne (c := 3) 3 (by decide) zs34_3; have q_4 := i32ne (c := 4) 4 (by decide) zs34_4; have q_5 := i32ne (c := 5) 5 (by decide) zs34_5; have q_6 := i32ne (c := 6) 6 (by decide) zs34_6; have q_7 := i32ne (c := 7) 7 (by decide) zs34_7; have q_8 := i32ne (c := 8) 8 (by decide) zs34_8; have q_9 := i32ne (c := 9) 9 (by decide) zs34_9; have q_10 := i32ne (c := 10) 10 (by decide) zs34_10; omega, by decide⟩) ?_
        refine V_aload_n C dX8_look_129 rfl 0 rfl ?_
        refine V_get (v := .int (gi u 21)) C dX8_look_130 hi8 0 rfl rfl 21 (by decide) (List.mem_of_getElem? (i := 8) rfl) rfl rfl ?_
        exact E (gi u 21) (si u 0 (mThr (mOut xw 0 11) false)) _ _ dX8_look_133 rfl ⟨by first | rfl | (simp (decide := true) [b2i, gi_si, ga_si, gz_si, gl_si, gb_si, mPl_si, mGet_si, mNat_si, mSlot_si, mBy_si, mThr, mLook, mThr, zh12, zh18, Int32.not_le.mp zh18, zh23, Int32.not_lt.mpr zh23, zs34_0, zs34_1, zs34_2, zs34_3, zs34_4, zs34_5, zs34_6, zs34_7, zs34_8, zs34_9, zs34_10]; done) | (simp (decide := true) [b2i, gi_si, ga_si, gz_si, gl_si, gb_si, mPl_si, mGet_si, mNat_si, mSlot_si, mBy_si, mThr, mLook, mThr, zh12, zh18, Int32.not_le.mp zh18, zh23, Int32.not_lt.mpr zh23, zs34_0, zs34_1, zs34_2, zs34_3, zs34_4, zs34_5, zs34_6, zs34_7, zs34_8, zs34_9, zs34_10]; rfl) | (simp_all (decide := true) [b2i, gi_si, ga_si, gz_si, gl_si, gb_si, mPl_si, mGet_si, mNat_si, mSlot_si, mBy_si, mThr, mLook, mThr]; done), by first | rfl | (simp (decide := true) [b2i, gi_si, ga_si, gz_si, gl_si, gb_si, mPl_si, mGet_si, mNat_si, mSlot_si, mBy_si, mThr, mLook, mThr, zh12, zh18, Int32.not_le.mp zh18, zh23, Int32.not_lt.mpr zh23, zs34_0, zs34_1, zs34_2, zs34_3, zs34_4, zs34_5, zs34_6, zs34_7, zs34_8, zs34_9, zs34_10]; done) | (simp (decide := true) [b2i, gi_si, ga_si, gz_si, gl_si, gb_si, mPl_si, mGet_si, mNat_si, mSlot_si, mBy_si, mThr, mLook, mThr, zh12, zh18, Int32.not_le.mp zh18, zh23, Int32.not_lt.mpr zh23, zs34_0, zs34_1, zs34_2, zs34_3, zs34_4, zs34_5, zs34_6, zs34_7, zs34_8, zs34_9, zs34_10]; rfl) | (simp_all (decide := true) [b2i, gi_si, ga_si, gz_si, gl_si, gb_si, mPl_si, mGet_si, mNat_si, mSlot_si, mBy_si, mThr, mLook, mThr]; done)⟩
      · refine V_aload_n C dX8_look_26 rfl 0 rfl ?_
        refine V_get (v := .ref (h 26)) C dX8_look_27 hi8 0 rfl rfl 25 (by decide) (List.mem_of_getElem? (i := 1) rfl) rfl rfl ?_
        refine V_iload_n C dX8_look_30 rfl 1 rfl ?_
        refine V_ialdn (v := (ga u 25 (xw.toNatClampNeg))) C dX8_look_31 13 0 rfl rfl (xw.toNatClampNeg) rfl (mOut_in 252 zh12 (by decide) (by decide)) (by first | rfl | (simp (disch := omega) only [ga_sa_ne, ga_sa_eq, ga_si, ga_sb, ga_sz, ga_sl])) ?_
        exact E (ga u 25 (xw.toNatClampNeg)) (si u 0 (mThr (mOut xw 0 11) false)) _ _ dX8_look_32 rfl ⟨by first | rfl | (simp (decide := true) [b2i, gi_si, ga_si, gz_si, gl_si, gb_si, mPl_si, mGet_si, mNat_si, mSlot_si, mBy_si, mThr, mLook, mThr, zh12, zh18, Int32.not_le.mp zh18, zh23, Int32.not_le.mp zh23]; done) | (simp (decide := true) [b2i, gi_si, ga_si, gz_si, gl_si, gb_si, mPl_si, mGet_si, mNat_si, mSlot_si, mBy_si, mThr, mLook, mThr, zh12, zh18, Int32.not_le.mp zh18, zh23, Int32.not_le.mp zh23]; rfl) | (simp_all (decide := true) [b2i, gi_si, ga_si, gz_si, gl_si, gb_si, mPl_si, mGet_si, mNat_si, mSlot_si, mBy_si, mThr, mLook, mThr]; done), by first | rfl | (simp (decide := true) [b2i, gi_si, ga_si, gz_si, gl_si, gb_si, mPl_si, mGet_si, mNat_si, mSlot_si, mBy_si, mThr, mLook, mThr, zh12, zh18, Int32.not_le.mp zh18, zh23, Int32.not_le.mp zh23]; done) | (simp (decide := true) [b2i, gi_si, ga_si, gz_si, gl_si, gb_si, mPl_si, mGet_si, mNat_si, mSlot_si, mBy_si, mThr, mLook, mThr, zh12, zh18, Int32.not_le.mp zh18, zh23, Int32.not_le.mp zh23]; rfl) | (simp_all (decide := true) [b2i, gi_si, ga_si, gz_si, gl_si, gb_si, mPl_si, mGet_si, mNat_si, mSlot_si, mBy_si, mThr, mLook, mThr]; done)⟩
  · refine V_iconst (v := 0) C dX8_look_15 (by decide) ?_
    exact E 0 (si u 0 (mThr (mOut xw 0 11) false)) _ _ dX8_look_16 rfl ⟨by first | rfl | (simp (decide := true) [b2i, gi_si, ga_si, gz_si, gl_si, gb_si, mPl_si, mGet_si, mNat_si, mSlot_si, mBy_si, mThr, mLook, mThr, zh12]; done) | (simp (decide := true) [b2i, gi_si, ga_si, gz_si, gl_si, gb_si, mPl_si, mGet_si, mNat_si, mSlot_si, mBy_si, mThr, mLook, mThr, zh12]; rfl) | (simp_all (decide := true) [b2i, gi_si, ga_si, gz_si, gl_si, gb_si, mPl_si, mGet_si, mNat_si, mSlot_si, mBy_si, mThr, mLook, mThr]; done), by first | rfl | (simp (decide := true) [b2i, gi_si, ga_si, gz_si, gl_si, gb_si, mPl_si, mGet_si, mNat_si, mSlot_si, mBy_si, mThr, mLook, mThr, zh12]; done) | (simp (decide := true) [b2i, gi_si, ga_si, gz_si, gl_si, gb_si, mPl_si, mGet_si, mNat_si, mSlot_si, mBy_si, mThr, mLook, mThr, zh12]; rfl) | (simp_all (decide := true) [b2i, gi_si, ga_si, gz_si, gl_si, gb_si, mPl_si, mGet_si, mNat_si, mSlot_si, mBy_si, mThr, mLook, mThr]; done)⟩

