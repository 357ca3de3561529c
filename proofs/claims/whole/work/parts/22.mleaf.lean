/-- where a stacked register lies in the row -/
def mPl (u : MS) (r : Int32) : Int32 := ga u 25 0 + (if ga u 25 3 ≤ r - 8 then r - 8 else (r - 8 + ga u 25 4) - (r - 8 + ga u 25 4) / ga u 25 3 * ga u 25 3)
def mDv (u : MS) (r : Int32) : Prop := ¬ ga u 25 3 ≤ r - 8 → ¬ ga u 25 3 = 0
/-- a register that may be used: a static one, or one whose place is in the row -/
def mOk (u : MS) (r : Int32) : Prop := (8 ≤ r → mDv u r ∧ vp_in (mPl u r) 120) ∧ (¬ 8 ≤ r → vp_in r 8)
def mGet (u : MS) (r : Int32) : Int64 := if 8 ≤ r then gl u 15 (mPl u r).toNatClampNeg else gl u 13 r.toNatClampNeg
def mNat (u : MS) (r : Int32) : Bool := if 8 ≤ r then gz u 16 (mPl u r).toNatClampNeg else gz u 14 r.toNatClampNeg
def mPut (u : MS) (r : Int32) (v : Int64) (b : Bool) : MS := if 8 ≤ r then sz (sl u 15 (mPl u r).toNatClampNeg v) 16 (mPl u r).toNatClampNeg b else sz (sl u 13 r.toNatClampNeg v) 14 r.toNatClampNeg b
def mSlot (u : MS) (p : Int32) : Int32 := if 8 ≤ p then 8 + ((p + ga u 25 4) - (p + ga u 25 4) / 8 * 8) else p
def mBy (u : MS) (r : Int32) : Bool := decide (8 ≤ r ∧ ga u 25 1 ≤ r - 8)
theorem mPl_si (u : MS) (k : Nat) (v r : Int32) : mPl (si u k v) r = mPl u r := rfl
theorem mGet_si (u : MS) (k : Nat) (v r : Int32) : mGet (si u k v) r = mGet u r := rfl
theorem mNat_si (u : MS) (k : Nat) (v r : Int32) : mNat (si u k v) r = mNat u r := rfl
theorem mSlot_si (u : MS) (k : Nat) (v r : Int32) : mSlot (si u k v) r = mSlot u r := rfl
theorem mBy_si (u : MS) (k : Nat) (v r : Int32) : mBy (si u k v) r = mBy u r := rfl
def mThr (a b : Bool) : Int32 := if a = true then 1 else if b = true then 2 else 0
set_option maxHeartbeats 4000000 in
set_option maxRecDepth 100000 in
theorem c_X8_thrown (l : Launch) (D : va_G) (K : Nat → ClassId) (h : Nat → Nat) (u : MS)   : vMi l D vwCl (tys0 K) yX8_thrown wsX8_thrown ({ frames := 0, cells := 0, slots := 0, locals := 0 } : Room) [.ref (h 0)] (mw K h u) (mw K h) (fun r9 u9 => r9 = gi u 0 ∧ u9 = u) := by
  refine vMi_of (cc := cX8_thrown) (nL := 1) (rt := .int) (by decide) rfl (Nat.le_of_ble_eq_true rfl) ?_
  intro X C E
  show V X 0 0 (mw K h u) 0 [(0, .ref (h 0))] []
  have hi8 : ∀ w ∈ wsX80, w ∈ wsX8_thrown := fun _ h => List.mem_cons_of_mem _ (List.mem_append_right _ h)
  refine V_aload_n C dX8_thrown_0 rfl 0 rfl ?_
  refine V_get (v := .int (gi u 0)) C dX8_thrown_1 hi8 0 rfl rfl 0 (by decide) (List.mem_of_getElem? (i := 1) rfl) rfl rfl ?_
  exact E (gi u 0) u _ _ dX8_thrown_4 rfl ⟨by rfl, by rfl⟩

set_option maxHeartbeats 4000000 in
set_option maxRecDepth 100000 in
theorem c_X8_throwing (l : Launch) (D : va_G) (K : Nat → ClassId) (h : Nat → Nat) (u : MS) (xa : Bool) (xb : Bool)  : vMi l D vwCl (tys0 K) yX8_throwing wsX8_throwing ({ frames := 0, cells := 0, slots := 0, locals := 0 } : Room) [.ref (h 0), .int (b2i xa), .int (b2i xb)] (mw K h u) (mw K h) (fun r9 u9 => r9 = b2i (xa || xb) ∧ u9 = si u 0 (mThr xa xb)) := by
  refine vMi_of (cc := cX8_throwing) (nL := 3) (rt := .boolean) (by decide) rfl (Nat.le_of_ble_eq_true rfl) ?_
  intro X C E
  show V X 0 0 (mw K h u) 0 [(0, .ref (h 0)), (1, .int (b2i xa)), (2, .int (b2i xb))] []
  have hi8 : ∀ w ∈ wsX80, w ∈ wsX8_throwing := fun _ h => List.mem_cons_of_mem _ (List.mem_append_right _ h)
  refine V_aload_n C dX8_throwing_0 rfl 0 rfl ?_
  refine V_iload_n C dX8_throwing_1 rfl 1 rfl ?_
  refine V_ifz_eq (tgt := 9) C dX8_throwing_2 (by decide) (fun zh2 => ?_) (fun zh2 => ?_)
  · refine V_iload_n C dX8_throwing_9 rfl 2 rfl ?_
    refine V_ifz_eq (tgt := 17) C dX8_throwing_10 (by decide) (fun zh10 => ?_) (fun zh10 => ?_)
    · refine V_iconst (v := 0) C dX8_throwing_17 (by decide) ?_
      refine V_put (ws' := (mw K h (si u 0 0))) C dX8_throwing_18 hi8 tyX8_ok nmX8 0 rfl rfl 0 (by decide) (List.mem_of_getElem? (i := 1) rfl) rfl rfl rfl rfl rfl (Nat.le_of_ble_eq_true rfl) (ms_0 K h u 0) ?_
      refine V_aload_n C dX8_throwing_21 rfl 0 rfl ?_
      refine V_get (v := .int 0) C dX8_throwing_22 hi8 0 rfl rfl 0 (by decide) (List.mem_of_getElem? (i := 1) rfl) rfl rfl ?_
      refine V_if_le (tgt := 32) C dX8_throwing_25 (by decide) (fun zh25 => ?_) (fun zh25 => ?_)
      · refine V_iconst (v := 0) C dX8_throwing_32 (by decide) ?_
        exact E 0 (si u 0 0) _ _ dX8_throwing_33 rfl ⟨by first | rfl | (simp (decide := true) [b2i, gi_si, mThr, zh2, zh10]; done) | (simp (decide := true) [b2i, gi_si, mThr, zh2, zh10]; rfl) | (simp_all (decide := true) [b2i, gi_si, mThr]; done), by first | rfl | (simp (decide := true) [b2i, gi_si, mThr, zh2, zh10]; done) | (simp (decide := true) [b2i, gi_si, mThr, zh2, zh10]; rfl) | (simp_all (decide := true) [b2i, gi_si, mThr]; done)⟩
      · exact absurd zh25 (by decide)
    · refine V_iconst (v := 2) C dX8_throwing_13 (by decide) ?_
      refine V_goto (tgt := 18) C dX8_throwing_14 (by decide) ?_
      refine V_put (ws' := (mw K h (si u 0 2))) C dX8_throwing_18 hi8 tyX8_ok nmX8 0 rfl rfl 0 (by decide) (List.mem_of_getElem? (i := 1) rfl) rfl rfl rfl rfl rfl (Nat.le_of_ble_eq_true rfl) (ms_0 K h u 2) ?_
      refine V_aload_n C dX8_throwing_21 rfl 0 rfl ?_
      refine V_get (v := .int 2) C dX8_throwing_22 hi8 0 rfl rfl 0 (by decide) (List.mem_of_getElem? (i := 1) rfl) rfl rfl ?_
      refine V_if_le (tgt := 32) C dX8_throwing_25 (by decide) (fun zh25 => ?_) (fun zh25 => ?_)
      · exact absurd zh25 (by decide)
      · refine V_iconst (v := 1) C dX8_throwing_28 (by decide) ?_
        refine V_goto (tgt := 33) C dX8_throwing_29 (by decide) ?_
        exact E 1 (si u 0 2) _ _ dX8_throwing_33 rfl ⟨by first | rfl | (simp (decide := true) [b2i, gi_si, mThr, zh2, zh10]; done) | (simp (decide := true) [b2i, gi_si, mThr, zh2, zh10]; rfl) | (simp_all (decide := true) [b2i, gi_si, mThr]; done), by first | rfl | (simp (decide := true) [b2i, gi_si, mThr, zh2, zh10]; done) | (simp (decide := true) [b2i, gi_si, mThr, zh2, zh10]; rfl) | (simp_all (decide := true) [b2i, gi_si, mThr]; done)⟩
  · refine V_iconst (v := 1) C dX8_throwing_5 (by decide) ?_
    refine V_goto (tgt := 18) C dX8_throwing_6 (by decide) ?_
    refine V_put (ws' := (mw K h (si u 0 1))) C dX8_throwing_18 hi8 tyX8_ok nmX8 0 rfl rfl 0 (by decide) (List.mem_of_getElem? (i := 1) rfl) rfl rfl rfl rfl rfl (Nat.le_of_ble_eq_true rfl) (ms_0 K h u 1) ?_
    refine V_aload_n C dX8_throwing_21 rfl 0 rfl ?_
    refine V_get (v := .int 1) C dX8_throwing_22 hi8 0 rfl rfl 0 (by decide) (List.mem_of_getElem? (i := 1) rfl) rfl rfl ?_
    refine V_if_le (tgt := 32) C dX8_throwing_25 (by decide) (fun zh25 => ?_) (fun zh25 => ?_)
    · exact absurd zh25 (by decide)
    · refine V_iconst (v := 1) C dX8_throwing_28 (by decide) ?_
      refine V_goto (tgt := 33) C dX8_throwing_29 (by decide) ?_
      exact E 1 (si u 0 1) _ _ dX8_throwing_33 rfl ⟨by first | rfl | (simp (decide := true) [b2i, gi_si, mThr, zh2]; done) | (simp (decide := true) [b2i, gi_si, mThr, zh2]; rfl) | (simp_all (decide := true) [b2i, gi_si, mThr]; done), by first | rfl | (simp (decide := true) [b2i, gi_si, mThr, zh2]; done) | (simp (decide := true) [b2i, gi_si, mThr, zh2]; rfl) | (simp_all (decide := true) [b2i, gi_si, mThr]; done)⟩

set_option maxHeartbeats 4000000 in
set_option maxRecDepth 100000 in
theorem c_X8_place (l : Launch) (D : va_G) (K : Nat → ClassId) (h : Nat → Nat) (u : MS) (xr : Int32) (hp : mDv u xr) : vMi l D vwCl (tys0 K) yX8_place wsX8_place ({ frames := 0, cells := 0, slots := 0, locals := 0 } : Room) [.ref (h 0), .int xr] (mw K h u) (mw K h) (fun r9 u9 => r9 = (mPl u xr) ∧ u9 = u) := by
  refine vMi_of (cc := cX8_place) (nL := 3) (rt := .int) (by decide) rfl (Nat.le_of_ble_eq_true rfl) ?_
  intro X C E
  show V X 0 0 (mw K h u) 0 [(0, .ref (h 0)), (1, .int xr)] []
  have hi8 : ∀ w ∈ wsX80, w ∈ wsX8_place := fun _ h => List.mem_cons_of_mem _ (List.mem_append_right _ h)
  refine V_iload_n C dX8_place_0 rfl 1 rfl ?_
  refine V_bipush (v := 8) C dX8_place_1 (by decide) ?_
  refine V_isub C dX8_place_3 ?_
  refine V_istore_n (lv' := [(2, .int (xr - 8)), (0, .ref (h 0)), (1, .int xr)]) C dX8_place_4 rfl (by decide) rfl ?_
  refine V_iload_n C dX8_place_5 rfl 0 rfl ?_
  refine V_aload_n C dX8_place_6 rfl 1 rfl ?_
  refine V_get (v := .ref (h 26)) C dX8_place_7 hi8 0 rfl rfl 25 (by decide) (List.mem_of_getElem? (i := 1) rfl) rfl rfl ?_
  refine V_iconst (v := 3) C dX8_place_10 (by decide) ?_
  refine V_ialdn (v := (ga u 25 3)) C dX8_place_11 13 0 rfl rfl (3) (by decide) (by unfold vp_in; decide) rfl ?_
  refine V_icmp_ge (tgt := 31) C dX8_place_12 (by decide) (fun zh12 => ?_) (fun zh12 => ?_)
  · refine V_aload_n C dX8_place_31 rfl 1 rfl ?_
    refine V_get (v := .ref (h 26)) C dX8_place_32 hi8 0 rfl rfl 25 (by decide) (List.mem_of_getElem? (i := 1) rfl) rfl rfl ?_
    refine V_iconst (v := 0) C dX8_place_35 (by decide) ?_
    refine V_ialdn (v := (ga u 25 0)) C dX8_place_36 13 0 rfl rfl (0) (by decide) (by unfold vp_in; decide) rfl ?_
    refine V_iload_n C dX8_place_37 rfl 0 rfl ?_
    refine V_iadd C dX8_place_38 ?_
    exact E ((ga u 25 0) + (xr - 8)) u _ _ dX8_place_39 rfl ⟨by first | rfl | (simp (decide := true) [b2i, gi_si, mPl, zh12, Int32.not_lt.mpr zh12]; done) | (simp (decide := true) [b2i, gi_si, mPl, zh12, Int32.not_lt.mpr zh12]; rfl) | (simp_all (decide := true) [b2i, gi_si, mPl]; done), by first | rfl | (simp (decide := true) [b2i, gi_si, mPl, zh12, Int32.not_lt.mpr zh12]; done) | (simp (decide := true) [b2i, gi_si, mPl, zh12, Int32.not_lt.mpr zh12]; rfl) | (simp_all (decide := true) [b2i, gi_si, mPl]; done)⟩
  · refine V_iload_n C dX8_place_15 rfl 0 rfl ?_
    refine V_aload_n C dX8_place_16 rfl 1 rfl ?_
    refine V_get (v := .ref (h 26)) C dX8_place_17 hi8 0 rfl rfl 25 (by decide) (List.mem_of_getElem? (i := 1) rfl) rfl rfl ?_
    refine V_iconst (v := 4) C dX8_place_20 (by decide) ?_
    refine V_ialdn (v := (ga u 25 4)) C dX8_place_21 13 0 rfl rfl (4) (by decide) (by unfold vp_in; decide) rfl ?_
    refine V_iadd C dX8_place_22 ?_
    refine V_aload_n C dX8_place_23 rfl 1 rfl ?_
    refine V_get (v := .ref (h 26)) C dX8_place_24 hi8 0 rfl rfl 25 (by decide) (List.mem_of_getElem? (i := 1) rfl) rfl rfl ?_
    refine V_iconst (v := 3) C dX8_place_27 (by decide) ?_
    refine V_ialdn (v := (ga u 25 3)) C dX8_place_28 13 0 rfl rfl (3) (by decide) (by unfold vp_in; decide) rfl ?_
    refine V_irem C dX8_place_29 (hp zh12) ?_
    refine V_istore_n (lv' := [(2, .int (((xr - 8) + (ga u 25 4)) - ((xr - 8) + (ga u 25 4)) / (ga u 25 3) * (ga u 25 3))), (0, .ref (h 0)), (1, .int xr)]) C dX8_place_30 rfl (by decide) rfl ?_
    refine V_aload_n C dX8_place_31 rfl 1 rfl ?_
    refine V_get (v := .ref (h 26)) C dX8_place_32 hi8 0 rfl rfl 25 (by decide) (List.mem_of_getElem? (i := 1) rfl) rfl rfl ?_
    refine V_iconst (v := 0) C dX8_place_35 (by decide) ?_
    refine V_ialdn (v := (ga u 25 0)) C dX8_place_36 13 0 rfl rfl (0) (by decide) (by unfold vp_in; decide) rfl ?_
    refine V_iload_n C dX8_place_37 rfl 0 rfl ?_
    refine V_iadd C dX8_place_38 ?_
    exact E ((ga u 25 0) + (((xr - 8) + (ga u 25 4)) - ((xr - 8) + (ga u 25 4)) / (ga u 25 3) * (ga u 25 3))) u _ _ dX8_place_39 rfl ⟨by first | rfl | (simp (decide := true) [b2i, gi_si, mPl, zh12, Int32.not_le.mp zh12]; done) | (simp (decide := true) [b2i, gi_si, mPl, zh12, Int32.not_le.mp zh12]; rfl) | (simp_all (decide := true) [b2i, gi_si, mPl]; done), by first | rfl | (simp (decide := true) [b2i, gi_si, mPl, zh12, Int32.not_le.mp zh12]; done) | (simp (decide := true) [b2i, gi_si, mPl, zh12, Int32.not_le.mp zh12]; rfl) | (simp_all (decide := true) [b2i, gi_si, mPl]; done)⟩

set_option maxHeartbeats 4000000 in
set_option maxRecDepth 100000 in
theorem c_X8_get (l : Launch) (D : va_G) (K : Nat → ClassId) (h : Nat → Nat) (u : MS) (xr : Int32) (hp : mOk u xr) : vMl l D vwCl (tys0 K) yX8_get wsX8_get ({ frames := 1, cells := 0, slots := 0, locals := 22 } : Room) [.ref (h 0), .int xr] (mw K h u) (mw K h) (fun r9 u9 => r9 = (mGet u xr) ∧ u9 = u) := by
  refine vMl_of (cc := cX8_get) (nL := 2) (by decide) rfl (Nat.le_of_ble_eq_true rfl) ?_
  intro X C E
  show V X 0 0 (mw K h u) 0 [(0, .ref (h 0)), (1, .int xr)] []
  have hi8 : ∀ w ∈ wsX80, w ∈ wsX8_get := fun _ h => List.mem_cons_of_mem _ (List.mem_append_right _ h)
  refine V_iload_n C dX8_get_0 rfl 1 rfl ?_
  refine V_bipush (v := 8) C dX8_get_1 (by decide) ?_
  refine V_icmp_ge (tgt := 15) C dX8_get_3 (by decide) (fun zh3 => ?_) (fun zh3 => ?_)
  · refine V_aload_n C dX8_get_15 rfl 0 rfl ?_
    refine V_get (v := .ref (h 16)) C dX8_get_16 hi8 0 rfl rfl 15 (by decide) (List.mem_of_getElem? (i := 2) rfl) rfl rfl ?_
    refine V_aload_n C dX8_get_19 rfl 0 rfl ?_
    refine V_iload_n C dX8_get_20 rfl 1 rfl ?_
    refine V_calliV C dX8_get_21 0 rfl rfl (c_X8_place l D K h u xr (hp.1 zh3).1) gX8_get_X8_place rfl 1 rfl (by decide +kernel) (by decide) ⟨Nat.le_of_ble_eq_true rfl, Nat.le_of_ble_eq_true rfl⟩ rfl (Nat.le_of_ble_eq_true rfl) (det2 ?_)
    refine V_laldn (v := (gl u 15 (mPl u xr).toNatClampNeg)) C dX8_get_24 7 1 rfl rfl ((mPl u xr).toNatClampNeg) rfl ((hp.1 zh3).2) rfl ?_
    exact E (gl u 15 (mPl u xr).toNatClampNeg) u _ _ dX8_get_25 ⟨by first | rfl | (simp (decide := true) [b2i, gi_si, mGet, zh3, Int32.not_lt.mpr zh3]; done) | (simp (decide := true) [b2i, gi_si, mGet, zh3, Int32.not_lt.mpr zh3]; rfl) | (simp_all (decide := true) [b2i, gi_si, mGet]; done), by first | rfl | (simp (decide := true) [b2i, gi_si, mGet, zh3, Int32.not_lt.mpr zh3]; done) | (simp (decide := true) [b2i, gi_si, mGet, zh3, Int32.not_lt.mpr zh3]; rfl) | (simp_all (decide := true) [b2i, gi_si, mGet]; done)⟩
  · refine V_aload_n C dX8_get_6 rfl 0 rfl ?_
    refine V_get (v := .ref (h 14)) C dX8_get_7 hi8 0 rfl rfl 13 (by decide) (List.mem_of_getElem? (i := 1) rfl) rfl rfl ?_
    refine V_iload_n C dX8_get_10 rfl 1 rfl ?_
    refine V_laldn (v := (gl u 13 (xr.toNatClampNeg))) C dX8_get_11 5 1 rfl rfl (xr.toNatClampNeg) rfl (hp.2 zh3) rfl ?_
    refine V_goto (tgt := 25) C dX8_get_12 (by decide) ?_
    exact E (gl u 13 (xr.toNatClampNeg)) u _ _ dX8_get_25 ⟨by first | rfl | (simp (decide := true) [b2i, gi_si, mGet, zh3, Int32.not_le.mp zh3]; done) | (simp (decide := true) [b2i, gi_si, mGet, zh3, Int32.not_le.mp zh3]; rfl) | (simp_all (decide := true) [b2i, gi_si, mGet]; done), by first | rfl | (simp (decide := true) [b2i, gi_si, mGet, zh3, Int32.not_le.mp zh3]; done) | (simp (decide := true) [b2i, gi_si, mGet, zh3, Int32.not_le.mp zh3]; rfl) | (simp_all (decide := true) [b2i, gi_si, mGet]; done)⟩

set_option maxHeartbeats 4000000 in
set_option maxRecDepth 100000 in
theorem c_X8_isNat (l : Launch) (D : va_G) (K : Nat → ClassId) (h : Nat → Nat) (u : MS) (xr : Int32) (hp : mOk u xr) : vMi l D vwCl (tys0 K) yX8_isNat wsX8_isNat ({ frames := 1, cells := 0, slots := 0, locals := 22 } : Room) [.ref (h 0), .int xr] (mw K h u) (mw K h) (fun r9 u9 => r9 = (b2i (mNat u xr)) ∧ u9 = u) := by
  refine vMi_of (cc := cX8_isNat) (nL := 2) (rt := .boolean) (by decide) rfl (Nat.le_of_ble_eq_true rfl) ?_
  intro X C E
  show V X 0 0 (mw K h u) 0 [(0, .ref (h 0)), (1, .int xr)] []
  have hi8 : ∀ w ∈ wsX80, w ∈ wsX8_isNat := fun _ h => List.mem_cons_of_mem _ (List.mem_append_right _ h)
  refine V_iload_n C dX8_isNat_0 rfl 1 rfl ?_
  refine V_bipush (v := 8) C dX8_isNat_1 (by decide) ?_
  refine V_icmp_ge (tgt := 15) C dX8_isNat_3 (by decide) (fun zh3 => ?_) (fun zh3 => ?_)
  · refine V_aload_n C dX8_isNat_15 rfl 0 rfl ?_
    refine V_get (v := .ref (h 17)) C dX8_isNat_16 hi8 0 rfl rfl 16 (by decide) (List.mem_of_getElem? (i := 2) rfl) rfl rfl ?_
    refine V_aload_n C dX8_isNat_19 rfl 0 rfl ?_
    refine V_iload_n C dX8_isNat_20 rfl 1 rfl ?_
    refine V_calliV C dX8_isNat_21 0 rfl rfl (c_X8_place l D K h u xr (hp.1 zh3).1) gX8_isNat_X8_place rfl 1 rfl (by decide +kernel) (by decide) ⟨Nat.le_of_ble_eq_true rfl, Nat.le_of_ble_eq_true rfl⟩ rfl (Nat.le_of_ble_eq_true rfl) (det2 ?_)
    refine V_zaldn (v := (b2i (gz u 16 (mPl u xr).toNatClampNeg))) C dX8_isNat_24 8 2 rfl rfl ((mPl u xr).toNatClampNeg) rfl ((hp.1 zh3).2) rfl ?_
    exact E (b2i (gz u 16 (mPl u xr).toNatClampNeg)) u _ _ dX8_isNat_25 (nar_b2i _) ⟨by first | rfl | (simp (decide := true) [b2i, gi_si, mNat, zh3, Int32.not_lt.mpr zh3]; done) | (simp (decide := true) [b2i, gi_si, mNat, zh3, Int32.not_lt.mpr zh3]; rfl) | (simp_all (decide := true) [b2i, gi_si, mNat]; done), by first | rfl | (simp (decide := true) [b2i, gi_si, mNat, zh3, Int32.not_lt.mpr zh3]; done) | (simp (decide := true) [b2i, gi_si, mNat, zh3, Int32.not_lt.mpr zh3]; rfl) | (simp_all (decide := true) [b2i, gi_si, mNat]; done)⟩
  · refine V_aload_n C dX8_isNat_6 rfl 0 rfl ?_
    refine V_get (v := .ref (h 15)) C dX8_isNat_7 hi8 0 rfl rfl 14 (by decide) (List.mem_of_getElem? (i := 1) rfl) rfl rfl ?_
    refine V_iload_n C dX8_isNat_10 rfl 1 rfl ?_
    refine V_zaldn (v := (b2i (gz u 14 (xr.toNatClampNeg)))) C dX8_isNat_11 6 2 rfl rfl (xr.toNatClampNeg) rfl (hp.2 zh3) rfl ?_
    refine V_goto (tgt := 25) C dX8_isNat_12 (by decide) ?_
    exact E (b2i (gz u 14 (xr.toNatClampNeg))) u _ _ dX8_isNat_25 (nar_b2i _) ⟨by first | rfl | (simp (decide := true) [b2i, gi_si, mNat, zh3, Int32.not_le.mp zh3]; done) | (simp (decide := true) [b2i, gi_si, mNat, zh3, Int32.not_le.mp zh3]; rfl) | (simp_all (decide := true) [b2i, gi_si, mNat]; done), by first | rfl | (simp (decide := true) [b2i, gi_si, mNat, zh3, Int32.not_le.mp zh3]; done) | (simp (decide := true) [b2i, gi_si, mNat, zh3, Int32.not_le.mp zh3]; rfl) | (simp_all (decide := true) [b2i, gi_si, mNat]; done)⟩

set_option maxHeartbeats 4000000 in
set_option maxRecDepth 100000 in
theorem c_X8_put (l : Launch) (D : va_G) (K : Nat → ClassId) (h : Nat → Nat) (u : MS) (xr : Int32) (xv : Int64) (xb : Bool) (hp : mOk u xr) : vMv l D vwCl (tys0 K) yX8_put wsX8_put ({ frames := 1, cells := 0, slots := 0, locals := 22 } : Room) [.ref (h 0), .int xr, .long xv, .int (b2i xb)] (mw K h u) (mw K h) (fun u9 => u9 = (mPut u xr xv xb)) := by
  refine vMv_of (cc := cX8_put) (nL := 5) (by decide) rfl (Nat.le_of_ble_eq_true rfl) ?_
  intro X C E
  show V X 0 0 (mw K h u) 0 [(0, .ref (h 0)), (1, .int xr), (2, .long xv), (4, .int (b2i xb))] []
  have hi8 : ∀ w ∈ wsX80, w ∈ wsX8_put := fun _ h => List.mem_cons_of_mem _ (List.mem_append_right _ h)
  refine V_iload_n C dX8_put_0 rfl 1 rfl ?_
  refine V_bipush (v := 8) C dX8_put_1 (by decide) ?_
  refine V_icmp_ge (tgt := 24) C dX8_put_3 (by decide) (fun zh3 => ?_) (fun zh3 => ?_)
  · refine V_aload_n C dX8_put_24 rfl 0 rfl ?_
    refine V_get (v := .ref (h 16)) C dX8_put_25 hi8 0 rfl rfl 15 (by decide) (List.mem_of_getElem? (i := 3) rfl) rfl rfl ?_
    refine V_aload_n C dX8_put_28 rfl 0 rfl ?_
    refine V_iload_n C dX8_put_29 rfl 1 rfl ?_
    refine V_calliV C dX8_put_30 0 rfl rfl (c_X8_place l D K h u xr (hp.1 zh3).1) gX8_put_X8_place rfl 1 rfl (by decide +kernel) (by decide) ⟨Nat.le_of_ble_eq_true rfl, Nat.le_of_ble_eq_true rfl⟩ rfl (Nat.le_of_ble_eq_true rfl) (det2 ?_)
    refine V_lload_n C dX8_put_33 rfl 2 rfl ?_
    refine V_lastn (ws' := (mw K h (sl u 15 ((mPl u xr).toNatClampNeg) xv))) C dX8_put_34 7 1 rfl rfl ((mPl u xr).toNatClampNeg) rfl ((hp.1 zh3).2) (ms_15 K h u ((mPl u xr).toNatClampNeg) xv) ?_
    refine V_aload_n C dX8_put_35 rfl 0 rfl ?_
    refine V_get (v := .ref (h 17)) C dX8_put_36 hi8 0 rfl rfl 16 (by decide) (List.mem_of_getElem? (i := 4) rfl) rfl rfl ?_
    refine V_aload_n C dX8_put_39 rfl 0 rfl ?_
    refine V_iload_n C dX8_put_40 rfl 1 rfl ?_
    refine V_calliV C dX8_put_41 0 rfl rfl (c_X8_place l D K h (sl u 15 ((mPl u xr).toNatClampNeg) xv) xr (hp.1 zh3).1) gX8_put_X8_place rfl 1 rfl (by decide +kernel) (by decide) ⟨Nat.le_of_ble_eq_true rfl, Nat.le_of_ble_eq_true rfl⟩ rfl (Nat.le_of_ble_eq_true rfl) (det2 ?_)
    refine V_iload C dX8_put_44 3 rfl ?_
    refine V_zastn (ws' := (mw K h (sz (sl u 15 ((mPl u xr).toNatClampNeg) xv) 16 ((mPl (sl u 15 ((mPl u xr).toNatClampNeg) xv) xr).toNatClampNeg) xb))) C dX8_put_46 8 2 rfl rfl ((mPl (sl u 15 ((mPl u xr).toNatClampNeg) xv) xr).toNatClampNeg) rfl ((hp.1 zh3).2) (ms_16 K h (sl u 15 ((mPl u xr).toNatClampNeg) xv) ((mPl (sl u 15 ((mPl u xr).toNatClampNeg) xv) xr).toNatClampNeg) xb) ?_
    exact E (sz (sl u 15 ((mPl u xr).toNatClampNeg) xv) 16 ((mPl (sl u 15 ((mPl u xr).toNatClampNeg) xv) xr).toNatClampNeg) xb) _ _ dX8_put_47 (by first | rfl | (simp (decide := true) [b2i, gi_si, mPut, zh3, Int32.not_lt.mpr zh3]; done) | (simp (decide := true) [b2i, gi_si, mPut, zh3, Int32.not_lt.mpr zh3]; rfl) | (simp_all (decide := true) [b2i, gi_si, mPut]; done))
  · refine V_aload_n C dX8_put_6 rfl 0 rfl ?_
    refine V_get (v := .ref (h 14)) C dX8_put_7 hi8 0 rfl rfl 13 (by decide) (List.mem_of_getElem? (i := 1) rfl) rfl rfl ?_
    refine V_iload_n C dX8_put_10 rfl 1 rfl ?_
    refine V_lload_n C dX8_put_11 rfl 2 rfl ?_
    refine V_lastn (ws' := (mw K h (sl u 13 (xr.toNatClampNeg) xv))) C dX8_put_12 5 1 rfl rfl (xr.toNatClampNeg) rfl (hp.2 zh3) (ms_13 K h u (xr.toNatClampNeg) xv) ?_
    refine V_aload_n C dX8_put_13 rfl 0 rfl ?_
    refine V_get (v := .ref (h 15)) C dX8_put_14 hi8 0 rfl rfl 14 (by decide) (List.mem_of_getElem? (i := 2) rfl) rfl rfl ?_
    refine V_iload_n C dX8_put_17 rfl 1 rfl ?_
    refine V_iload C dX8_put_18 3 rfl ?_
    refine V_zastn (ws' := (mw K h (sz (sl u 13 (xr.toNatClampNeg) xv) 14 (xr.toNatClampNeg) xb))) C dX8_put_20 6 2 rfl rfl (xr.toNatClampNeg) rfl (hp.2 zh3) (ms_14 K h (sl u 13 (xr.toNatClampNeg) xv) (xr.toNatClampNeg) xb) ?_
    refine V_goto (tgt := 47) C dX8_put_21 (by decide) ?_
    exact E (sz (sl u 13 (xr.toNatClampNeg) xv) 14 (xr.toNatClampNeg) xb) _ _ dX8_put_47 (by first | rfl | (simp (decide := true) [b2i, gi_si, mPut, zh3, Int32.not_le.mp zh3]; done) | (simp (decide := true) [b2i, gi_si, mPut, zh3, Int32.not_le.mp zh3]; rfl) | (simp_all (decide := true) [b2i, gi_si, mPut]; done))

set_option maxHeartbeats 4000000 in
set_option maxRecDepth 100000 in
theorem c_X8_slot (l : Launch) (D : va_G) (K : Nat → ClassId) (h : Nat → Nat) (u : MS) (xp : Int32)  : vMi l D vwCl (tys0 K) yX8_slot wsX8_slot ({ frames := 0, cells := 0, slots := 0, locals := 0 } : Room) [.ref (h 0), .int xp] (mw K h u) (mw K h) (fun r9 u9 => r9 = (mSlot u xp) ∧ u9 = u) := by
  refine vMi_of (cc := cX8_slot) (nL := 2) (rt := .int) (by decide) rfl (Nat.le_of_ble_eq_true rfl) ?_
  intro X C E
  show V X 0 0 (mw K h u) 0 [(0, .ref (h 0)), (1, .int xp)] []
  have hi8 : ∀ w ∈ wsX80, w ∈ wsX8_slot := fun _ h => List.mem_cons_of_mem _ (List.mem_append_right _ h)
  refine V_iload_n C dX8_slot_0 rfl 1 rfl ?_
  refine V_bipush (v := 8) C dX8_slot_1 (by decide) ?_
  refine V_icmp_ge (tgt := 10) C dX8_slot_3 (by decide) (fun zh3 => ?_) (fun zh3 => ?_)
  · refine V_bipush (v := 8) C dX8_slot_10 (by decide) ?_
    refine V_iload_n C dX8_slot_12 rfl 1 rfl ?_
    refine V_aload_n C dX8_slot_13 rfl 0 rfl ?_
    refine V_get (v := .ref (h 26)) C dX8_slot_14 hi8 0 rfl rfl 25 (by decide) (List.mem_of_getElem? (i := 1) rfl) rfl rfl ?_
    refine V_iconst (v := 4) C dX8_slot_17 (by decide) ?_
    refine V_ialdn (v := (ga u 25 4)) C dX8_slot_18 13 0 rfl rfl (4) (by decide) (by unfold vp_in; decide) rfl ?_
    refine V_iadd C dX8_slot_19 ?_
    refine V_bipush (v := 8) C dX8_slot_20 (by decide) ?_
    refine V_irem C dX8_slot_22 (by decide) ?_
    refine V_iadd C dX8_slot_23 ?_
    exact E (8 + ((xp + (ga u 25 4)) - (xp + (ga u 25 4)) / 8 * 8)) u _ _ dX8_slot_24 rfl ⟨by first | rfl | (simp (decide := true) [b2i, gi_si, mSlot, zh3, Int32.not_lt.mpr zh3]; done) | (simp (decide := true) [b2i, gi_si, mSlot, zh3, Int32.not_lt.mpr zh3]; rfl) | (simp_all (decide := true) [b2i, gi_si, mSlot]; done), by first | rfl | (simp (decide := true) [b2i, gi_si, mSlot, zh3, Int32.not_lt.mpr zh3]; done) | (simp (decide := true) [b2i, gi_si, mSlot, zh3, Int32.not_lt.mpr zh3]; rfl) | (simp_all (decide := true) [b2i, gi_si, mSlot]; done)⟩
  · refine V_iload_n C dX8_slot_6 rfl 1 rfl ?_
    refine V_goto (tgt := 24) C dX8_slot_7 (by decide) ?_
    exact E xp u _ _ dX8_slot_24 rfl ⟨by first | rfl | (simp (decide := true) [b2i, gi_si, mSlot, zh3, Int32.not_le.mp zh3]; done) | (simp (decide := true) [b2i, gi_si, mSlot, zh3, Int32.not_le.mp zh3]; rfl) | (simp_all (decide := true) [b2i, gi_si, mSlot]; done), by first | rfl | (simp (decide := true) [b2i, gi_si, mSlot, zh3, Int32.not_le.mp zh3]; done) | (simp (decide := true) [b2i, gi_si, mSlot, zh3, Int32.not_le.mp zh3]; rfl) | (simp_all (decide := true) [b2i, gi_si, mSlot]; done)⟩

set_option maxHeartbeats 4000000 in
set_option maxRecDepth 100000 in
theorem c_X8_isBeyond (l : Launch) (D : va_G) (K : Nat → ClassId) (h : Nat → Nat) (u : MS) (xr : Int32)  : vMi l D vwCl (tys0 K) yX8_isBeyond wsX8_isBeyond ({ frames := 0, cells := 0, slots := 0, locals := 0 } : Room) [.ref (h 0), .int xr] (mw K h u) (mw K h) (fun r9 u9 => r9 = (b2i (mBy u xr)) ∧ u9 = u) := by
  refine vMi_of (cc := cX8_isBeyond) (nL := 2) (rt := .boolean) (by decide) rfl (Nat.le_of_ble_eq_true rfl) ?_
  intro X C E
  show V X 0 0 (mw K h u) 0 [(0, .ref (h 0)), (1, .int xr)] []
  have hi8 : ∀ w ∈ wsX80, w ∈ wsX8_isBeyond := fun _ h => List.mem_cons_of_mem _ (List.mem_append_right _ h)
  refine V_iload_n C dX8_isBeyond_0 rfl 1 rfl ?_
  refine V_bipush (v := 8) C dX8_isBeyond_1 (by decide) ?_
  refine V_icmp_lt (tgt := 23) C dX8_isBeyond_3 (by decide) (fun zh3 => ?_) (fun zh3 => ?_)
  · refine V_iconst (v := 0) C dX8_isBeyond_23 (by decide) ?_
    exact E 0 u _ _ dX8_isBeyond_24 rfl ⟨by first | rfl | (simp (decide := true) [b2i, gi_si, mBy, zh3, Int32.not_le.mpr zh3]; done) | (simp (decide := true) [b2i, gi_si, mBy, zh3, Int32.not_le.mpr zh3]; rfl) | (simp_all (decide := true) [b2i, gi_si, mBy]; done), by first | rfl | (simp (decide := true) [b2i, gi_si, mBy, zh3, Int32.not_le.mpr zh3]; done) | (simp (decide := true) [b2i, gi_si, mBy, zh3, Int32.not_le.mpr zh3]; rfl) | (simp_all (decide := true) [b2i, gi_si, mBy]; done)⟩
  · refine V_iload_n C dX8_isBeyond_6 rfl 1 rfl ?_
    refine V_bipush (v := 8) C dX8_isBeyond_7 (by decide) ?_
    refine V_isub C dX8_isBeyond_9 ?_
    refine V_aload_n C dX8_isBeyond_10 rfl 0 rfl ?_
    refine V_get (v := .ref (h 26)) C dX8_isBeyond_11 hi8 0 rfl rfl 25 (by decide) (List.mem_of_getElem? (i := 1) rfl) rfl rfl ?_
    refine V_iconst (v := 1) C dX8_isBeyond_14 (by decide) ?_
    refine V_ialdn (v := (ga u 25 1)) C dX8_isBeyond_15 13 0 rfl rfl (1) (by decide) (by unfold vp_in; decide) rfl ?_
    refine V_icmp_lt (tgt := 23) C dX8_isBeyond_16 (by decide) (fun zh16 => ?_) (fun zh16 => ?_)
    · refine V_iconst (v := 0) C dX8_isBeyond_23 (by decide) ?_
      exact E 0 u _ _ dX8_isBeyond_24 rfl ⟨by first | rfl | (simp (decide := true) [b2i, gi_si, mBy, zh3, Int32.not_lt.mp zh3, zh16, Int32.not_le.mpr zh16]; done) | (simp (decide := true) [b2i, gi_si, mBy, zh3, Int32.not_lt.mp zh3, zh16, Int32.not_le.mpr zh16]; rfl) | (simp_all (decide := true) [b2i, gi_si, mBy]; done), by first | rfl | (simp (decide := true) [b2i, gi_si, mBy, zh3, Int32.not_lt.mp zh3, zh16, Int32.not_le.mpr zh16]; done) | (simp (decide := true) [b2i, gi_si, mBy, zh3, Int32.not_lt.mp zh3, zh16, Int32.not_le.mpr zh16]; rfl) | (simp_all (decide := true) [b2i, gi_si, mBy]; done)⟩
    · refine V_iconst (v := 1) C dX8_isBeyond_19 (by decide) ?_
      refine V_goto (tgt := 24) C dX8_isBeyond_20 (by decide) ?_
      exact E 1 u _ _ dX8_isBeyond_24 rfl ⟨by first | rfl | (simp (decide := true) [b2i, gi_si, mBy, zh3, Int32.not_lt.mp zh3, zh16, Int32.not_lt.mp zh16]; done) | (simp (decide := true) [b2i, gi_si, mBy, zh3, Int32.not_lt.mp zh3, zh16, Int32.not_lt.mp zh16]; rfl) | (simp_all (decide := true) [b2i, gi_si, mBy]; done), by first | rfl | (simp (decide := true) [b2i, gi_si, mBy, zh3, Int32.not_lt.mp zh3, zh16, Int32.not_lt.mp zh16]; done) | (simp (decide := true) [b2i, gi_si, mBy, zh3, Int32.not_lt.mp zh3, zh16, Int32.not_lt.mp zh16]; rfl) | (simp_all (decide := true) [b2i, gi_si, mBy]; done)⟩

set_option maxHeartbeats 4000000 in
set_option maxRecDepth 100000 in
theorem c_X8_group (l : Launch) (D : va_G) (K : Nat → ClassId) (h : Nat → Nat) (u : MS)   : vMv l D vwCl (tys0 K) yX8_group wsX8_group ({ frames := 0, cells := 0, slots := 0, locals := 0 } : Room) [.ref (h 0)] (mw K h u) (mw K h) (fun u9 => u9 = (sb (si (si u 10 0) 11 0) 12 false)) := by
  refine vMv_of (cc := cX8_group) (nL := 1) (by decide) rfl (Nat.le_of_ble_eq_true rfl) ?_
  intro X C E
  show V X 0 0 (mw K h u) 0 [(0, .ref (h 0))] []
  have hi8 : ∀ w ∈ wsX80, w ∈ wsX8_group := fun _ h => List.mem_cons_of_mem _ (List.mem_append_right _ h)
  refine V_aload_n C dX8_group_0 rfl 0 rfl ?_
  refine V_iconst (v := 0) C dX8_group_1 (by decide) ?_
  refine V_put (ws' := (mw K h (si u 10 0))) C dX8_group_2 hi8 tyX8_ok nmX8 0 rfl rfl 10 (by decide) (List.mem_of_getElem? (i := 1) rfl) rfl rfl rfl rfl rfl (Nat.le_of_ble_eq_true rfl) (ms_10 K h u 0) ?_
  refine V_aload_n C dX8_group_5 rfl 0 rfl ?_
  refine V_iconst (v := 0) C dX8_group_6 (by decide) ?_
  refine V_put (ws' := (mw K h (si (si u 10 0) 11 0))) C dX8_group_7 hi8 tyX8_ok nmX8 0 rfl rfl 11 (by decide) (List.mem_of_getElem? (i := 2) rfl) rfl rfl rfl rfl rfl (Nat.le_of_ble_eq_true rfl) (ms_11 K h (si u 10 0) 0) ?_
  refine V_aload_n C dX8_group_10 rfl 0 rfl ?_
  refine V_iconst (v := 0) C dX8_group_11 (by decide) ?_
  refine V_put (ws' := (mw K h (sb (si (si u 10 0) 11 0) 12 false))) C dX8_group_12 hi8 tyX8_ok nmX8 0 rfl rfl 12 (by decide) (List.mem_of_getElem? (i := 3) rfl) rfl rfl rfl rfl rfl (Nat.le_of_ble_eq_true rfl) (ms_12 K h (si (si u 10 0) 11 0) false) ?_
  exact E (sb (si (si u 10 0) 11 0) 12 false) _ _ dX8_group_15 (by rfl)

