def mOut (k lo hi : Int32) : Bool := decide (k < lo ∨ hi < k)
def mWr (o k : Int32) : Bool := decide (k = 0 ∧ ((1 ≤ o ∧ o ≤ 5) ∨ o = 8 ∨ o = 9 ∨ o = 12))
def mRd (o k : Int32) : Bool := if k = 0 then decide (o = 10 ∨ o = 11 ∨ o = 13) else decide ((2 ≤ o ∧ o ≤ 7) ∨ (k = 1 ∧ 8 ≤ o ∧ o ≤ 12))
def mPr (o k : Int32) : Bool := decide (k = 0 ∧ (o = 6 ∨ o = 7))
def mTg (o k : Int32) : Bool := decide ((k = 0 ∧ (o = 14 ∨ o = 15 ∨ o = 19)) ∨ (k = 1 ∧ o = 13))
set_option maxHeartbeats 4000000 in
set_option maxRecDepth 100000 in
theorem c_X8_out (l : Launch) (D : va_G) (K : Nat → ClassId) (w0 : va_W) (xk xlo xhi : Int32) : vMi l D vwCl (tys0 K) yX8_out wsX8_out ({ frames := 0, cells := 0, slots := 0, locals := 0 } : Room) [.int xk, .int xlo, .int xhi] w0 (fun _ : Unit => w0) (fun r _ => r = b2i (mOut xk xlo xhi)) := by
  refine vMi_of (cc := cX8_out) (nL := 3) (rt := .boolean) (by decide) rfl (Nat.le_of_ble_eq_true rfl) ?_
  intro X C E
  show V X 0 0 w0 0 [(0, .int xk), (1, .int xlo), (2, .int xhi)] []
  refine V_iload_n C dX8_out_0 rfl 0 rfl ?_
  refine V_iload_n C dX8_out_1 rfl 1 rfl ?_
  refine V_icmp_lt (tgt := 10) C dX8_out_2 (by decide) (fun zh2 => ?_) (fun zh2 => ?_)
  · refine V_iconst (v := 1) C dX8_out_10 (by decide) ?_
    refine V_goto (tgt := 15) C dX8_out_11 (by decide) ?_
    exact E 1 () _ _ dX8_out_15 rfl (by first | (simp (decide := true) [b2i, mOut, zh2, Int32.not_le.mpr zh2]; done) | (simp_all (decide := true) [b2i, mOut]; done))
  · refine V_iload_n C dX8_out_5 rfl 0 rfl ?_
    refine V_iload_n C dX8_out_6 rfl 2 rfl ?_
    refine V_icmp_le (tgt := 14) C dX8_out_7 (by decide) (fun zh7 => ?_) (fun zh7 => ?_)
    · refine V_iconst (v := 0) C dX8_out_14 (by decide) ?_
      exact E 0 () _ _ dX8_out_15 rfl (by first | (simp (decide := true) [b2i, mOut, zh2, Int32.not_lt.mp zh2, zh7, Int32.not_lt.mpr zh7]; done) | (simp_all (decide := true) [b2i, mOut]; done))
    · refine V_iconst (v := 1) C dX8_out_10 (by decide) ?_
      refine V_goto (tgt := 15) C dX8_out_11 (by decide) ?_
      exact E 1 () _ _ dX8_out_15 rfl (by first | (simp (decide := true) [b2i, mOut, zh2, Int32.not_lt.mp zh2, zh7, Int32.not_le.mp zh7]; done) | (simp_all (decide := true) [b2i, mOut]; done))

set_option maxHeartbeats 4000000 in
set_option maxRecDepth 100000 in
theorem c_X8_isWritten (l : Launch) (D : va_G) (K : Nat → ClassId) (w0 : va_W) (xo xk : Int32) : vMi l D vwCl (tys0 K) yX8_isWritten wsX8_isWritten ({ frames := 0, cells := 0, slots := 0, locals := 0 } : Room) [.int xo, .int xk] w0 (fun _ : Unit => w0) (fun r _ => r = b2i (mWr xo xk)) := by
  refine vMi_of (cc := cX8_isWritten) (nL := 2) (rt := .boolean) (by decide) rfl (Nat.le_of_ble_eq_true rfl) ?_
  intro X C E
  show V X 0 0 w0 0 [(0, .int xo), (1, .int xk)] []
  refine V_iload_n C dX8_isWritten_0 rfl 1 rfl ?_
  refine V_if_ne (tgt := 36) C dX8_isWritten_1 (by decide) (fun zh1 => ?_) (fun zh1 => ?_)
  · refine V_iconst (v := 0) C dX8_isWritten_36 (by decide) ?_
    exact E 0 () _ _ dX8_isWritten_37 rfl (by first | (simp (decide := true) [b2i, mWr, zh1]; done) | (simp_all (decide := true) [b2i, mWr]; done))
  · refine V_iload_n C dX8_isWritten_4 rfl 0 rfl ?_
    refine V_iconst (v := 1) C dX8_isWritten_5 (by decide) ?_
    refine V_icmp_lt (tgt := 14) C dX8_isWritten_6 (by decide) (fun zh6 => ?_) (fun zh6 => ?_)
    · refine V_iload_n C dX8_isWritten_14 rfl 0 rfl ?_
      refine V_bipush (v := 8) C dX8_isWritten_15 (by decide) ?_
      refine V_icmp_eq (tgt := 32) C dX8_isWritten_17 (by decide) (fun zh17 => ?_) (fun zh17 => ?_)
      · exfalso; have q_0 := Int32.lt_iff_toInt_lt.mp zh6; have q_1 := congrArg Int32.toInt zh17; have l_0 : (1 : Int32).toInt = 1 := (by decide); have l_1 : (8 : Int32).toInt = 8 := (by decide); omega
      · refine V_iload_n C dX8_isWritten_20 rfl 0 rfl ?_
        refine V_bipush (v := 9) C dX8_isWritten_21 (by decide) ?_
        refine V_icmp_eq (tgt := 32) C dX8_isWritten_23 (by decide) (fun zh23 => ?_) (fun zh23 => ?_)
        · exfalso; have q_0 := Int32.lt_iff_toInt_lt.mp zh6; have q_1 := congrArg Int32.toInt zh23; have l_0 : (1 : Int32).toInt = 1 := (by decide); have l_1 : (9 : Int32).toInt = 9 := (by decide); omega
        · refine V_iload_n C dX8_isWritten_26 rfl 0 rfl ?_
          refine V_bipush (v := 12) C dX8_isWritten_27 (by decide) ?_
          refine V_icmp_ne (tgt := 36) C dX8_isWritten_29 (by decide) (fun zh29 => ?_) (fun zh29 => ?_)
          · refine V_iconst (v := 0) C dX8_isWritten_36 (by decide) ?_
            exact E 0 () _ _ dX8_isWritten_37 rfl (by first | (simp (decide := true) [b2i, mWr, zh1, zh6, Int32.not_le.mpr zh6, zh17, zh23, zh29]; done) | (simp_all (decide := true) [b2i, mWr]; done))
          · exfalso; have q_0 := Int32.lt_iff_toInt_lt.mp zh6; have q_1 := congrArg Int32.toInt zh29; have l_0 : (1 : Int32).toInt = 1 := (by decide); have l_1 : (12 : Int32).toInt = 12 := (by decide); omega
    · refine V_iload_n C dX8_isWritten_9 rfl 0 rfl ?_
      refine V_iconst (v := 5) C dX8_isWritten_10 (by decide) ?_
      refine V_icmp_le (tgt := 32) C dX8_isWritten_11 (by decide) (fun zh11 => ?_) (fun zh11 => ?_)
      · refine V_iconst (v := 1) C dX8_isWritten_32 (by decide) ?_
        refine V_goto (tgt := 37) C dX8_isWritten_33 (by decide) ?_
        exact E 1 () _ _ dX8_isWritten_37 rfl (by first | (simp (decide := true) [b2i, mWr, zh1, zh6, Int32.not_lt.mp zh6, zh11, Int32.not_lt.mpr zh11]; done) | (simp_all (decide := true) [b2i, mWr]; done))
      · refine V_iload_n C dX8_isWritten_14 rfl 0 rfl ?_
        refine V_bipush (v := 8) C dX8_isWritten_15 (by decide) ?_
        refine V_icmp_eq (tgt := 32) C dX8_isWritten_17 (by decide) (fun zh17 => ?_) (fun zh17 => ?_)
        · refine V_iconst (v := 1) C dX8_isWritten_32 (by decide) ?_
          refine V_goto (tgt := 37) C dX8_isWritten_33 (by decide) ?_
          exact E 1 () _ _ dX8_isWritten_37 rfl (by first | (simp (decide := true) [b2i, mWr, zh1, zh6, Int32.not_lt.mp zh6, zh11, Int32.not_le.mp zh11, zh17]; done) | (simp_all (decide := true) [b2i, mWr]; done))
        · refine V_iload_n C dX8_isWritten_20 rfl 0 rfl ?_
          refine V_bipush (v := 9) C dX8_isWritten_21 (by decide) ?_
          refine V_icmp_eq (tgt := 32) C dX8_isWritten_23 (by decide) (fun zh23 => ?_) (fun zh23 => ?_)
          · refine V_iconst (v := 1) C dX8_isWritten_32 (by decide) ?_
            refine V_goto (tgt := 37) C dX8_isWritten_33 (by decide) ?_
            exact E 1 () _ _ dX8_isWritten_37 rfl (by first | (simp (decide := true) [b2i, mWr, zh1, zh6, Int32.not_lt.mp zh6, zh11, Int32.not_le.mp zh11, zh17, zh23]; done) | (simp_all (decide := true) [b2i, mWr]; done))
          · refine V_iload_n C dX8_isWritten_26 rfl 0 rfl ?_
            refine V_bipush (v := 12) C dX8_isWritten_27 (by decide) ?_
            refine V_icmp_ne (tgt := 36) C dX8_isWritten_29 (by decide) (fun zh29 => ?_) (fun zh29 => ?_)
            · refine V_iconst (v := 0) C dX8_isWritten_36 (by decide) ?_
              exact E 0 () _ _ dX8_isWritten_37 rfl (by first | (simp (decide := true) [b2i, mWr, zh1, zh6, Int32.not_lt.mp zh6, zh11, Int32.not_le.mp zh11, zh17, zh23, zh29]; done) | (simp_all (decide := true) [b2i, mWr]; done))
            · refine V_iconst (v := 1) C dX8_isWritten_32 (by decide) ?_
              refine V_goto (tgt := 37) C dX8_isWritten_33 (by decide) ?_
              exact E 1 () _ _ dX8_isWritten_37 rfl (by first | (simp (decide := true) [b2i, mWr, zh1, zh6, Int32.not_lt.mp zh6, zh11, Int32.not_le.mp zh11, zh17, zh23, zh29]; done) | (simp_all (decide := true) [b2i, mWr]; done))

set_option maxHeartbeats 4000000 in
set_option maxRecDepth 100000 in
theorem c_X8_isRead (l : Launch) (D : va_G) (K : Nat → ClassId) (w0 : va_W) (xo xk : Int32) : vMi l D vwCl (tys0 K) yX8_isRead wsX8_isRead ({ frames := 0, cells := 0, slots := 0, locals := 0 } : Room) [.int xo, .int xk] w0 (fun _ : Unit => w0) (fun r _ => r = b2i (mRd xo xk)) := by
  refine vMi_of (cc := cX8_isRead) (nL := 2) (rt := .boolean) (by decide) rfl (Nat.le_of_ble_eq_true rfl) ?_
  intro X C E
  show V X 0 0 w0 0 [(0, .int xo), (1, .int xk)] []
  refine V_iload_n C dX8_isRead_0 rfl 1 rfl ?_
  refine V_if_ne (tgt := 28) C dX8_isRead_1 (by decide) (fun zh1 => ?_) (fun zh1 => ?_)
  · refine V_iload_n C dX8_isRead_28 rfl 0 rfl ?_
    refine V_iconst (v := 2) C dX8_isRead_29 (by decide) ?_
    refine V_icmp_lt (tgt := 39) C dX8_isRead_30 (by decide) (fun zh30 => ?_) (fun zh30 => ?_)
    · refine V_iload_n C dX8_isRead_39 rfl 1 rfl ?_
      refine V_iconst (v := 1) C dX8_isRead_40 (by decide) ?_
      refine V_icmp_ne (tgt := 60) C dX8_isRead_41 (by decide) (fun zh41 => ?_) (fun zh41 => ?_)
      · refine V_iconst (v := 0) C dX8_isRead_60 (by decide) ?_
        exact E 0 () _ _ dX8_isRead_61 rfl (by first | (simp (decide := true) [b2i, mRd, zh1, zh30, Int32.not_le.mpr zh30, zh41]; done) | (simp_all (decide := true) [b2i, mRd]; done))
      · refine V_iload_n C dX8_isRead_44 rfl 0 rfl ?_
        refine V_bipush (v := 8) C dX8_isRead_45 (by decide) ?_
        refine V_icmp_lt (tgt := 60) C dX8_isRead_47 (by decide) (fun zh47 => ?_) (fun zh47 => ?_)
        · refine V_iconst (v := 0) C dX8_isRead_60 (by decide) ?_
          exact E 0 () _ _ dX8_isRead_61 rfl (by first | (simp (decide := true) [b2i, mRd, zh1, zh30, Int32.not_le.mpr zh30, zh41, zh47, Int32.not_le.mpr zh47]; done) | (simp_all (decide := true) [b2i, mRd]; done))
        · exfalso; have q_0 := Int32.lt_iff_toInt_lt.mp zh30; have q_1 := Int32.le_iff_toInt_le.mp (Int32.not_lt.mp zh47); have l_0 : (2 : Int32).toInt = 2 := (by decide); have l_1 : (8 : Int32).toInt = 8 := (by decide); omega
    · refine V_iload_n C dX8_isRead_33 rfl 0 rfl ?_
      refine V_bipush (v := 7) C dX8_isRead_34 (by decide) ?_
      refine V_icmp_le (tgt := 56) C dX8_isRead_36 (by decide) (fun zh36 => ?_) (fun zh36 => ?_)
      · refine V_iconst (v := 1) C dX8_isRead_56 (by decide) ?_
        refine V_goto (tgt := 61) C dX8_isRead_57 (by decide) ?_
        exact E 1 () _ _ dX8_isRead_61 rfl (by first | (simp (decide := true) [b2i, mRd, zh1, zh30, Int32.not_lt.mp zh30, zh36, Int32.not_lt.mpr zh36]; done) | (simp_all (decide := true) [b2i, mRd]; done))
      · refine V_iload_n C dX8_isRead_39 rfl 1 rfl ?_
        refine V_iconst (v := 1) C dX8_isRead_40 (by decide) ?_
        refine V_icmp_ne (tgt := 60) C dX8_isRead_41 (by decide) (fun zh41 => ?_) (fun zh41 => ?_)
        · refine V_iconst (v := 0) C dX8_isRead_60 (by decide) ?_
          exact E 0 () _ _ dX8_isRead_61 rfl (by first | (simp (decide := true) [b2i, mRd, zh1, zh30, Int32.not_lt.mp zh30, zh36, Int32.not_le.mp zh36, zh41]; done) | (simp_all (decide := true) [b2i, mRd]; done))
        · refine V_iload_n C dX8_isRead_44 rfl 0 rfl ?_
          refine V_bipush (v := 8) C dX8_isRead_45 (by decide) ?_
          refine V_icmp_lt (tgt := 60) C dX8_isRead_47 (by decide) (fun zh47 => ?_) (fun zh47 => ?_)
          · exfalso; have q_0 := Int32.le_iff_toInt_le.mp (Int32.not_lt.mp zh30); have q_1 := Int32.lt_iff_toInt_lt.mp (Int32.not_le.mp zh36); have q_2 := Int32.lt_iff_toInt_lt.mp zh47; have l_0 : (2 : Int32).toInt = 2 := (by decide); have l_1 : (7 : Int32).toInt = 7 := (by decide); have l_2 : (8 : Int32).toInt = 8 := (by decide); omega
          · refine V_iload_n C dX8_isRead_50 rfl 0 rfl ?_
            refine V_bipush (v := 12) C dX8_isRead_51 (by decide) ?_
            refine V_icmp_gt (tgt := 60) C dX8_isRead_53 (by decide) (fun zh53 => ?_) (fun zh53 => ?_)
            · refine V_iconst (v := 0) C dX8_isRead_60 (by decide) ?_
              exact E 0 () _ _ dX8_isRead_61 rfl (by first | (simp (decide := true) [b2i, mRd, zh1, zh30, Int32.not_lt.mp zh30, zh36, Int32.not_le.mp zh36, zh41, zh47, Int32.not_lt.mp zh47, zh53, Int32.not_le.mpr zh53]; done) | (simp_all (decide := true) [b2i, mRd]; done))
            · refine V_iconst (v := 1) C dX8_isRead_56 (by decide) ?_
              refine V_goto (tgt := 61) C dX8_isRead_57 (by decide) ?_
              exact E 1 () _ _ dX8_isRead_61 rfl (by first | (simp (decide := true) [b2i, mRd, zh1, zh30, Int32.not_lt.mp zh30, zh36, Int32.not_le.mp zh36, zh41, zh47, Int32.not_lt.mp zh47, zh53, Int32.not_lt.mp zh53]; done) | (simp_all (decide := true) [b2i, mRd]; done))
  · refine V_iload_n C dX8_isRead_4 rfl 0 rfl ?_
    refine V_bipush (v := 10) C dX8_isRead_5 (by decide) ?_
    refine V_icmp_eq (tgt := 22) C dX8_isRead_7 (by decide) (fun zh7 => ?_) (fun zh7 => ?_)
    · refine V_iconst (v := 1) C dX8_isRead_22 (by decide) ?_
      refine V_goto (tgt := 27) C dX8_isRead_23 (by decide) ?_
      exact E 1 () _ _ dX8_isRead_27 rfl (by first | (simp (decide := true) [b2i, mRd, zh1, zh7]; done) | (simp_all (decide := true) [b2i, mRd]; done))
    · refine V_iload_n C dX8_isRead_10 rfl 0 rfl ?_
      refine V_bipush (v := 11) C dX8_isRead_11 (by decide) ?_
      refine V_icmp_eq (tgt := 22) C dX8_isRead_13 (by decide) (fun zh13 => ?_) (fun zh13 => ?_)
      · refine V_iconst (v := 1) C dX8_isRead_22 (by decide) ?_
        refine V_goto (tgt := 27) C dX8_isRead_23 (by decide) ?_
        exact E 1 () _ _ dX8_isRead_27 rfl (by first | (simp (decide := true) [b2i, mRd, zh1, zh7, zh13]; done) | (simp_all (decide := true) [b2i, mRd]; done))
      · refine V_iload_n C dX8_isRead_16 rfl 0 rfl ?_
        refine V_bipush (v := 13) C dX8_isRead_17 (by decide) ?_
        refine V_icmp_ne (tgt := 26) C dX8_isRead_19 (by decide) (fun zh19 => ?_) (fun zh19 => ?_)
        · refine V_iconst (v := 0) C dX8_isRead_26 (by decide) ?_
          exact E 0 () _ _ dX8_isRead_27 rfl (by first | (simp (decide := true) [b2i, mRd, zh1, zh7, zh13, zh19]; done) | (simp_all (decide := true) [b2i, mRd]; done))
        · refine V_iconst (v := 1) C dX8_isRead_22 (by decide) ?_
          refine V_goto (tgt := 27) C dX8_isRead_23 (by decide) ?_
          exact E 1 () _ _ dX8_isRead_27 rfl (by first | (simp (decide := true) [b2i, mRd, zh1, zh7, zh13, zh19]; done) | (simp_all (decide := true) [b2i, mRd]; done))

set_option maxHeartbeats 4000000 in
set_option maxRecDepth 100000 in
theorem c_X8_isPredicate (l : Launch) (D : va_G) (K : Nat → ClassId) (w0 : va_W) (xo xk : Int32) : vMi l D vwCl (tys0 K) yX8_isPredicate wsX8_isPredicate ({ frames := 0, cells := 0, slots := 0, locals := 0 } : Room) [.int xo, .int xk] w0 (fun _ : Unit => w0) (fun r _ => r = b2i (mPr xo xk)) := by
  refine vMi_of (cc := cX8_isPredicate) (nL := 2) (rt := .boolean) (by decide) rfl (Nat.le_of_ble_eq_true rfl) ?_
  intro X C E
  show V X 0 0 w0 0 [(0, .int xo), (1, .int xk)] []
  refine V_iload_n C dX8_isPredicate_0 rfl 1 rfl ?_
  refine V_if_ne (tgt := 20) C dX8_isPredicate_1 (by decide) (fun zh1 => ?_) (fun zh1 => ?_)
  · refine V_iconst (v := 0) C dX8_isPredicate_20 (by decide) ?_
    exact E 0 () _ _ dX8_isPredicate_21 rfl (by first | (simp (decide := true) [b2i, mPr, zh1]; done) | (simp_all (decide := true) [b2i, mPr]; done))
  · refine V_iload_n C dX8_isPredicate_4 rfl 0 rfl ?_
    refine V_bipush (v := 6) C dX8_isPredicate_5 (by decide) ?_
    refine V_icmp_eq (tgt := 16) C dX8_isPredicate_7 (by decide) (fun zh7 => ?_) (fun zh7 => ?_)
    · refine V_iconst (v := 1) C dX8_isPredicate_16 (by decide) ?_
      refine V_goto (tgt := 21) C dX8_isPredicate_17 (by decide) ?_
      exact E 1 () _ _ dX8_isPredicate_21 rfl (by first | (simp (decide := true) [b2i, mPr, zh1, zh7]; done) | (simp_all (decide := true) [b2i, mPr]; done))
    · refine V_iload_n C dX8_isPredicate_10 rfl 0 rfl ?_
      refine V_bipush (v := 7) C dX8_isPredicate_11 (by decide) ?_
      refine V_icmp_ne (tgt := 20) C dX8_isPredicate_13 (by decide) (fun zh13 => ?_) (fun zh13 => ?_)
      · refine V_iconst (v := 0) C dX8_isPredicate_20 (by decide) ?_
        exact E 0 () _ _ dX8_isPredicate_21 rfl (by first | (simp (decide := true) [b2i, mPr, zh1, zh7, zh13]; done) | (simp_all (decide := true) [b2i, mPr]; done))
      · refine V_iconst (v := 1) C dX8_isPredicate_16 (by decide) ?_
        refine V_goto (tgt := 21) C dX8_isPredicate_17 (by decide) ?_
        exact E 1 () _ _ dX8_isPredicate_21 rfl (by first | (simp (decide := true) [b2i, mPr, zh1, zh7, zh13]; done) | (simp_all (decide := true) [b2i, mPr]; done))

set_option maxHeartbeats 4000000 in
set_option maxRecDepth 100000 in
theorem c_X8_isTarget (l : Launch) (D : va_G) (K : Nat → ClassId) (w0 : va_W) (xo xk : Int32) : vMi l D vwCl (tys0 K) yX8_isTarget wsX8_isTarget ({ frames := 0, cells := 0, slots := 0, locals := 0 } : Room) [.int xo, .int xk] w0 (fun _ : Unit => w0) (fun r _ => r = b2i (mTg xo xk)) := by
  refine vMi_of (cc := cX8_isTarget) (nL := 2) (rt := .boolean) (by decide) rfl (Nat.le_of_ble_eq_true rfl) ?_
  intro X C E
  show V X 0 0 w0 0 [(0, .int xo), (1, .int xk)] []
  refine V_iload_n C dX8_isTarget_0 rfl 1 rfl ?_
  refine V_if_ne (tgt := 22) C dX8_isTarget_1 (by decide) (fun zh1 => ?_) (fun zh1 => ?_)
  · refine V_iload_n C dX8_isTarget_22 rfl 1 rfl ?_
    refine V_iconst (v := 1) C dX8_isTarget_23 (by decide) ?_
    refine V_icmp_ne (tgt := 37) C dX8_isTarget_24 (by decide) (fun zh24 => ?_) (fun zh24 => ?_)
    · refine V_iconst (v := 0) C dX8_isTarget_37 (by decide) ?_
      exact E 0 () _ _ dX8_isTarget_38 rfl (by first | (simp (decide := true) [b2i, mTg, zh1, zh24]; done) | (simp_all (decide := true) [b2i, mTg]; done))
    · refine V_iload_n C dX8_isTarget_27 rfl 0 rfl ?_
      refine V_bipush (v := 13) C dX8_isTarget_28 (by decide) ?_
      refine V_icmp_ne (tgt := 37) C dX8_isTarget_30 (by decide) (fun zh30 => ?_) (fun zh30 => ?_)
      · refine V_iconst (v := 0) C dX8_isTarget_37 (by decide) ?_
        exact E 0 () _ _ dX8_isTarget_38 rfl (by first | (simp (decide := true) [b2i, mTg, zh1, zh24, zh30]; done) | (simp_all (decide := true) [b2i, mTg]; done))
      · refine V_iconst (v := 1) C dX8_isTarget_33 (by decide) ?_
        refine V_goto (tgt := 38) C dX8_isTarget_34 (by decide) ?_
        exact E 1 () _ _ dX8_isTarget_38 rfl (by first | (simp (decide := true) [b2i, mTg, zh1, zh24, zh30]; done) | (simp_all (decide := true) [b2i, mTg]; done))
  · refine V_iload_n C dX8_isTarget_4 rfl 0 rfl ?_
    refine V_bipush (v := 14) C dX8_isTarget_5 (by decide) ?_
    refine V_icmp_eq (tgt := 33) C dX8_isTarget_7 (by decide) (fun zh7 => ?_) (fun zh7 => ?_)
    · refine V_iconst (v := 1) C dX8_isTarget_33 (by decide) ?_
      refine V_goto (tgt := 38) C dX8_isTarget_34 (by decide) ?_
      exact E 1 () _ _ dX8_isTarget_38 rfl (by first | (simp (decide := true) [b2i, mTg, zh1, zh7]; done) | (simp_all (decide := true) [b2i, mTg]; done))
    · refine V_iload_n C dX8_isTarget_10 rfl 0 rfl ?_
      refine V_bipush (v := 15) C dX8_isTarget_11 (by decide) ?_
      refine V_icmp_eq (tgt := 33) C dX8_isTarget_13 (by decide) (fun zh13 => ?_) (fun zh13 => ?_)
      · refine V_iconst (v := 1) C dX8_isTarget_33 (by decide) ?_
        refine V_goto (tgt := 38) C dX8_isTarget_34 (by decide) ?_
        exact E 1 () _ _ dX8_isTarget_38 rfl (by first | (simp (decide := true) [b2i, mTg, zh1, zh7, zh13]; done) | (simp_all (decide := true) [b2i, mTg]; done))
      · refine V_iload_n C dX8_isTarget_16 rfl 0 rfl ?_
        refine V_bipush (v := 19) C dX8_isTarget_17 (by decide) ?_
        refine V_icmp_eq (tgt := 33) C dX8_isTarget_19 (by decide) (fun zh19 => ?_) (fun zh19 => ?_)
        · refine V_iconst (v := 1) C dX8_isTarget_33 (by decide) ?_
          refine V_goto (tgt := 38) C dX8_isTarget_34 (by decide) ?_
          exact E 1 () _ _ dX8_isTarget_38 rfl (by first | (simp (decide := true) [b2i, mTg, zh1, zh7, zh13, zh19]; done) | (simp_all (decide := true) [b2i, mTg]; done))
        · refine V_iload_n C dX8_isTarget_22 rfl 1 rfl ?_
          refine V_iconst (v := 1) C dX8_isTarget_23 (by decide) ?_
          refine V_icmp_ne (tgt := 37) C dX8_isTarget_24 (by decide) (fun zh24 => ?_) (fun zh24 => ?_)
          · refine V_iconst (v := 0) C dX8_isTarget_37 (by decide) ?_
            exact E 0 () _ _ dX8_isTarget_38 rfl (by first | (simp (decide := true) [b2i, mTg, zh1, zh7, zh13, zh19, zh24]; done) | (simp_all (decide := true) [b2i, mTg]; done))
          · exact absurd zh24 (by rw [zh1]; decide)

