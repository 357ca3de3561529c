theorem nI_tn {x : Int32} (h : 0 ≤ x.toInt) : x = nI (tn x) := by
  obtain ⟨j, h1, h2⟩ := nI_of (x := x) (by
    intro q
    have := Int32.lt_iff_toInt_lt.mp q
    have e0 : (0 : Int32).toInt = 0 := by decide
    omega)
  rw [h2, tn, nI_clamp h1]
theorem tn_toInt {x : Int32} (h : 0 ≤ x.toInt) : (tn x : Int) = x.toInt := by
  obtain ⟨j, h1, h2⟩ := nI_of (x := x) (by
    intro q
    have := Int32.lt_iff_toInt_lt.mp q
    have e0 : (0 : Int32).toInt = 0 := by decide
    omega)
  rw [h2, tn, nI_clamp h1, nI_toInt h1]
def mN (u : MS) : Nat := 40 + tn (gi u 27)
def mRunL : Nat → MS → Int32 × MS
  | 0, u => (5, u)
  | f + 1, u => if (mStep u (mN u)).1 < 0 then mRunL f (mStep u (mN u)).2 else mStep u (mN u)
/-- a state in which a step can be done -/
def mGood (v : MS) : Prop := 40 + gi v 27 = nI (mN v) ∧ mN v < 80 ∧ vp_in (mSlot v (ga v 2 (mN v))) 16 ∧ (mMiss v (ga v 1 (mN v)) (ga v 3 (3 * mN v)) (ga v 3 (3 * mN v + 1)) (ga v 3 (3 * mN v + 2)) = false → mPre v (ga v 1 (mN v)) (ga v 3 (3 * mN v)) (ga v 3 (3 * mN v + 1)) (ga v 3 (3 * mN v + 2)))
def mNone (u : MS) (b : Int32) : Bool := !mOut b 1 500 && (decide (gi u 6 = 0) || gb u 30)
set_option maxHeartbeats 4000000 in
set_option maxRecDepth 100000 in
theorem c_X8_run (l : Launch) (D : va_G) (K : Nat → ClassId) (h : Nat → Nat) (u : MS) (xb : Int32) (J : MS → Prop) (hJ : ∀ v, J v → mGood v ∧ ((mStep v (mN v)).1 < 0 → J (mStep v (mN v)).2)) (hu : ∀ xn : Bool, xn = mNone u xb → mOut xb 1 500 = false → xn = false → J (si u 0 0)) : vMi l D vwCl (tys0 K) yX8_run wsX8_run ({ frames := 4, cells := 0, slots := 0, locals := 102 } : Room) [.ref (h 0), .int xb] (mw K h u) (mw K h) (fun r9 u9 => r9 = (if (mOut xb 1 500 || mNone u xb) = true then 0 else (mRunL (tn xb) (si u 0 0)).1) ∧ u9 = (if (mOut xb 1 500 || mNone u xb) = true then si u 0 (mThr (mOut xb 1 500) (mNone u xb)) else sb (mRunL (tn xb) (si u 0 0)).2 30 (decide ((mRunL (tn xb) (si u 0 0)).1 = 0)))) := by
  refine vMi_of (cc := cX8_run) (nL := 5) (rt := .int) (by decide) rfl (Nat.le_of_ble_eq_true rfl) ?_
  intro X C E
  show V X 0 0 (mw K h u) 0 [(0, .ref (h 0)), (1, .int xb)] []
  have hi8 : ∀ w ∈ wsX80, w ∈ wsX8_run := fun _ h => List.mem_cons_of_mem _ (List.mem_append_right _ h)
  refine V_iload_n C dX8_run_0 rfl 1 rfl ?_
  refine V_iconst (v := 1) C dX8_run_1 (by decide) ?_
  refine V_sipush (v := 500) C dX8_run_2 (by decide) ?_
  refine V_calliS C dX8_run_5 (c_X8_out l D K (mw K h u) xb 1 500) gX8_run_X8_out rfl 3 rfl (by decide +kernel) (by decide) ⟨Nat.le_of_ble_eq_true rfl, Nat.le_of_ble_eq_true rfl⟩ rfl (Nat.le_of_ble_eq_true rfl) (det0 ?_)
  refine V_istore_n (lv' := [(2, .int (b2i (mOut xb 1 500))), (0, .ref (h 0)), (1, .int xb)]) C dX8_run_8 rfl (by decide) rfl ?_
  refine V_aload_n C dX8_run_9 rfl 1 rfl ?_
  refine V_iload_n C dX8_run_10 rfl 0 rfl ?_
  suffices zj34 : ∀ xn : Bool, xn = (mNone u xb) → V X 0 0 (mw K h u) 34 [(2, .int (b2i (mOut xb 1 500))), (0, .ref (h 0)), (1, .int xb)] [.int (b2i xn), .int (b2i (mOut xb 1 500)), .ref (h 0)] by
    refine V_iload_n C dX8_run_11 rfl 0 rfl ?_
    refine V_ifz_ne (tgt := 33) C dX8_run_12 (by decide) (fun zh12 => ?_) (fun zh12 => ?_)
    · refine V_iconst (v := 0) C dX8_run_33 (by decide) ?_
      refine V_sub [0, 1, 2] rfl ?_
      exact zj34 false (by simp [mNone, zh12])
    · refine V_aload_n C dX8_run_15 rfl 1 rfl ?_
      refine V_get (v := .int (gi u 6)) C dX8_run_16 hi8 0 rfl rfl 6 (by decide) (List.mem_of_getElem? (i := 1) rfl) rfl rfl ?_
      refine V_if_eq (tgt := 29) C dX8_run_19 (by decide) (fun zh19 => ?_) (fun zh19 => ?_)
      · refine V_iconst (v := 1) C dX8_run_29 (by decide) ?_
        refine V_goto (tgt := 34) C dX8_run_30 (by decide) ?_
        refine V_sub [0, 1, 2] rfl ?_
        exact zj34 true (by simp [mNone, zh12, zh19])
      · refine V_aload_n C dX8_run_22 rfl 1 rfl ?_
        refine V_get (v := .int (b2i (gb u 30))) C dX8_run_23 hi8 0 rfl rfl 30 (by decide) (List.mem_of_getElem? (i := 2) rfl) rfl rfl ?_
        refine V_ifz_eq (tgt := 33) C dX8_run_26 (by decide) (fun zh26 => ?_) (fun zh26 => ?_)
        · refine V_iconst (v := 0) C dX8_run_33 (by decide) ?_
          refine V_sub [0, 1, 2] rfl ?_
          exact zj34 false (by simp [mNone, zh12, zh19, zh26])
        · refine V_iconst (v := 1) C dX8_run_29 (by decide) ?_
          refine V_goto (tgt := 34) C dX8_run_30 (by decide) ?_
          refine V_sub [0, 1, 2] rfl ?_
          exact zj34 true (by simp [mNone, zh12, zh19, zh26])
  intro xn e_xn
  refine V_calliV C dX8_run_34 0 rfl rfl (c_X8_throwing l D K h u (mOut xb 1 500) xn ) gX8_run_X8_throwing rfl 2 rfl (by decide +kernel) (by decide) ⟨Nat.le_of_ble_eq_true rfl, Nat.le_of_ble_eq_true rfl⟩ rfl (Nat.le_of_ble_eq_true rfl) (det2 ?_)
  refine V_ifz_eq (tgt := 42) C dX8_run_37 (by decide) (fun zh37 => ?_) (fun zh37 => ?_)
  · have zb := Bool.or_eq_false_iff.mp zh37
    refine V_ws (ws' := mw K h (si u 0 0)) (by rw [zb.1, zb.2]; rfl) ?_
    have zb1 := mOut_f zb.1
    have z1 : (1 : Int32).toInt = 1 := by decide
    have z5 : (500 : Int32).toInt = 500 := by decide
    have zB : xb = nI (tn xb) := nI_tn (by omega)
    have zB2 : tn xb ≤ 500 := by have := tn_toInt (x := xb) (by omega); omega
    have zJ : J (si u 0 0) := hu xn e_xn zb.1 zb.2
    have hfi : mRunL (tn xb) (si u 0 0) = mRunL (tn xb) (si u 0 0) := rfl
    generalize hFF : mRunL (tn xb) (si u 0 0) = FIN at hfi
    refine V_iconst (v := (-1)) C dX8_run_42 (by decide) ?_
    refine V_istore_n (lv' := [(3, .int (-1)), (2, .int (b2i (mOut xb 1 500))), (0, .ref (h 0)), (1, .int xb)]) C dX8_run_43 rfl (by decide) rfl ?_
    refine V_iconst (v := 0) C dX8_run_44 (by decide) ?_
    refine V_istore (lv' := [(4, .int 0), (3, .int (-1)), (2, .int (b2i (mOut xb 1 500))), (0, .ref (h 0)), (1, .int xb)]) C dX8_run_45 (by decide) rfl ?_
    suffices zx : V X 0 0 (mw K h FIN.2) 79 [(3, .int FIN.1), (0, .ref (h 0)), (1, .int xb)] [] by
      have zl : ∀ (f j : Nat) (v : MS) (e : Int32), j + f = tn xb → e < 0 → J v → mRunL f v = FIN → V X 0 0 (mw K h v) 47 [(4, .int (nI j)), (3, .int e), (2, .int (b2i (mOut xb 1 500))), (0, .ref (h 0)), (1, .int xb)] [] := by
        intro f
        induction f with
        | zero =>
          intro j v e hj he hv hF
          refine V_iload_n C dX8_run_47 rfl 1 rfl ?_
          refine V_if_ge (tgt := 79) C dX8_run_48 (by decide) (fun zh48 => ?_) (fun zh48 => ?_)
          · exact absurd he (Int32.not_lt.mpr zh48)
          · refine V_iload C dX8_run_51 0 rfl ?_
            refine V_iload_n C dX8_run_53 rfl 4 rfl ?_
            refine V_icmp_ne (tgt := 61) C dX8_run_54 (by decide) (fun zh54 => ?_) (fun zh54 => ?_)
            · exact absurd (by rw [zB, show j = tn xb by omega]) zh54
            · refine V_iconst (v := 5) C dX8_run_57 (by decide) ?_
              refine V_goto (tgt := 72) C dX8_run_58 (by decide) ?_
              refine V_istore_n (lv' := [(3, .int 5), (4, .int (nI j)), (2, .int (b2i (mOut xb 1 500))), (0, .ref (h 0)), (1, .int xb)]) C dX8_run_72 rfl (by decide) rfl ?_
              refine V_iinc (lv' := [(4, .int (nI (j + 1))), (3, .int 5), (2, .int (b2i (mOut xb 1 500))), (0, .ref (h 0)), (1, .int xb)]) C dX8_run_73 (j := 1) rfl (nI_1 _) (by decide) rfl ?_
              refine V_goto (tgt := 47) C dX8_run_76 (by decide) ?_
              refine V_iload_n C dX8_run_47 rfl 1 rfl ?_
              refine V_if_ge (tgt := 79) C dX8_run_48 (by decide) (fun zh48 => ?_) (fun zh48 => ?_)
              · rw [← hF] at zx
                exact V_sub [1, 3, 4] rfl zx
              · exact absurd zh48 (by decide)
        | succ f ih =>
          intro j v e hj he hv hF
          refine V_iload_n C dX8_run_47 rfl 1 rfl ?_
          refine V_if_ge (tgt := 79) C dX8_run_48 (by decide) (fun zh48 => ?_) (fun zh48 => ?_)
          · exact absurd he (Int32.not_lt.mpr zh48)
          · refine V_iload C dX8_run_51 0 rfl ?_
            refine V_iload_n C dX8_run_53 rfl 4 rfl ?_
            refine V_icmp_ne (tgt := 61) C dX8_run_54 (by decide) (fun zh54 => ?_) (fun zh54 => ?_)
            · refine V_aload_n C dX8_run_61 rfl 3 rfl ?_
              refine V_bipush (v := 40) C dX8_run_62 (by decide) ?_
              refine V_aload_n C dX8_run_64 rfl 3 rfl ?_
              refine V_get (v := .int (gi v 27)) C dX8_run_65 hi8 0 rfl rfl 27 (by decide) (List.mem_of_getElem? (i := 3) rfl) rfl rfl ?_
              refine V_iadd C dX8_run_68 ?_
              rw [show 40 + gi v 27 = nI (mN v) from (hJ v hv).1.1]
              refine V_calliV C dX8_run_69 0 rfl rfl (c_X8_step l D K h v (mN v) (hJ v hv).1.2.1 (hJ v hv).1.2.2.1 (hJ v hv).1.2.2.2) gX8_run_X8_step rfl 1 rfl (by decide +kernel) (by decide) ⟨Nat.le_of_ble_eq_true rfl, Nat.le_of_ble_eq_true rfl⟩ rfl (Nat.le_of_ble_eq_true rfl) (det2 ?_)
              refine V_istore_n (lv' := [(3, .int (mStep v (mN v)).1), (4, .int (nI j)), (2, .int (b2i (mOut xb 1 500))), (0, .ref (h 0)), (1, .int xb)]) C dX8_run_72 rfl (by decide) rfl ?_
              refine V_iinc (lv' := [(4, .int (nI (j + 1))), (3, .int (mStep v (mN v)).1), (2, .int (b2i (mOut xb 1 500))), (0, .ref (h 0)), (1, .int xb)]) C dX8_run_73 (j := 1) rfl (nI_1 _) (by decide) rfl ?_
              refine V_goto (tgt := 47) C dX8_run_76 (by decide) ?_
              by_cases zr : (mStep v (mN v)).1 < 0
              · rw [mRunL, if_pos zr] at hF
                exact V_sub [0, 1, 2, 3, 4] rfl (ih (j + 1) _ _ (by omega) zr ((hJ v hv).2 zr) hF)
              rw [mRunL, if_neg zr] at hF
              refine V_iload_n C dX8_run_47 rfl 1 rfl ?_
              refine V_if_ge (tgt := 79) C dX8_run_48 (by decide) (fun zh48 => ?_) (fun zh48 => ?_)
              · rw [← hF] at zx
                exact V_sub [1, 3, 4] rfl zx
              · exact absurd (Int32.not_le.mp zh48) zr
            · exact absurd (show j = tn xb from (nI_eq (by omega) (by omega)).mp (zh54.trans zB)) (by omega)
      exact V_sub [0, 1, 2, 3, 4] rfl (zl (tn xb) 0 (si u 0 0) (-1) (by omega) (by decide) zJ hFF)
    refine V_aload_n C dX8_run_79 rfl 1 rfl ?_
    suffices zj89 : ∀ xo : Bool, xo = (decide (FIN.1 = 0)) → V X 0 0 (mw K h FIN.2) 89 [(3, .int FIN.1), (0, .ref (h 0)), (1, .int xb)] [.int (b2i xo), .ref (h 0)] by
      refine V_iload_n C dX8_run_80 rfl 0 rfl ?_
      refine V_if_ne (tgt := 88) C dX8_run_81 (by decide) (fun zh81 => ?_) (fun zh81 => ?_)
      · refine V_iconst (v := 0) C dX8_run_88 (by decide) ?_
        refine V_sub [0, 1, 2] rfl ?_
        exact zj89 false (by first | rfl | (simp (decide := true) [b2i, gi_si, ga_si, gz_si, gl_si, gb_si, mPl_si, mGet_si, mNat_si, mSlot_si, mBy_si, mThr, zh37, zh81]; done) | (simp (decide := true) [b2i, gi_si, ga_si, gz_si, gl_si, gb_si, mPl_si, mGet_si, mNat_si, mSlot_si, mBy_si, mThr, zh37, zh81]; rfl) | (simp_all (decide := true) [b2i, gi_si, ga_si, gz_si, gl_si, gb_si, mPl_si, mGet_si, mNat_si, mSlot_si, mBy_si, mThr]; done))
      · refine V_iconst (v := 1) C dX8_run_84 (by decide) ?_
        refine V_goto (tgt := 89) C dX8_run_85 (by decide) ?_
        refine V_sub [0, 1, 2] rfl ?_
        exact zj89 true (by first | rfl | (simp (decide := true) [b2i, gi_si, ga_si, gz_si, gl_si, gb_si, mPl_si, mGet_si, mNat_si, mSlot_si, mBy_si, mThr, zh37, zh81]; done) | (simp (decide := true) [b2i, gi_si, ga_si, gz_si, gl_si, gb_si, mPl_si, mGet_si, mNat_si, mSlot_si, mBy_si, mThr, zh37, zh81]; rfl) | (simp_all (decide := true) [b2i, gi_si, ga_si, gz_si, gl_si, gb_si, mPl_si, mGet_si, mNat_si, mSlot_si, mBy_si, mThr]; done))
    intro xo e_xo
    refine V_put (ws' := (mw K h (sb FIN.2 30 xo))) C dX8_run_89 hi8 tyX8_ok nmX8 0 rfl rfl 30 (by decide) (List.mem_of_getElem? (i := 2) rfl) rfl rfl rfl (nar_b2i _) (fit_b2i _) (Nat.le_of_ble_eq_true rfl) (ms_30 K h FIN.2 xo) ?_
    refine V_iload_n C dX8_run_92 rfl 0 rfl ?_
    exact E FIN.1 (sb FIN.2 30 xo) _ _ dX8_run_93 rfl ⟨by rw [← e_xn, if_neg (by rw [zh37]; decide)]; exact (congrArg Prod.fst hFF).symm, by rw [← e_xn, if_neg (by rw [zh37]; decide), hFF, e_xo]⟩
  · refine V_iconst (v := 0) C dX8_run_40 (by decide) ?_
    exact E 0 (si u 0 (mThr (mOut xb 1 500) xn)) _ _ dX8_run_41 rfl ⟨by rw [← e_xn, if_pos zh37], by rw [← e_xn, if_pos zh37]⟩

