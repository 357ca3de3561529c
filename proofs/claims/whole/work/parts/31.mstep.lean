abbrev tn (x : Int32) : Nat := x.toNatClampNeg
def mMiss (u : MS) (o a b c : Int32) : Bool := ((mRd o 0 || mWr o 0) && mBy u a) || ((mRd o 1 || mWr o 1) && mBy u b) || ((mRd o 2 || mWr o 2) && mBy u c)
def mFrm (u : MS) (a b c : Int32) : MS := sa (sa (sa u 25 1 a) 25 2 b) 25 3 c
def mStep5 (u : MS) (o a b c : Int32) : Int32 × MS :=
  if o = 20 then (0, u) else
  if 8 ≤ o ∧ o ≤ 12 then mMemory u o a b else
  if o = 16 then (if gi u 26 = 0 then (0, u) else (-1, mBack u (tn (gi u 26)) (tn (ga u 25 (6 * tn (gi u 26) + 0))) (tn (ga u 25 (6 * tn (gi u 26) + 1))) (tn (gi u 22)) (tn (gi u 21)))) else
  if o = 15 then (if gi u 26 = 40 then (4, u) else (-1, mCallU u (tn (gi u 26)) a)) else
  if o = 17 then (if 120 < ga u 25 0 + a then (4, u) else (-1, si (mReach (mFrm u a b c) (tn (gi u 22)) (tn (ga u 25 0) + tn a) (tn (gi u 21))) 27 (gi u 27 + 1))) else
  if 0 < o ∧ o ≤ 7 then (-1, si (mReck u o a b c) 27 (gi u 27 + 1)) else
  if o = 13 then (-1, si u 27 (if mNat u a = true then b else gi u 27 + 1)) else
  if o = 14 then (-1, si u 27 a) else
  if o = 19 then (-1, si (mTurnU u) 27 (mTurnR u a)) else
  if o = 18 then (-1, si (si (si u 28 a) 29 b) 27 (gi u 27 + 1)) else
  (-1, si u 27 (gi u 27 + 1))
def mStep (u : MS) (n : Nat) : Int32 × MS := if gz u 20 (mSlot u (ga u 2 n)).toNatClampNeg = false then (-1, mInc u) else if mMiss u (ga u 1 n) (ga u 3 (3 * n)) (ga u 3 (3 * n + 1)) (ga u 3 (3 * n + 2)) = true then (1, u) else mStep5 u (ga u 1 n) (ga u 3 (3 * n)) (ga u 3 (3 * n + 1)) (ga u 3 (3 * n + 2))
theorem mStep_q {u : MS} {n : Nat} (h : gz u 20 (mSlot u (ga u 2 n)).toNatClampNeg = false) : mStep u n = (-1, mInc u) := by unfold mStep; rw [if_pos h]
theorem mStep_m {u : MS} {n : Nat} (h : gz u 20 (mSlot u (ga u 2 n)).toNatClampNeg = true) (h2 : mMiss u (ga u 1 n) (ga u 3 (3 * n)) (ga u 3 (3 * n + 1)) (ga u 3 (3 * n + 2)) = true) : mStep u n = (1, u) := by unfold mStep; rw [if_neg (by rw [h]; decide), if_pos h2]
theorem mStep_5 {u : MS} {n : Nat} (h : gz u 20 (mSlot u (ga u 2 n)).toNatClampNeg = true) (h2 : mMiss u (ga u 1 n) (ga u 3 (3 * n)) (ga u 3 (3 * n + 1)) (ga u 3 (3 * n + 2)) = false) : mStep u n = mStep5 u (ga u 1 n) (ga u 3 (3 * n)) (ga u 3 (3 * n + 1)) (ga u 3 (3 * n + 2)) := by unfold mStep; rw [if_neg (by rw [h]; decide), if_neg (by rw [h2]; decide)]
/-- what a step needs, when it names no register beyond the frame -/
def mPre (u : MS) (o a b c : Int32) : Prop :=
  (8 ≤ o → o ≤ 12 → mOk u a ∧ mOk u b) ∧
  (0 < o → o ≤ 7 → (o = 1 ∨ o < 6 → mOk u a) ∧ (¬ o = 1 → mOk u b) ∧ (¬ o = 1 → mOk u c) ∧ (6 ≤ o → vp_in (mSlot u a) 16 ∧ vp_in (mSlot u (a + 1)) 16)) ∧
  (o = 13 → mOk u a) ∧
  (o = 19 → ∀ v : Int32, (v = 15 ∨ v = ga u 25 4 - 1) → vp_in (mSlot (sa u 25 4 v) 8) 16) ∧
  (gi u 26 = nI (tn (gi u 26)) ∧ tn (gi u 26) ≤ 40) ∧
  (o = 16 → (¬ gi u 26 = 0 → ga u 25 (6 * tn (gi u 26) + 0) = nI (tn (ga u 25 (6 * tn (gi u 26) + 0)))) ∧ (¬ gi u 26 = 0 → ga u 25 (6 * tn (gi u 26) + 1) = nI (tn (ga u 25 (6 * tn (gi u 26) + 1)))) ∧ tn (ga u 25 (6 * tn (gi u 26) + 0)) + tn (ga u 25 (6 * tn (gi u 26) + 1)) ≤ 120) ∧
  (gi u 22 = nI (tn (gi u 22)) ∧ gi u 21 = nI (tn (gi u 21)) ∧ tn (gi u 22) ≤ 120 ∧ tn (gi u 21) ≤ 120) ∧
  (o = 17 → ¬ 120 < ga u 25 0 + a → ga u 25 0 + a = nI (tn (ga u 25 0) + tn a) ∧ tn (ga u 25 0) + tn a ≤ 120 ∧ tn (gi u 21) ≤ tn (ga u 25 0) + tn a)
set_option maxHeartbeats 4000000 in
set_option maxRecDepth 100000 in
theorem c_X8_step (l : Launch) (D : va_G) (K : Nat → ClassId) (h : Nat → Nat) (u : MS) (n : Nat) (hn2 : n < 80) (hq : vp_in (mSlot u (ga u 2 n)) 16) (hs : mMiss u (ga u 1 n) (ga u 3 (3 * n)) (ga u 3 (3 * n + 1)) (ga u 3 (3 * n + 2)) = false → mPre u (ga u 1 n) (ga u 3 (3 * n)) (ga u 3 (3 * n + 1)) (ga u 3 (3 * n + 2))) : vMi l D vwCl (tys0 K) yX8_step wsX8_step ({ frames := 3, cells := 0, slots := 0, locals := 76 } : Room) [.ref (h 0), .int (nI n)] (mw K h u) (mw K h) (fun r9 u9 => r9 = (mStep u n).1 ∧ u9 = (mStep u n).2) := by
  refine vMi_of (cc := cX8_step) (nL := 7) (rt := .int) (by decide) rfl (Nat.le_of_ble_eq_true rfl) ?_
  intro X C E
  show V X 0 0 (mw K h u) 0 [(0, .ref (h 0)), (1, .int (nI n))] []
  have hi8 : ∀ w ∈ wsX80, w ∈ wsX8_step := fun _ h => List.mem_cons_of_mem _ (List.mem_append_right _ h)
  refine V_aload_n C dX8_step_0 rfl 0 rfl ?_
  refine V_get (v := .ref (h 21)) C dX8_step_1 hi8 0 rfl rfl 20 (by decide) (List.mem_of_getElem? (i := 1) rfl) rfl rfl ?_
  refine V_aload_n C dX8_step_4 rfl 0 rfl ?_
  refine V_aload_n C dX8_step_5 rfl 0 rfl ?_
  refine V_get (v := .ref (h 3)) C dX8_step_6 hi8 0 rfl rfl 2 (by decide) (List.mem_of_getElem? (i := 2) rfl) rfl rfl ?_
  refine V_iload_n C dX8_step_9 rfl 1 rfl ?_
  refine V_ialdn (v := (ga u 2 (n))) C dX8_step_10 2 0 rfl rfl (n) (nI_clamp (by omega)) (vp_in_nI (by omega) (by omega)) rfl ?_
  refine V_calliV C dX8_step_11 0 rfl rfl (c_X8_slot l D K h u (ga u 2 (n)) ) gX8_step_X8_slot rfl 1 rfl (by decide +kernel) (by decide) ⟨Nat.le_of_ble_eq_true rfl, Nat.le_of_ble_eq_true rfl⟩ rfl (Nat.le_of_ble_eq_true rfl) (det2 ?_)
  refine V_zaldn (v := (b2i (gz u 20 (mSlot u (ga u 2 (n))).toNatClampNeg))) C dX8_step_14 12 2 rfl rfl ((mSlot u (ga u 2 (n))).toNatClampNeg) rfl (hq) rfl ?_
  refine V_ifz_ne (tgt := 30) C dX8_step_15 (by decide) (fun zh15 => ?_) (fun zh15 => ?_)
  · refine V_aload_n C dX8_step_30 rfl 0 rfl ?_
    refine V_get (v := .ref (h 2)) C dX8_step_31 hi8 0 rfl rfl 1 (by decide) (List.mem_of_getElem? (i := 4) rfl) rfl rfl ?_
    refine V_iload_n C dX8_step_34 rfl 1 rfl ?_
    refine V_ialdn (v := (ga u 1 (n))) C dX8_step_35 1 0 rfl rfl (n) (nI_clamp (by omega)) (vp_in_nI (by omega) (by omega)) rfl ?_
    refine V_istore_n (lv' := [(2, .int (ga u 1 (n))), (0, .ref (h 0)), (1, .int (nI n))]) C dX8_step_36 rfl (by decide) rfl ?_
    refine V_iconst (v := 0) C dX8_step_37 (by decide) ?_
    refine V_istore_n (lv' := [(3, .int 0), (2, .int (ga u 1 (n))), (0, .ref (h 0)), (1, .int (nI n))]) C dX8_step_38 rfl (by decide) rfl ?_
    refine V_iload_n C dX8_step_39 rfl 0 rfl ?_
    refine V_iconst (v := 3) C dX8_step_40 (by decide) ?_
    refine V_icmp_ge (tgt := 85) C dX8_step_41 (by decide) (fun zh41 => ?_) (fun zh41 => ?_)
    · exact absurd zh41 (by decide)
    · suffices zj79 : (((mRd (ga u 1 n) 0 || mWr (ga u 1 n) 0) && mBy u (ga u 3 (3 * n))) = false) → V X 0 0 (mw K h u) 79 [(3, .int 0), (2, .int (ga u 1 (n))), (0, .ref (h 0)), (1, .int (nI n))] [] by
        refine V_iload_n C dX8_step_44 rfl 1 rfl ?_
        refine V_iload_n C dX8_step_45 rfl 0 rfl ?_
        refine V_calliS C dX8_step_46 (c_X8_isRead l D K (mw K h u) (ga u 1 (n)) 0) gX8_step_X8_isRead rfl 2 rfl (by decide +kernel) (by decide) ⟨Nat.le_of_ble_eq_true rfl, Nat.le_of_ble_eq_true rfl⟩ rfl (Nat.le_of_ble_eq_true rfl) (det0 ?_)
        refine V_ifz_ne (tgt := 60) C dX8_step_49 (by decide) (fun zh49 => ?_) (fun zh49 => ?_)
        · refine V_aload_n C dX8_step_60 rfl 2 rfl ?_
          refine V_aload_n C dX8_step_61 rfl 2 rfl ?_
          refine V_get (v := .ref (h 4)) C dX8_step_62 hi8 0 rfl rfl 3 (by decide) (List.mem_of_getElem? (i := 5) rfl) rfl rfl ?_
          refine V_iconst (v := 3) C dX8_step_65 (by decide) ?_
          refine V_iload_n C dX8_step_66 rfl 3 rfl ?_
          refine V_imul C dX8_step_67 ?_
          refine V_iload_n C dX8_step_68 rfl 0 rfl ?_
          refine V_iadd C dX8_step_69 ?_
          refine V_ialdn (v := (ga u 3 (3 * n))) C dX8_step_70 3 0 rfl rfl (3 * n) (ix3 n rfl 0 0 rfl (by omega)).1 ((ix3 n rfl 0 0 rfl (by omega)).2) rfl ?_
          refine V_calliV C dX8_step_71 0 rfl rfl (c_X8_isBeyond l D K h u (ga u 3 (3 * n)) ) gX8_step_X8_isBeyond rfl 1 rfl (by decide +kernel) (by decide) ⟨Nat.le_of_ble_eq_true rfl, Nat.le_of_ble_eq_true rfl⟩ rfl (Nat.le_of_ble_eq_true rfl) (det2 ?_)
          refine V_ifz_eq (tgt := 79) C dX8_step_74 (by decide) (fun zh74 => ?_) (fun zh74 => ?_)
          · refine V_sub [0, 1, 2, 3] rfl ?_
            exact zj79 (by simp [zh15, zh49, zh74])
          · refine V_iconst (v := 1) C dX8_step_77 (by decide) ?_
            exact E 1 u _ _ dX8_step_78 rfl ⟨by rw [mStep_m zh15 (by simp [mMiss, zh49, zh74])], by rw [mStep_m zh15 (by simp [mMiss, zh49, zh74])]⟩
        · refine V_iload_n C dX8_step_52 rfl 1 rfl ?_
          refine V_iload_n C dX8_step_53 rfl 0 rfl ?_
          refine V_calliS C dX8_step_54 (c_X8_isWritten l D K (mw K h u) (ga u 1 (n)) 0) gX8_step_X8_isWritten rfl 2 rfl (by decide +kernel) (by decide) ⟨Nat.le_of_ble_eq_true rfl, Nat.le_of_ble_eq_true rfl⟩ rfl (Nat.le_of_ble_eq_true rfl) (det0 ?_)
          refine V_ifz_eq (tgt := 79) C dX8_step_57 (by decide) (fun zh57 => ?_) (fun zh57 => ?_)
          · refine V_sub [0, 1, 2, 3] rfl ?_
            exact zj79 (by simp [zh15, zh49, zh57])
          · refine V_aload_n C dX8_step_60 rfl 2 rfl ?_
            refine V_aload_n C dX8_step_61 rfl 2 rfl ?_
            refine V_get (v := .ref (h 4)) C dX8_step_62 hi8 0 rfl rfl 3 (by decide) (List.mem_of_getElem? (i := 5) rfl) rfl rfl ?_
            refine V_iconst (v := 3) C dX8_step_65 (by decide) ?_
            refine V_iload_n C dX8_step_66 rfl 3 rfl ?_
            refine V_imul C dX8_step_67 ?_
            refine V_iload_n C dX8_step_68 rfl 0 rfl ?_
            refine V_iadd C dX8_step_69 ?_
            refine V_ialdn (v := (ga u 3 (3 * n))) C dX8_step_70 3 0 rfl rfl (3 * n) (ix3 n rfl 0 0 rfl (by omega)).1 ((ix3 n rfl 0 0 rfl (by omega)).2) rfl ?_
            refine V_calliV C dX8_step_71 0 rfl rfl (c_X8_isBeyond l D K h u (ga u 3 (3 * n)) ) gX8_step_X8_isBeyond rfl 1 rfl (by decide +kernel) (by decide) ⟨Nat.le_of_ble_eq_true rfl, Nat.le_of_ble_eq_true rfl⟩ rfl (Nat.le_of_ble_eq_true rfl) (det2 ?_)
            refine V_ifz_eq (tgt := 79) C dX8_step_74 (by decide) (fun zh74 => ?_) (fun zh74 => ?_)
            · refine V_sub [0, 1, 2, 3] rfl ?_
              exact zj79 (by simp [zh15, zh49, zh57, zh74])
            · refine V_iconst (v := 1) C dX8_step_77 (by decide) ?_
              exact E 1 u _ _ dX8_step_78 rfl ⟨by rw [mStep_m zh15 (by simp [mMiss, zh49, zh57, zh74])], by rw [mStep_m zh15 (by simp [mMiss, zh49, zh57, zh74])]⟩
      intro zp0
      refine V_iinc (lv' := [(3, .int 1), (2, .int (ga u 1 (n))), (0, .ref (h 0)), (1, .int (nI n))]) C dX8_step_79 (j := 0) rfl (by decide) (by decide) rfl ?_
      refine V_goto (tgt := 39) C dX8_step_82 (by decide) ?_
      refine V_iload_n C dX8_step_39 rfl 0 rfl ?_
      refine V_iconst (v := 3) C dX8_step_40 (by decide) ?_
      refine V_icmp_ge (tgt := 85) C dX8_step_41 (by decide) (fun zh41 => ?_) (fun zh41 => ?_)
      · exact absurd zh41 (by decide)
      · suffices zj79 : (((mRd (ga u 1 n) 1 || mWr (ga u 1 n) 1) && mBy u (ga u 3 (3 * n + 1))) = false) → V X 0 0 (mw K h u) 79 [(3, .int 1), (2, .int (ga u 1 (n))), (0, .ref (h 0)), (1, .int (nI n))] [] by
          refine V_iload_n C dX8_step_44 rfl 1 rfl ?_
          refine V_iload_n C dX8_step_45 rfl 0 rfl ?_
          refine V_calliS C dX8_step_46 (c_X8_isRead l D K (mw K h u) (ga u 1 (n)) 1) gX8_step_X8_isRead rfl 2 rfl (by decide +kernel) (by decide) ⟨Nat.le_of_ble_eq_true rfl, Nat.le_of_ble_eq_true rfl⟩ rfl (Nat.le_of_ble_eq_true rfl) (det0 ?_)
          refine V_ifz_ne (tgt := 60) C dX8_step_49 (by decide) (fun zh49 => ?_) (fun zh49 => ?_)
          · refine V_aload_n C dX8_step_60 rfl 2 rfl ?_
            refine V_aload_n C dX8_step_61 rfl 2 rfl ?_
            refine V_get (v := .ref (h 4)) C dX8_step_62 hi8 0 rfl rfl 3 (by decide) (List.mem_of_getElem? (i := 5) rfl) rfl rfl ?_
            refine V_iconst (v := 3) C dX8_step_65 (by decide) ?_
            refine V_iload_n C dX8_step_66 rfl 3 rfl ?_
            refine V_imul C dX8_step_67 ?_
            refine V_iload_n C dX8_step_68 rfl 0 rfl ?_
            refine V_iadd C dX8_step_69 ?_
            refine V_ialdn (v := (ga u 3 (3 * n + 1))) C dX8_step_70 3 0 rfl rfl (3 * n + 1) (ix3 n rfl 1 1 rfl (by omega)).1 ((ix3 n rfl 1 1 rfl (by omega)).2) rfl ?_
            refine V_calliV C dX8_step_71 0 rfl rfl (c_X8_isBeyond l D K h u (ga u 3 (3 * n + 1)) ) gX8_step_X8_isBeyond rfl 1 rfl (by decide +kernel) (by decide) ⟨Nat.le_of_ble_eq_true rfl, Nat.le_of_ble_eq_true rfl⟩ rfl (Nat.le_of_ble_eq_true rfl) (det2 ?_)
            refine V_ifz_eq (tgt := 79) C dX8_step_74 (by decide) (fun zh74 => ?_) (fun zh74 => ?_)
            · refine V_sub [0, 1, 2, 3] rfl ?_
              exact zj79 (by simp [zh15, zp0, zh49, zh74])
            · refine V_iconst (v := 1) C dX8_step_77 (by decide) ?_
              exact E 1 u _ _ dX8_step_78 rfl ⟨by rw [mStep_m zh15 (by simp [mMiss, zp0, zh49, zh74])], by rw [mStep_m zh15 (by simp [mMiss, zp0, zh49, zh74])]⟩
          · refine V_iload_n C dX8_step_52 rfl 1 rfl ?_
            refine V_iload_n C dX8_step_53 rfl 0 rfl ?_
            refine V_calliS C dX8_step_54 (c_X8_isWritten l D K (mw K h u) (ga u 1 (n)) 1) gX8_step_X8_isWritten rfl 2 rfl (by decide +kernel) (by decide) ⟨Nat.le_of_ble_eq_true rfl, Nat.le_of_ble_eq_true rfl⟩ rfl (Nat.le_of_ble_eq_true rfl) (det0 ?_)
            refine V_ifz_eq (tgt := 79) C dX8_step_57 (by decide) (fun zh57 => ?_) (fun zh57 => ?_)
            · refine V_sub [0, 1, 2, 3] rfl ?_
              exact zj79 (by simp [zh15, zp0, zh49, zh57])
            · refine V_aload_n C dX8_step_60 rfl 2 rfl ?_
              refine V_aload_n C dX8_step_61 rfl 2 rfl ?_
              refine V_get (v := .ref (h 4)) C dX8_step_62 hi8 0 rfl rfl 3 (by decide) (List.mem_of_getElem? (i := 5) rfl) rfl rfl ?_
              refine V_iconst (v := 3) C dX8_step_65 (by decide) ?_
              refine V_iload_n C dX8_step_66 rfl 3 rfl ?_
              refine V_imul C dX8_step_67 ?_
              refine V_iload_n C dX8_step_68 rfl 0 rfl ?_
              refine V_iadd C dX8_step_69 ?_
              refine V_ialdn (v := (ga u 3 (3 * n + 1))) C dX8_step_70 3 0 rfl rfl (3 * n + 1) (ix3 n rfl 1 1 rfl (by omega)).1 ((ix3 n rfl 1 1 rfl (by omega)).2) rfl ?_
              refine V_calliV C dX8_step_71 0 rfl rfl (c_X8_isBeyond l D K h u (ga u 3 (3 * n + 1)) ) gX8_step_X8_isBeyond rfl 1 rfl (by decide +kernel) (by decide) ⟨Nat.le_of_ble_eq_true rfl, Nat.le_of_ble_eq_true rfl⟩ rfl (Nat.le_of_ble_eq_true rfl) (det2 ?_)
              refine V_ifz_eq (tgt := 79) C dX8_step_74 (by decide) (fun zh74 => ?_) (fun zh74 => ?_)
              · refine V_sub [0, 1, 2, 3] rfl ?_
                exact zj79 (by simp [zh15, zp0, zh49, zh57, zh74])
              · refine V_iconst (v := 1) C dX8_step_77 (by decide) ?_
                exact E 1 u _ _ dX8_step_78 rfl ⟨by rw [mStep_m zh15 (by simp [mMiss, zp0, zh49, zh57, zh74])], by rw [mStep_m zh15 (by simp [mMiss, zp0, zh49, zh57, zh74])]⟩
        intro zp1
        refine V_iinc (lv' := [(3, .int 2), (2, .int (ga u 1 (n))), (0, .ref (h 0)), (1, .int (nI n))]) C dX8_step_79 (j := 0) rfl (by decide) (by decide) rfl ?_
        refine V_goto (tgt := 39) C dX8_step_82 (by decide) ?_
        refine V_iload_n C dX8_step_39 rfl 0 rfl ?_
        refine V_iconst (v := 3) C dX8_step_40 (by decide) ?_
        refine V_icmp_ge (tgt := 85) C dX8_step_41 (by decide) (fun zh41 => ?_) (fun zh41 => ?_)
        · exact absurd zh41 (by decide)
        · suffices zj79 : (((mRd (ga u 1 n) 2 || mWr (ga u 1 n) 2) && mBy u (ga u 3 (3 * n + 2))) = false) → V X 0 0 (mw K h u) 79 [(3, .int 2), (2, .int (ga u 1 (n))), (0, .ref (h 0)), (1, .int (nI n))] [] by
            refine V_iload_n C dX8_step_44 rfl 1 rfl ?_
            refine V_iload_n C dX8_step_45 rfl 0 rfl ?_
            refine V_calliS C dX8_step_46 (c_X8_isRead l D K (mw K h u) (ga u 1 (n)) 2) gX8_step_X8_isRead rfl 2 rfl (by decide +kernel) (by decide) ⟨Nat.le_of_ble_eq_true rfl, Nat.le_of_ble_eq_true rfl⟩ rfl (Nat.le_of_ble_eq_true rfl) (det0 ?_)
            refine V_ifz_ne (tgt := 60) C dX8_step_49 (by decide) (fun zh49 => ?_) (fun zh49 => ?_)
            · refine V_aload_n C dX8_step_60 rfl 2 rfl ?_
              refine V_aload_n C dX8_step_61 rfl 2 rfl ?_
              refine V_get (v := .ref (h 4)) C dX8_step_62 hi8 0 rfl rfl 3 (by decide) (List.mem_of_getElem? (i := 5) rfl) rfl rfl ?_
              refine V_iconst (v := 3) C dX8_step_65 (by decide) ?_
              refine V_iload_n C dX8_step_66 rfl 3 rfl ?_
              refine V_imul C dX8_step_67 ?_
              refine V_iload_n C dX8_step_68 rfl 0 rfl ?_
              refine V_iadd C dX8_step_69 ?_
              refine V_ialdn (v := (ga u 3 (3 * n + 2))) C dX8_step_70 3 0 rfl rfl (3 * n + 2) (ix3 n rfl 2 2 rfl (by omega)).1 ((ix3 n rfl 2 2 rfl (by omega)).2) rfl ?_
              refine V_calliV C dX8_step_71 0 rfl rfl (c_X8_isBeyond l D K h u (ga u 3 (3 * n + 2)) ) gX8_step_X8_isBeyond rfl 1 rfl (by decide +kernel) (by decide) ⟨Nat.le_of_ble_eq_true rfl, Nat.le_of_ble_eq_true rfl⟩ rfl (Nat.le_of_ble_eq_true rfl) (det2 ?_)
              refine V_ifz_eq (tgt := 79) C dX8_step_74 (by decide) (fun zh74 => ?_) (fun zh74 => ?_)
              · refine V_sub [0, 1, 2, 3] rfl ?_
                exact zj79 (by simp [zh15, zp0, zp1, zh49, zh74])
              · refine V_iconst (v := 1) C dX8_step_77 (by decide) ?_
                exact E 1 u _ _ dX8_step_78 rfl ⟨by rw [mStep_m zh15 (by simp [mMiss, zp0, zp1, zh49, zh74])], by rw [mStep_m zh15 (by simp [mMiss, zp0, zp1, zh49, zh74])]⟩
            · refine V_iload_n C dX8_step_52 rfl 1 rfl ?_
              refine V_iload_n C dX8_step_53 rfl 0 rfl ?_
              refine V_calliS C dX8_step_54 (c_X8_isWritten l D K (mw K h u) (ga u 1 (n)) 2) gX8_step_X8_isWritten rfl 2 rfl (by decide +kernel) (by decide) ⟨Nat.le_of_ble_eq_true rfl, Nat.le_of_ble_eq_true rfl⟩ rfl (Nat.le_of_ble_eq_true rfl) (det0 ?_)
              refine V_ifz_eq (tgt := 79) C dX8_step_57 (by decide) (fun zh57 => ?_) (fun zh57 => ?_)
              · refine V_sub [0, 1, 2, 3] rfl ?_
                exact zj79 (by simp [zh15, zp0, zp1, zh49, zh57])
              · refine V_aload_n C dX8_step_60 rfl 2 rfl ?_
                refine V_aload_n C dX8_step_61 rfl 2 rfl ?_
                refine V_get (v := .ref (h 4)) C dX8_step_62 hi8 0 rfl rfl 3 (by decide) (List.mem_of_getElem? (i := 5) rfl) rfl rfl ?_
                refine V_iconst (v := 3) C dX8_step_65 (by decide) ?_
                refine V_iload_n C dX8_step_66 rfl 3 rfl ?_
                refine V_imul C dX8_step_67 ?_
                refine V_iload_n C dX8_step_68 rfl 0 rfl ?_
                refine V_iadd C dX8_step_69 ?_
                refine V_ialdn (v := (ga u 3 (3 * n + 2))) C dX8_step_70 3 0 rfl rfl (3 * n + 2) (ix3 n rfl 2 2 rfl (by omega)).1 ((ix3 n rfl 2 2 rfl (by omega)).2) rfl ?_
                refine V_calliV C dX8_step_71 0 rfl rfl (c_X8_isBeyond l D K h u (ga u 3 (3 * n + 2)) ) gX8_step_X8_isBeyond rfl 1 rfl (by decide +kernel) (by decide) ⟨Nat.le_of_ble_eq_true rfl, Nat.le_of_ble_eq_true rfl⟩ rfl (Nat.le_of_ble_eq_true rfl) (det2 ?_)
                refine V_ifz_eq (tgt := 79) C dX8_step_74 (by decide) (fun zh74 => ?_) (fun zh74 => ?_)
                · refine V_sub [0, 1, 2, 3] rfl ?_
                  exact zj79 (by simp [zh15, zp0, zp1, zh49, zh57, zh74])
                · refine V_iconst (v := 1) C dX8_step_77 (by decide) ?_
                  exact E 1 u _ _ dX8_step_78 rfl ⟨by rw [mStep_m zh15 (by simp [mMiss, zp0, zp1, zh49, zh57, zh74])], by rw [mStep_m zh15 (by simp [mMiss, zp0, zp1, zh49, zh57, zh74])]⟩
          intro zp2
          refine V_iinc (lv' := [(3, .int 3), (2, .int (ga u 1 (n))), (0, .ref (h 0)), (1, .int (nI n))]) C dX8_step_79 (j := 0) rfl (by decide) (by decide) rfl ?_
          refine V_goto (tgt := 39) C dX8_step_82 (by decide) ?_
          refine V_iload_n C dX8_step_39 rfl 0 rfl ?_
          refine V_iconst (v := 3) C dX8_step_40 (by decide) ?_
          refine V_icmp_ge (tgt := 85) C dX8_step_41 (by decide) (fun zh41 => ?_) (fun zh41 => ?_)
          · have zm : mMiss u (ga u 1 n) (ga u 3 (3 * n)) (ga u 3 (3 * n + 1)) (ga u 3 (3 * n + 2)) = false := by simp only [mMiss, zp0, zp1, zp2]; rfl
            have zst := mStep_5 zh15 zm
            obtain ⟨pM, pR, pC, pT, pK, pB, pH, pF⟩ := hs zm
            refine V_aload_n C dX8_step_85 rfl 2 rfl ?_
            refine V_get (v := .ref (h 4)) C dX8_step_86 hi8 0 rfl rfl 3 (by decide) (List.mem_of_getElem? (i := 5) rfl) rfl rfl ?_
            refine V_iconst (v := 3) C dX8_step_89 (by decide) ?_
            refine V_iload_n C dX8_step_90 rfl 3 rfl ?_
            refine V_imul C dX8_step_91 ?_
            refine V_ialdn (v := (ga u 3 (3 * n))) C dX8_step_92 3 0 rfl rfl (3 * n) (ix30 n rfl (by omega)).1 ((ix30 n rfl (by omega)).2) rfl ?_
            refine V_istore_n (lv' := [(3, .int (ga u 3 (3 * n))), (2, .int (ga u 1 (n))), (0, .ref (h 0)), (1, .int (nI n))]) C dX8_step_93 rfl (by decide) rfl ?_
            refine V_aload_n C dX8_step_94 rfl 2 rfl ?_
            refine V_get (v := .ref (h 4)) C dX8_step_95 hi8 0 rfl rfl 3 (by decide) (List.mem_of_getElem? (i := 5) rfl) rfl rfl ?_
            refine V_iconst (v := 3) C dX8_step_98 (by decide) ?_
            refine V_iload_n C dX8_step_99 rfl 3 rfl ?_
            refine V_imul C dX8_step_100 ?_
            refine V_iconst (v := 1) C dX8_step_101 (by decide) ?_
            refine V_iadd C dX8_step_102 ?_
            refine V_ialdn (v := (ga u 3 (3 * n + 1))) C dX8_step_103 3 0 rfl rfl (3 * n + 1) (ix3 n rfl 1 1 rfl (by omega)).1 ((ix3 n rfl 1 1 rfl (by omega)).2) rfl ?_
            refine V_istore (lv' := [(4, .int (ga u 3 (3 * n + 1))), (3, .int (ga u 3 (3 * n))), (2, .int (ga u 1 (n))), (0, .ref (h 0)), (1, .int (nI n))]) C dX8_step_104 (by decide) rfl ?_
            refine V_iload_n C dX8_step_106 rfl 2 rfl ?_
            refine V_bipush (v := 20) C dX8_step_107 (by decide) ?_
            refine V_icmp_ne (tgt := 114) C dX8_step_109 (by decide) (fun zh109 => ?_) (fun zh109 => ?_)
            · refine V_iload_n C dX8_step_114 rfl 2 rfl ?_
              refine V_bipush (v := 8) C dX8_step_115 (by decide) ?_
              refine V_icmp_lt (tgt := 135) C dX8_step_117 (by decide) (fun zh117 => ?_) (fun zh117 => ?_)
              · refine V_iload_n C dX8_step_135 rfl 2 rfl ?_
                refine V_bipush (v := 16) C dX8_step_136 (by decide) ?_
                refine V_icmp_ne (tgt := 146) C dX8_step_138 (by decide) (fun zh138 => ?_) (fun zh138 => ?_)
                · refine V_iload_n C dX8_step_146 rfl 2 rfl ?_
                  refine V_bipush (v := 15) C dX8_step_147 (by decide) ?_
                  refine V_icmp_ne (tgt := 158) C dX8_step_149 (by decide) (fun zh149 => ?_) (fun zh149 => ?_)
                  · refine V_iload_n C dX8_step_158 rfl 2 rfl ?_
                    refine V_bipush (v := 17) C dX8_step_159 (by decide) ?_
                    refine V_icmp_ne (tgt := 179) C dX8_step_161 (by decide) (fun zh161 => ?_) (fun zh161 => ?_)
                    · refine V_aload_n C dX8_step_179 rfl 3 rfl ?_
                      refine V_get (v := .ref (h 4)) C dX8_step_180 hi8 0 rfl rfl 3 (by decide) (List.mem_of_getElem? (i := 5) rfl) rfl rfl ?_
                      refine V_iconst (v := 3) C dX8_step_183 (by decide) ?_
                      refine V_iload_n C dX8_step_184 rfl 4 rfl ?_
                      refine V_imul C dX8_step_185 ?_
                      refine V_iconst (v := 2) C dX8_step_186 (by decide) ?_
                      refine V_iadd C dX8_step_187 ?_
                      refine V_ialdn (v := (ga u 3 (3 * n + 2))) C dX8_step_188 3 0 rfl rfl (3 * n + 2) (ix3 n rfl 2 2 rfl (by omega)).1 ((ix3 n rfl 2 2 rfl (by omega)).2) rfl ?_
                      refine V_istore (lv' := [(5, .int (ga u 3 (3 * n + 2))), (4, .int (ga u 3 (3 * n + 1))), (3, .int (ga u 3 (3 * n))), (2, .int (ga u 1 (n))), (0, .ref (h 0)), (1, .int (nI n))]) C dX8_step_189 (by decide) rfl ?_
                      refine V_aload_n C dX8_step_191 rfl 4 rfl ?_
                      refine V_get (v := .int (gi u 27)) C dX8_step_192 hi8 0 rfl rfl 27 (by decide) (List.mem_of_getElem? (i := 3) rfl) rfl rfl ?_
                      refine V_iconst (v := 1) C dX8_step_195 (by decide) ?_
                      refine V_iadd C dX8_step_196 ?_
                      refine V_istore (lv' := [(6, .int ((gi u 27) + 1)), (5, .int (ga u 3 (3 * n + 2))), (4, .int (ga u 3 (3 * n + 1))), (3, .int (ga u 3 (3 * n))), (2, .int (ga u 1 (n))), (0, .ref (h 0)), (1, .int (nI n))]) C dX8_step_197 (by decide) rfl ?_
                      refine V_iload_n C dX8_step_199 rfl 4 rfl ?_
                      refine V_if_le (tgt := 219) C dX8_step_200 (by decide) (fun zh200 => ?_) (fun zh200 => ?_)
                      · refine V_iload_n C dX8_step_219 rfl 4 rfl ?_
                        refine V_bipush (v := 13) C dX8_step_220 (by decide) ?_
                        refine V_icmp_ne (tgt := 237) C dX8_step_222 (by decide) (fun zh222 => ?_) (fun zh222 => ?_)
                        · refine V_iload_n C dX8_step_237 rfl 4 rfl ?_
                          refine V_bipush (v := 14) C dX8_step_238 (by decide) ?_
                          refine V_icmp_ne (tgt := 246) C dX8_step_240 (by decide) (fun zh240 => ?_) (fun zh240 => ?_)
                          · refine V_iload_n C dX8_step_246 rfl 4 rfl ?_
                            refine V_bipush (v := 19) C dX8_step_247 (by decide) ?_
                            refine V_icmp_ne (tgt := 259) C dX8_step_249 (by decide) (fun zh249 => ?_) (fun zh249 => ?_)
                            · refine V_iload_n C dX8_step_259 rfl 4 rfl ?_
                              refine V_bipush (v := 18) C dX8_step_260 (by decide) ?_
                              refine V_icmp_ne (tgt := 276) C dX8_step_262 (by decide) (fun zh262 => ?_) (fun zh262 => ?_)
                              · refine V_iload_n C dX8_step_276 rfl 4 rfl ?_
                                refine V_bipush (v := 17) C dX8_step_277 (by decide) ?_
                                refine V_icmp_ne (tgt := 317) C dX8_step_279 (by decide) (fun zh279 => ?_) (fun zh279 => ?_)
                                · refine V_aload_n C dX8_step_317 rfl 5 rfl ?_
                                  refine V_iload C dX8_step_318 0 rfl ?_
                                  refine V_put (ws' := (mw K h (si u 27 ((gi u 27) + 1)))) C dX8_step_320 hi8 tyX8_ok nmX8 0 rfl rfl 27 (by decide) (List.mem_of_getElem? (i := 3) rfl) rfl rfl rfl rfl rfl (Nat.le_of_ble_eq_true rfl) (ms_27 K h u ((gi u 27) + 1)) ?_
                                  refine V_iconst (v := (-1)) C dX8_step_323 (by decide) ?_
                                  exact E (-1) (si u 27 ((gi u 27) + 1)) _ _ dX8_step_324 rfl ⟨by rw [zst]; simp (decide := true) [mStep5, zh109, zh117, Int32.not_le.mpr zh117, zh138, zh149, zh161, zh200, Int32.not_lt.mpr zh200, zh222, zh240, zh249, zh262, zh279]; try (split <;> rfl), by rw [zst]; simp (decide := true) [mStep5, zh109, zh117, Int32.not_le.mpr zh117, zh138, zh149, zh161, zh200, Int32.not_lt.mpr zh200, zh222, zh240, zh249, zh262, zh279]; try (first | rfl | (split <;> rfl))⟩
                                · first | exact absurd zh279 zh161 | exact absurd zh161 zh279 | exact absurd (Int32.not_lt.mp zh279) zh161 | exact absurd (Int32.not_le.mp zh279) zh161 | exact absurd zh279 (Int32.not_lt.mpr zh161) | exact absurd zh279 (Int32.not_le.mpr zh161) | exact absurd (Int32.not_lt.mp zh161) (Int32.not_le.mpr zh279) | (rw [zh161] at zh279; cases zh279)
                              · exfalso; have q_0 := Int32.lt_iff_toInt_lt.mp zh117; have q_1 := Int32.le_iff_toInt_le.mp zh200; have q_2 := congrArg Int32.toInt zh262; have l_0 : (0 : Int32).toInt = 0 := (by decide); have l_1 : (8 : Int32).toInt = 8 := (by decide); have l_2 : (18 : Int32).toInt = 18 := (by decide); omega
                            · exfalso; have q_0 := Int32.lt_iff_toInt_lt.mp zh117; have q_1 := Int32.le_iff_toInt_le.mp zh200; have q_2 := congrArg Int32.toInt zh249; have l_0 : (0 : Int32).toInt = 0 := (by decide); have l_1 : (8 : Int32).toInt = 8 := (by decide); have l_2 : (19 : Int32).toInt = 19 := (by decide); omega
                          · exfalso; have q_0 := Int32.lt_iff_toInt_lt.mp zh117; have q_1 := Int32.le_iff_toInt_le.mp zh200; have q_2 := congrArg Int32.toInt zh240; have l_0 : (0 : Int32).toInt = 0 := (by decide); have l_1 : (8 : Int32).toInt = 8 := (by decide); have l_2 : (14 : Int32).toInt = 14 := (by decide); omega
                        · exfalso; have q_0 := Int32.lt_iff_toInt_lt.mp zh117; have q_1 := Int32.le_iff_toInt_le.mp zh200; have q_2 := congrArg Int32.toInt zh222; have l_0 : (0 : Int32).toInt = 0 := (by decide); have l_1 : (8 : Int32).toInt = 8 := (by decide); have l_2 : (13 : Int32).toInt = 13 := (by decide); omega
                      · refine V_iload_n C dX8_step_203 rfl 4 rfl ?_
                        refine V_bipush (v := 7) C dX8_step_204 (by decide) ?_
                        refine V_icmp_gt (tgt := 219) C dX8_step_206 (by decide) (fun zh206 => ?_) (fun zh206 => ?_)
                        · exfalso; have q_0 := Int32.lt_iff_toInt_lt.mp zh117; have q_1 := Int32.lt_iff_toInt_lt.mp (Int32.not_le.mp zh200); have q_2 := Int32.lt_iff_toInt_lt.mp zh206; have l_0 : (0 : Int32).toInt = 0 := (by decide); have l_1 : (7 : Int32).toInt = 7 := (by decide); have l_2 : (8 : Int32).toInt = 8 := (by decide); omega
                        · refine V_aload_n C dX8_step_209 rfl 5 rfl ?_
                          refine V_iload_n C dX8_step_210 rfl 4 rfl ?_
                          refine V_iload_n C dX8_step_211 rfl 3 rfl ?_
                          refine V_iload C dX8_step_212 2 rfl ?_
                          refine V_iload C dX8_step_214 1 rfl ?_
                          refine V_callvV C dX8_step_216 0 rfl rfl (c_X8_reckon l D K h u (ga u 1 (n)) (ga u 3 (3 * n)) (ga u 3 (3 * n + 1)) (ga u 3 (3 * n + 2)) (pR (Int32.not_le.mp zh200) (Int32.not_lt.mp zh206)).1 (pR (Int32.not_le.mp zh200) (Int32.not_lt.mp zh206)).2.1 (pR (Int32.not_le.mp zh200) (Int32.not_lt.mp zh206)).2.2.1 (pR (Int32.not_le.mp zh200) (Int32.not_lt.mp zh206)).2.2.2) gX8_step_X8_reckon rfl 4 rfl (by decide +kernel) (by decide) ⟨Nat.le_of_ble_eq_true rfl, Nat.le_of_ble_eq_true rfl⟩ rfl (Nat.le_of_ble_eq_true rfl) (det1 ?_)
                          refine V_iload_n C dX8_step_219 rfl 4 rfl ?_
                          refine V_bipush (v := 13) C dX8_step_220 (by decide) ?_
                          refine V_icmp_ne (tgt := 237) C dX8_step_222 (by decide) (fun zh222 => ?_) (fun zh222 => ?_)
                          · refine V_iload_n C dX8_step_237 rfl 4 rfl ?_
                            refine V_bipush (v := 14) C dX8_step_238 (by decide) ?_
                            refine V_icmp_ne (tgt := 246) C dX8_step_240 (by decide) (fun zh240 => ?_) (fun zh240 => ?_)
                            · refine V_iload_n C dX8_step_246 rfl 4 rfl ?_
                              refine V_bipush (v := 19) C dX8_step_247 (by decide) ?_
                              refine V_icmp_ne (tgt := 259) C dX8_step_249 (by decide) (fun zh249 => ?_) (fun zh249 => ?_)
                              · refine V_iload_n C dX8_step_259 rfl 4 rfl ?_
                                refine V_bipush (v := 18) C dX8_step_260 (by decide) ?_
                                refine V_icmp_ne (tgt := 276) C dX8_step_262 (by decide) (fun zh262 => ?_) (fun zh262 => ?_)
                                · refine V_iload_n C dX8_step_276 rfl 4 rfl ?_
                                  refine V_bipush (v := 17) C dX8_step_277 (by decide) ?_
                                  refine V_icmp_ne (tgt := 317) C dX8_step_279 (by decide) (fun zh279 => ?_) (fun zh279 => ?_)
                                  · refine V_aload_n C dX8_step_317 rfl 5 rfl ?_
                                    refine V_iload C dX8_step_318 0 rfl ?_
                                    refine V_put (ws' := (mw K h (si (mReck u (ga u 1 (n)) (ga u 3 (3 * n)) (ga u 3 (3 * n + 1)) (ga u 3 (3 * n + 2))) 27 ((gi u 27) + 1)))) C dX8_step_320 hi8 tyX8_ok nmX8 0 rfl rfl 27 (by decide) (List.mem_of_getElem? (i := 3) rfl) rfl rfl rfl rfl rfl (Nat.le_of_ble_eq_true rfl) (ms_27 K h (mReck u (ga u 1 (n)) (ga u 3 (3 * n)) (ga u 3 (3 * n + 1)) (ga u 3 (3 * n + 2))) ((gi u 27) + 1)) ?_
                                    refine V_iconst (v := (-1)) C dX8_step_323 (by decide) ?_
                                    exact E (-1) (si (mReck u (ga u 1 (n)) (ga u 3 (3 * n)) (ga u 3 (3 * n + 1)) (ga u 3 (3 * n + 2))) 27 ((gi u 27) + 1)) _ _ dX8_step_324 rfl ⟨by rw [zst]; simp (decide := true) [mStep5, zh109, zh117, Int32.not_le.mpr zh117, zh138, zh149, zh161, zh200, Int32.not_le.mp zh200, zh206, Int32.not_lt.mp zh206, zh222, zh240, zh249, zh262, zh279]; try (split <;> rfl), by rw [zst]; simp (decide := true) [mStep5, zh109, zh117, Int32.not_le.mpr zh117, zh138, zh149, zh161, zh200, Int32.not_le.mp zh200, zh206, Int32.not_lt.mp zh206, zh222, zh240, zh249, zh262, zh279]; try (first | rfl | (split <;> rfl))⟩
                                  · first | exact absurd zh279 zh161 | exact absurd zh161 zh279 | exact absurd (Int32.not_lt.mp zh279) zh161 | exact absurd (Int32.not_le.mp zh279) zh161 | exact absurd zh279 (Int32.not_lt.mpr zh161) | exact absurd zh279 (Int32.not_le.mpr zh161) | exact absurd (Int32.not_lt.mp zh161) (Int32.not_le.mpr zh279) | (rw [zh161] at zh279; cases zh279)
                                · exfalso; have q_0 := Int32.lt_iff_toInt_lt.mp zh117; have q_1 := Int32.lt_iff_toInt_lt.mp (Int32.not_le.mp zh200); have q_2 := Int32.le_iff_toInt_le.mp (Int32.not_lt.mp zh206); have q_3 := congrArg Int32.toInt zh262; have l_0 : (0 : Int32).toInt = 0 := (by decide); have l_1 : (7 : Int32).toInt = 7 := (by decide); have l_2 : (8 : Int32).toInt = 8 := (by decide); have l_3 : (18 : Int32).toInt = 18 := (by decide); omega
                              · exfalso; have q_0 := Int32.lt_iff_toInt_lt.mp zh117; have q_1 := Int32.lt_iff_toInt_lt.mp (Int32.not_le.mp zh200); have q_2 := Int32.le_iff_toInt_le.mp (Int32.not_lt.mp zh206); have q_3 := congrArg Int32.toInt zh249; have l_0 : (0 : Int32).toInt = 0 := (by decide); have l_1 : (7 : Int32).toInt = 7 := (by decide); have l_2 : (8 : Int32).toInt = 8 := (by decide); have l_3 : (19 : Int32).toInt = 19 := (by decide); omega
                            · exfalso; have q_0 := Int32.lt_iff_toInt_lt.mp zh117; have q_1 := Int32.lt_iff_toInt_lt.mp (Int32.not_le.mp zh200); have q_2 := Int32.le_iff_toInt_le.mp (Int32.not_lt.mp zh206); have q_3 := congrArg Int32.toInt zh240; have l_0 : (0 : Int32).toInt = 0 := (by decide); have l_1 : (7 : Int32).toInt = 7 := (by decide); have l_2 : (8 : Int32).toInt = 8 := (by decide); have l_3 : (14 : Int32).toInt = 14 := (by decide); omega
                          · exfalso; have q_0 := Int32.lt_iff_toInt_lt.mp zh117; have q_1 := Int32.lt_iff_toInt_lt.mp (Int32.not_le.mp zh200); have q_2 := Int32.le_iff_toInt_le.mp (Int32.not_lt.mp zh206); have q_3 := congrArg Int32.toInt zh222; have l_0 : (0 : Int32).toInt = 0 := (by decide); have l_1 : (7 : Int32).toInt = 7 := (by decide); have l_2 : (8 : Int32).toInt = 8 := (by decide); have l_3 : (13 : Int32).toInt = 13 := (by decide); omega
                    · exfalso; have q_0 := Int32.lt_iff_toInt_lt.mp zh117; have q_1 := congrArg Int32.toInt zh161; have l_0 : (8 : Int32).toInt = 8 := (by decide); have l_1 : (17 : Int32).toInt = 17 := (by decide); omega
                  · exfalso; have q_0 := Int32.lt_iff_toInt_lt.mp zh117; have q_1 := congrArg Int32.toInt zh149; have l_0 : (8 : Int32).toInt = 8 := (by decide); have l_1 : (15 : Int32).toInt = 15 := (by decide); omega
                · exfalso; have q_0 := Int32.lt_iff_toInt_lt.mp zh117; have q_1 := congrArg Int32.toInt zh138; have l_0 : (8 : Int32).toInt = 8 := (by decide); have l_1 : (16 : Int32).toInt = 16 := (by decide); omega
              · refine V_iload_n C dX8_step_120 rfl 2 rfl ?_
                refine V_bipush (v := 12) C dX8_step_121 (by decide) ?_
                refine V_icmp_gt (tgt := 135) C dX8_step_123 (by decide) (fun zh123 => ?_) (fun zh123 => ?_)
                · refine V_iload_n C dX8_step_135 rfl 2 rfl ?_
                  refine V_bipush (v := 16) C dX8_step_136 (by decide) ?_
                  refine V_icmp_ne (tgt := 146) C dX8_step_138 (by decide) (fun zh138 => ?_) (fun zh138 => ?_)
                  · refine V_iload_n C dX8_step_146 rfl 2 rfl ?_
                    refine V_bipush (v := 15) C dX8_step_147 (by decide) ?_
                    refine V_icmp_ne (tgt := 158) C dX8_step_149 (by decide) (fun zh149 => ?_) (fun zh149 => ?_)
                    · refine V_iload_n C dX8_step_158 rfl 2 rfl ?_
                      refine V_bipush (v := 17) C dX8_step_159 (by decide) ?_
                      refine V_icmp_ne (tgt := 179) C dX8_step_161 (by decide) (fun zh161 => ?_) (fun zh161 => ?_)
                      · refine V_aload_n C dX8_step_179 rfl 3 rfl ?_
                        refine V_get (v := .ref (h 4)) C dX8_step_180 hi8 0 rfl rfl 3 (by decide) (List.mem_of_getElem? (i := 5) rfl) rfl rfl ?_
                        refine V_iconst (v := 3) C dX8_step_183 (by decide) ?_
                        refine V_iload_n C dX8_step_184 rfl 4 rfl ?_
                        refine V_imul C dX8_step_185 ?_
                        refine V_iconst (v := 2) C dX8_step_186 (by decide) ?_
                        refine V_iadd C dX8_step_187 ?_
                        refine V_ialdn (v := (ga u 3 (3 * n + 2))) C dX8_step_188 3 0 rfl rfl (3 * n + 2) (ix3 n rfl 2 2 rfl (by omega)).1 ((ix3 n rfl 2 2 rfl (by omega)).2) rfl ?_
                        refine V_istore (lv' := [(5, .int (ga u 3 (3 * n + 2))), (4, .int (ga u 3 (3 * n + 1))), (3, .int (ga u 3 (3 * n))), (2, .int (ga u 1 (n))), (0, .ref (h 0)), (1, .int (nI n))]) C dX8_step_189 (by decide) rfl ?_
                        refine V_aload_n C dX8_step_191 rfl 4 rfl ?_
                        refine V_get (v := .int (gi u 27)) C dX8_step_192 hi8 0 rfl rfl 27 (by decide) (List.mem_of_getElem? (i := 3) rfl) rfl rfl ?_
                        refine V_iconst (v := 1) C dX8_step_195 (by decide) ?_
                        refine V_iadd C dX8_step_196 ?_
                        refine V_istore (lv' := [(6, .int ((gi u 27) + 1)), (5, .int (ga u 3 (3 * n + 2))), (4, .int (ga u 3 (3 * n + 1))), (3, .int (ga u 3 (3 * n))), (2, .int (ga u 1 (n))), (0, .ref (h 0)), (1, .int (nI n))]) C dX8_step_197 (by decide) rfl ?_
                        refine V_iload_n C dX8_step_199 rfl 4 rfl ?_
                        refine V_if_le (tgt := 219) C dX8_step_200 (by decide) (fun zh200 => ?_) (fun zh200 => ?_)
                        · exfalso; have q_0 := Int32.le_iff_toInt_le.mp (Int32.not_lt.mp zh117); have q_1 := Int32.lt_iff_toInt_lt.mp zh123; have q_2 := Int32.le_iff_toInt_le.mp zh200; have l_0 : (0 : Int32).toInt = 0 := (by decide); have l_1 : (8 : Int32).toInt = 8 := (by decide); have l_2 : (12 : Int32).toInt = 12 := (by decide); omega
                        · refine V_iload_n C dX8_step_203 rfl 4 rfl ?_
                          refine V_bipush (v := 7) C dX8_step_204 (by decide) ?_
                          refine V_icmp_gt (tgt := 219) C dX8_step_206 (by decide) (fun zh206 => ?_) (fun zh206 => ?_)
                          · refine V_iload_n C dX8_step_219 rfl 4 rfl ?_
                            refine V_bipush (v := 13) C dX8_step_220 (by decide) ?_
                            refine V_icmp_ne (tgt := 237) C dX8_step_222 (by decide) (fun zh222 => ?_) (fun zh222 => ?_)
                            · refine V_iload_n C dX8_step_237 rfl 4 rfl ?_
                              refine V_bipush (v := 14) C dX8_step_238 (by decide) ?_
                              refine V_icmp_ne (tgt := 246) C dX8_step_240 (by decide) (fun zh240 => ?_) (fun zh240 => ?_)
                              · refine V_iload_n C dX8_step_246 rfl 4 rfl ?_
                                refine V_bipush (v := 19) C dX8_step_247 (by decide) ?_
                                refine V_icmp_ne (tgt := 259) C dX8_step_249 (by decide) (fun zh249 => ?_) (fun zh249 => ?_)
                                · refine V_iload_n C dX8_step_259 rfl 4 rfl ?_
                                  refine V_bipush (v := 18) C dX8_step_260 (by decide) ?_
                                  refine V_icmp_ne (tgt := 276) C dX8_step_262 (by decide) (fun zh262 => ?_) (fun zh262 => ?_)
                                  · refine V_iload_n C dX8_step_276 rfl 4 rfl ?_
                                    refine V_bipush (v := 17) C dX8_step_277 (by decide) ?_
                                    refine V_icmp_ne (tgt := 317) C dX8_step_279 (by decide) (fun zh279 => ?_) (fun zh279 => ?_)
                                    · refine V_aload_n C dX8_step_317 rfl 5 rfl ?_
                                      refine V_iload C dX8_step_318 0 rfl ?_
                                      refine V_put (ws' := (mw K h (si u 27 ((gi u 27) + 1)))) C dX8_step_320 hi8 tyX8_ok nmX8 0 rfl rfl 27 (by decide) (List.mem_of_getElem? (i := 3) rfl) rfl rfl rfl rfl rfl (Nat.le_of_ble_eq_true rfl) (ms_27 K h u ((gi u 27) + 1)) ?_
                                      refine V_iconst (v := (-1)) C dX8_step_323 (by decide) ?_
                                      exact E (-1) (si u 27 ((gi u 27) + 1)) _ _ dX8_step_324 rfl ⟨by rw [zst]; simp (decide := true) [mStep5, zh109, zh117, Int32.not_lt.mp zh117, zh123, Int32.not_le.mpr zh123, zh138, zh149, zh161, zh200, Int32.not_le.mp zh200, zh206, Int32.not_le.mpr zh206, zh222, zh240, zh249, zh262, zh279]; try (split <;> rfl), by rw [zst]; simp (decide := true) [mStep5, zh109, zh117, Int32.not_lt.mp zh117, zh123, Int32.not_le.mpr zh123, zh138, zh149, zh161, zh200, Int32.not_le.mp zh200, zh206, Int32.not_le.mpr zh206, zh222, zh240, zh249, zh262, zh279]; try (first | rfl | (split <;> rfl))⟩
                                    · first | exact absurd zh279 zh161 | exact absurd zh161 zh279 | exact absurd (Int32.not_lt.mp zh279) zh161 | exact absurd (Int32.not_le.mp zh279) zh161 | exact absurd zh279 (Int32.not_lt.mpr zh161) | exact absurd zh279 (Int32.not_le.mpr zh161) | exact absurd (Int32.not_lt.mp zh161) (Int32.not_le.mpr zh279) | (rw [zh161] at zh279; cases zh279)
                                  · refine V_aload_n C dX8_step_265 rfl 5 rfl ?_
                                    refine V_iload_n C dX8_step_266 rfl 3 rfl ?_
                                    refine V_put (ws' := (mw K h (si u 28 (ga u 3 (3 * n))))) C dX8_step_267 hi8 tyX8_ok nmX8 0 rfl rfl 28 (by decide) (List.mem_of_getElem? (i := 7) rfl) rfl rfl rfl rfl rfl (Nat.le_of_ble_eq_true rfl) (ms_28 K h u (ga u 3 (3 * n))) ?_
                                    refine V_aload_n C dX8_step_270 rfl 5 rfl ?_
                                    refine V_iload C dX8_step_271 2 rfl ?_
                                    refine V_put (ws' := (mw K h (si (si u 28 (ga u 3 (3 * n))) 29 (ga u 3 (3 * n + 1))))) C dX8_step_273 hi8 tyX8_ok nmX8 0 rfl rfl 29 (by decide) (List.mem_of_getElem? (i := 8) rfl) rfl rfl rfl rfl rfl (Nat.le_of_ble_eq_true rfl) (ms_29 K h (si u 28 (ga u 3 (3 * n))) (ga u 3 (3 * n + 1))) ?_
                                    refine V_iload_n C dX8_step_276 rfl 4 rfl ?_
                                    refine V_bipush (v := 17) C dX8_step_277 (by decide) ?_
                                    refine V_icmp_ne (tgt := 317) C dX8_step_279 (by decide) (fun zh279 => ?_) (fun zh279 => ?_)
                                    · refine V_aload_n C dX8_step_317 rfl 5 rfl ?_
                                      refine V_iload C dX8_step_318 0 rfl ?_
                                      refine V_put (ws' := (mw K h (si (si (si u 28 (ga u 3 (3 * n))) 29 (ga u 3 (3 * n + 1))) 27 ((gi u 27) + 1)))) C dX8_step_320 hi8 tyX8_ok nmX8 0 rfl rfl 27 (by decide) (List.mem_of_getElem? (i := 3) rfl) rfl rfl rfl rfl rfl (Nat.le_of_ble_eq_true rfl) (ms_27 K h (si (si u 28 (ga u 3 (3 * n))) 29 (ga u 3 (3 * n + 1))) ((gi u 27) + 1)) ?_
                                      refine V_iconst (v := (-1)) C dX8_step_323 (by decide) ?_
                                      exact E (-1) (si (si (si u 28 (ga u 3 (3 * n))) 29 (ga u 3 (3 * n + 1))) 27 ((gi u 27) + 1)) _ _ dX8_step_324 rfl ⟨by rw [zst]; simp (decide := true) [mStep5, zh109, zh117, Int32.not_lt.mp zh117, zh123, Int32.not_le.mpr zh123, zh138, zh149, zh161, zh200, Int32.not_le.mp zh200, zh206, Int32.not_le.mpr zh206, zh222, zh240, zh249, zh262, zh279]; try (split <;> rfl), by rw [zst]; simp (decide := true) [mStep5, zh109, zh117, Int32.not_lt.mp zh117, zh123, Int32.not_le.mpr zh123, zh138, zh149, zh161, zh200, Int32.not_le.mp zh200, zh206, Int32.not_le.mpr zh206, zh222, zh240, zh249, zh262, zh279]; try (first | rfl | (split <;> rfl))⟩
                                    · first | exact absurd zh279 zh161 | exact absurd zh161 zh279 | exact absurd (Int32.not_lt.mp zh279) zh161 | exact absurd (Int32.not_le.mp zh279) zh161 | exact absurd zh279 (Int32.not_lt.mpr zh161) | exact absurd zh279 (Int32.not_le.mpr zh161) | exact absurd (Int32.not_lt.mp zh161) (Int32.not_le.mpr zh279) | (rw [zh161] at zh279; cases zh279)
                                · refine V_aload_n C dX8_step_252 rfl 5 rfl ?_
                                  refine V_iload_n C dX8_step_253 rfl 3 rfl ?_
                                  refine V_calliV C dX8_step_254 0 rfl rfl (c_X8_turn l D K h u (ga u 3 (3 * n)) (pT zh249)) gX8_step_X8_turn rfl 1 rfl (by decide +kernel) (by decide) ⟨Nat.le_of_ble_eq_true rfl, Nat.le_of_ble_eq_true rfl⟩ rfl (Nat.le_of_ble_eq_true rfl) (det2 ?_)
                                  refine V_istore (lv' := [(6, .int (mTurnR u (ga u 3 (3 * n)))), (5, .int (ga u 3 (3 * n + 2))), (4, .int (ga u 3 (3 * n + 1))), (3, .int (ga u 3 (3 * n))), (2, .int (ga u 1 (n))), (0, .ref (h 0)), (1, .int (nI n))]) C dX8_step_257 (by decide) rfl ?_
                                  refine V_iload_n C dX8_step_259 rfl 4 rfl ?_
                                  refine V_bipush (v := 18) C dX8_step_260 (by decide) ?_
                                  refine V_icmp_ne (tgt := 276) C dX8_step_262 (by decide) (fun zh262 => ?_) (fun zh262 => ?_)
                                  · refine V_iload_n C dX8_step_276 rfl 4 rfl ?_
                                    refine V_bipush (v := 17) C dX8_step_277 (by decide) ?_
                                    refine V_icmp_ne (tgt := 317) C dX8_step_279 (by decide) (fun zh279 => ?_) (fun zh279 => ?_)
                                    · refine V_aload_n C dX8_step_317 rfl 5 rfl ?_
                                      refine V_iload C dX8_step_318 0 rfl ?_
                                      refine V_put (ws' := (mw K h (si (mTurnU u) 27 (mTurnR u (ga u 3 (3 * n)))))) C dX8_step_320 hi8 tyX8_ok nmX8 0 rfl rfl 27 (by decide) (List.mem_of_getElem? (i := 3) rfl) rfl rfl rfl rfl rfl (Nat.le_of_ble_eq_true rfl) (ms_27 K h (mTurnU u) (mTurnR u (ga u 3 (3 * n)))) ?_
                                      refine V_iconst (v := (-1)) C dX8_step_323 (by decide) ?_
                                      exact E (-1) (si (mTurnU u) 27 (mTurnR u (ga u 3 (3 * n)))) _ _ dX8_step_324 rfl ⟨by rw [zst]; simp (decide := true) [mStep5, zh109, zh117, Int32.not_lt.mp zh117, zh123, Int32.not_le.mpr zh123, zh138, zh149, zh161, zh200, Int32.not_le.mp zh200, zh206, Int32.not_le.mpr zh206, zh222, zh240, zh249, zh262, zh279]; try (split <;> rfl), by rw [zst]; simp (decide := true) [mStep5, zh109, zh117, Int32.not_lt.mp zh117, zh123, Int32.not_le.mpr zh123, zh138, zh149, zh161, zh200, Int32.not_le.mp zh200, zh206, Int32.not_le.mpr zh206, zh222, zh240, zh249, zh262, zh279]; try (first | rfl | (split <;> rfl))⟩
                                    · first | exact absurd zh279 zh161 | exact absurd zh161 zh279 | exact absurd (Int32.not_lt.mp zh279) zh161 | exact absurd (Int32.not_le.mp zh279) zh161 | exact absurd zh279 (Int32.not_lt.mpr zh161) | exact absurd zh279 (Int32.not_le.mpr zh161) | exact absurd (Int32.not_lt.mp zh161) (Int32.not_le.mpr zh279) | (rw [zh161] at zh279; cases zh279)
                                  · exact absurd zh262 (by rw [zh249]; decide)
                              · refine V_iload_n C dX8_step_243 rfl 3 rfl ?_
                                refine V_istore (lv' := [(6, .int (ga u 3 (3 * n))), (5, .int (ga u 3 (3 * n + 2))), (4, .int (ga u 3 (3 * n + 1))), (3, .int (ga u 3 (3 * n))), (2, .int (ga u 1 (n))), (0, .ref (h 0)), (1, .int (nI n))]) C dX8_step_244 (by decide) rfl ?_
                                refine V_iload_n C dX8_step_246 rfl 4 rfl ?_
                                refine V_bipush (v := 19) C dX8_step_247 (by decide) ?_
                                refine V_icmp_ne (tgt := 259) C dX8_step_249 (by decide) (fun zh249 => ?_) (fun zh249 => ?_)
                                · refine V_iload_n C dX8_step_259 rfl 4 rfl ?_
                                  refine V_bipush (v := 18) C dX8_step_260 (by decide) ?_
                                  refine V_icmp_ne (tgt := 276) C dX8_step_262 (by decide) (fun zh262 => ?_) (fun zh262 => ?_)
                                  · refine V_iload_n C dX8_step_276 rfl 4 rfl ?_
                                    refine V_bipush (v := 17) C dX8_step_277 (by decide) ?_
                                    refine V_icmp_ne (tgt := 317) C dX8_step_279 (by decide) (fun zh279 => ?_) (fun zh279 => ?_)
                                    · refine V_aload_n C dX8_step_317 rfl 5 rfl ?_
                                      refine V_iload C dX8_step_318 0 rfl ?_
                                      refine V_put (ws' := (mw K h (si u 27 (ga u 3 (3 * n))))) C dX8_step_320 hi8 tyX8_ok nmX8 0 rfl rfl 27 (by decide) (List.mem_of_getElem? (i := 3) rfl) rfl rfl rfl rfl rfl (Nat.le_of_ble_eq_true rfl) (ms_27 K h u (ga u 3 (3 * n))) ?_
                                      refine V_iconst (v := (-1)) C dX8_step_323 (by decide) ?_
                                      exact E (-1) (si u 27 (ga u 3 (3 * n))) _ _ dX8_step_324 rfl ⟨by rw [zst]; simp (decide := true) [mStep5, zh109, zh117, Int32.not_lt.mp zh117, zh123, Int32.not_le.mpr zh123, zh138, zh149, zh161, zh200, Int32.not_le.mp zh200, zh206, Int32.not_le.mpr zh206, zh222, zh240, zh249, zh262, zh279]; try (split <;> rfl), by rw [zst]; simp (decide := true) [mStep5, zh109, zh117, Int32.not_lt.mp zh117, zh123, Int32.not_le.mpr zh123, zh138, zh149, zh161, zh200, Int32.not_le.mp zh200, zh206, Int32.not_le.mpr zh206, zh222, zh240, zh249, zh262, zh279]; try (first | rfl | (split <;> rfl))⟩
                                    · first | exact absurd zh279 zh161 | exact absurd zh161 zh279 | exact absurd (Int32.not_lt.mp zh279) zh161 | exact absurd (Int32.not_le.mp zh279) zh161 | exact absurd zh279 (Int32.not_lt.mpr zh161) | exact absurd zh279 (Int32.not_le.mpr zh161) | exact absurd (Int32.not_lt.mp zh161) (Int32.not_le.mpr zh279) | (rw [zh161] at zh279; cases zh279)
                                  · exact absurd zh262 (by rw [zh240]; decide)
                                · exact absurd zh249 (by rw [zh240]; decide)
                            · refine V_aload_n C dX8_step_225 rfl 5 rfl ?_
                              refine V_iload_n C dX8_step_226 rfl 3 rfl ?_
                              refine V_calliV C dX8_step_227 0 rfl rfl (c_X8_isNat l D K h u (ga u 3 (3 * n)) (pC zh222)) gX8_step_X8_isNat rfl 1 rfl (by decide +kernel) (by decide) ⟨Nat.le_of_ble_eq_true rfl, Nat.le_of_ble_eq_true rfl⟩ rfl (Nat.le_of_ble_eq_true rfl) (det2 ?_)
                              refine V_ifz_eq (tgt := 237) C dX8_step_230 (by decide) (fun zh230 => ?_) (fun zh230 => ?_)
                              · refine V_iload_n C dX8_step_237 rfl 4 rfl ?_
                                refine V_bipush (v := 14) C dX8_step_238 (by decide) ?_
                                refine V_icmp_ne (tgt := 246) C dX8_step_240 (by decide) (fun zh240 => ?_) (fun zh240 => ?_)
                                · refine V_iload_n C dX8_step_246 rfl 4 rfl ?_
                                  refine V_bipush (v := 19) C dX8_step_247 (by decide) ?_
                                  refine V_icmp_ne (tgt := 259) C dX8_step_249 (by decide) (fun zh249 => ?_) (fun zh249 => ?_)
                                  · refine V_iload_n C dX8_step_259 rfl 4 rfl ?_
                                    refine V_bipush (v := 18) C dX8_step_260 (by decide) ?_
                                    refine V_icmp_ne (tgt := 276) C dX8_step_262 (by decide) (fun zh262 => ?_) (fun zh262 => ?_)
                                    · refine V_iload_n C dX8_step_276 rfl 4 rfl ?_
                                      refine V_bipush (v := 17) C dX8_step_277 (by decide) ?_
                                      refine V_icmp_ne (tgt := 317) C dX8_step_279 (by decide) (fun zh279 => ?_) (fun zh279 => ?_)
                                      · refine V_aload_n C dX8_step_317 rfl 5 rfl ?_
                                        refine V_iload C dX8_step_318 0 rfl ?_
                                        refine V_put (ws' := (mw K h (si u 27 ((gi u 27) + 1)))) C dX8_step_320 hi8 tyX8_ok nmX8 0 rfl rfl 27 (by decide) (List.mem_of_getElem? (i := 3) rfl) rfl rfl rfl rfl rfl (Nat.le_of_ble_eq_true rfl) (ms_27 K h u ((gi u 27) + 1)) ?_
                                        refine V_iconst (v := (-1)) C dX8_step_323 (by decide) ?_
                                        exact E (-1) (si u 27 ((gi u 27) + 1)) _ _ dX8_step_324 rfl ⟨by rw [zst]; simp (decide := true) [mStep5, zh109, zh117, Int32.not_lt.mp zh117, zh123, Int32.not_le.mpr zh123, zh138, zh149, zh161, zh200, Int32.not_le.mp zh200, zh206, Int32.not_le.mpr zh206, zh222, zh230, zh240, zh249, zh262, zh279]; try (split <;> rfl), by rw [zst]; simp (decide := true) [mStep5, zh109, zh117, Int32.not_lt.mp zh117, zh123, Int32.not_le.mpr zh123, zh138, zh149, zh161, zh200, Int32.not_le.mp zh200, zh206, Int32.not_le.mpr zh206, zh222, zh230, zh240, zh249, zh262, zh279]; try (first | rfl | (split <;> rfl))⟩
                                      · first | exact absurd zh279 zh161 | exact absurd zh161 zh279 | exact absurd (Int32.not_lt.mp zh279) zh161 | exact absurd (Int32.not_le.mp zh279) zh161 | exact absurd zh279 (Int32.not_lt.mpr zh161) | exact absurd zh279 (Int32.not_le.mpr zh161) | exact absurd (Int32.not_lt.mp zh161) (Int32.not_le.mpr zh279) | (rw [zh161] at zh279; cases zh279)
                                    · exact absurd zh262 (by rw [zh222]; decide)
                                  · exact absurd zh249 (by rw [zh222]; decide)
                                · exact absurd zh240 (by rw [zh222]; decide)
                              · refine V_iload C dX8_step_233 2 rfl ?_
                                refine V_istore (lv' := [(6, .int (ga u 3 (3 * n + 1))), (5, .int (ga u 3 (3 * n + 2))), (4, .int (ga u 3 (3 * n + 1))), (3, .int (ga u 3 (3 * n))), (2, .int (ga u 1 (n))), (0, .ref (h 0)), (1, .int (nI n))]) C dX8_step_235 (by decide) rfl ?_
                                refine V_iload_n C dX8_step_237 rfl 4 rfl ?_
                                refine V_bipush (v := 14) C dX8_step_238 (by decide) ?_
                                refine V_icmp_ne (tgt := 246) C dX8_step_240 (by decide) (fun zh240 => ?_) (fun zh240 => ?_)
                                · refine V_iload_n C dX8_step_246 rfl 4 rfl ?_
                                  refine V_bipush (v := 19) C dX8_step_247 (by decide) ?_
                                  refine V_icmp_ne (tgt := 259) C dX8_step_249 (by decide) (fun zh249 => ?_) (fun zh249 => ?_)
                                  · refine V_iload_n C dX8_step_259 rfl 4 rfl ?_
                                    refine V_bipush (v := 18) C dX8_step_260 (by decide) ?_
                                    refine V_icmp_ne (tgt := 276) C dX8_step_262 (by decide) (fun zh262 => ?_) (fun zh262 => ?_)
                                    · refine V_iload_n C dX8_step_276 rfl 4 rfl ?_
                                      refine V_bipush (v := 17) C dX8_step_277 (by decide) ?_
                                      refine V_icmp_ne (tgt := 317) C dX8_step_279 (by decide) (fun zh279 => ?_) (fun zh279 => ?_)
                                      · refine V_aload_n C dX8_step_317 rfl 5 rfl ?_
                                        refine V_iload C dX8_step_318 0 rfl ?_
                                        refine V_put (ws' := (mw K h (si u 27 (ga u 3 (3 * n + 1))))) C dX8_step_320 hi8 tyX8_ok nmX8 0 rfl rfl 27 (by decide) (List.mem_of_getElem? (i := 3) rfl) rfl rfl rfl rfl rfl (Nat.le_of_ble_eq_true rfl) (ms_27 K h u (ga u 3 (3 * n + 1))) ?_
                                        refine V_iconst (v := (-1)) C dX8_step_323 (by decide) ?_
                                        exact E (-1) (si u 27 (ga u 3 (3 * n + 1))) _ _ dX8_step_324 rfl ⟨by rw [zst]; simp (decide := true) [mStep5, zh109, zh117, Int32.not_lt.mp zh117, zh123, Int32.not_le.mpr zh123, zh138, zh149, zh161, zh200, Int32.not_le.mp zh200, zh206, Int32.not_le.mpr zh206, zh222, zh230, zh240, zh249, zh262, zh279]; try (split <;> rfl), by rw [zst]; simp (decide := true) [mStep5, zh109, zh117, Int32.not_lt.mp zh117, zh123, Int32.not_le.mpr zh123, zh138, zh149, zh161, zh200, Int32.not_le.mp zh200, zh206, Int32.not_le.mpr zh206, zh222, zh230, zh240, zh249, zh262, zh279]; try (first | rfl | (split <;> rfl))⟩
                                      · first | exact absurd zh279 zh161 | exact absurd zh161 zh279 | exact absurd (Int32.not_lt.mp zh279) zh161 | exact absurd (Int32.not_le.mp zh279) zh161 | exact absurd zh279 (Int32.not_lt.mpr zh161) | exact absurd zh279 (Int32.not_le.mpr zh161) | exact absurd (Int32.not_lt.mp zh161) (Int32.not_le.mpr zh279) | (rw [zh161] at zh279; cases zh279)
                                    · exact absurd zh262 (by rw [zh222]; decide)
                                  · exact absurd zh249 (by rw [zh222]; decide)
                                · exact absurd zh240 (by rw [zh222]; decide)
                          · exfalso; have q_0 := Int32.le_iff_toInt_le.mp (Int32.not_lt.mp zh117); have q_1 := Int32.lt_iff_toInt_lt.mp zh123; have q_2 := Int32.lt_iff_toInt_lt.mp (Int32.not_le.mp zh200); have q_3 := Int32.le_iff_toInt_le.mp (Int32.not_lt.mp zh206); have l_0 : (0 : Int32).toInt = 0 := (by decide); have l_1 : (7 : Int32).toInt = 7 := (by decide); have l_2 : (8 : Int32).toInt = 8 := (by decide); have l_3 : (12 : Int32).toInt = 12 := (by decide); omega
                      · refine V_aload_n C dX8_step_164 rfl 3 rfl ?_
                        refine V_get (v := .ref (h 26)) C dX8_step_165 hi8 0 rfl rfl 25 (by decide) (List.mem_of_getElem? (i := 6) rfl) rfl rfl ?_
                        refine V_iconst (v := 0) C dX8_step_168 (by decide) ?_
                        refine V_ialdn (v := (ga u 25 0)) C dX8_step_169 13 0 rfl rfl (0) (by decide) (by unfold vp_in; decide) rfl ?_
                        refine V_iload_n C dX8_step_170 rfl 1 rfl ?_
                        refine V_iadd C dX8_step_171 ?_
                        refine V_bipush (v := 120) C dX8_step_172 (by decide) ?_
                        refine V_icmp_le (tgt := 179) C dX8_step_174 (by decide) (fun zh174 => ?_) (fun zh174 => ?_)
                        · refine V_aload_n C dX8_step_179 rfl 3 rfl ?_
                          refine V_get (v := .ref (h 4)) C dX8_step_180 hi8 0 rfl rfl 3 (by decide) (List.mem_of_getElem? (i := 5) rfl) rfl rfl ?_
                          refine V_iconst (v := 3) C dX8_step_183 (by decide) ?_
                          refine V_iload_n C dX8_step_184 rfl 4 rfl ?_
                          refine V_imul C dX8_step_185 ?_
                          refine V_iconst (v := 2) C dX8_step_186 (by decide) ?_
                          refine V_iadd C dX8_step_187 ?_
                          refine V_ialdn (v := (ga u 3 (3 * n + 2))) C dX8_step_188 3 0 rfl rfl (3 * n + 2) (ix3 n rfl 2 2 rfl (by omega)).1 ((ix3 n rfl 2 2 rfl (by omega)).2) rfl ?_
                          refine V_istore (lv' := [(5, .int (ga u 3 (3 * n + 2))), (4, .int (ga u 3 (3 * n + 1))), (3, .int (ga u 3 (3 * n))), (2, .int (ga u 1 (n))), (0, .ref (h 0)), (1, .int (nI n))]) C dX8_step_189 (by decide) rfl ?_
                          refine V_aload_n C dX8_step_191 rfl 4 rfl ?_
                          refine V_get (v := .int (gi u 27)) C dX8_step_192 hi8 0 rfl rfl 27 (by decide) (List.mem_of_getElem? (i := 3) rfl) rfl rfl ?_
                          refine V_iconst (v := 1) C dX8_step_195 (by decide) ?_
                          refine V_iadd C dX8_step_196 ?_
                          refine V_istore (lv' := [(6, .int ((gi u 27) + 1)), (5, .int (ga u 3 (3 * n + 2))), (4, .int (ga u 3 (3 * n + 1))), (3, .int (ga u 3 (3 * n))), (2, .int (ga u 1 (n))), (0, .ref (h 0)), (1, .int (nI n))]) C dX8_step_197 (by decide) rfl ?_
                          refine V_iload_n C dX8_step_199 rfl 4 rfl ?_
                          refine V_if_le (tgt := 219) C dX8_step_200 (by decide) (fun zh200 => ?_) (fun zh200 => ?_)
                          · exact absurd zh200 (by rw [zh161]; decide)
                          · refine V_iload_n C dX8_step_203 rfl 4 rfl ?_
                            refine V_bipush (v := 7) C dX8_step_204 (by decide) ?_
                            refine V_icmp_gt (tgt := 219) C dX8_step_206 (by decide) (fun zh206 => ?_) (fun zh206 => ?_)
                            · refine V_iload_n C dX8_step_219 rfl 4 rfl ?_
                              refine V_bipush (v := 13) C dX8_step_220 (by decide) ?_
                              refine V_icmp_ne (tgt := 237) C dX8_step_222 (by decide) (fun zh222 => ?_) (fun zh222 => ?_)
                              · refine V_iload_n C dX8_step_237 rfl 4 rfl ?_
                                refine V_bipush (v := 14) C dX8_step_238 (by decide) ?_
                                refine V_icmp_ne (tgt := 246) C dX8_step_240 (by decide) (fun zh240 => ?_) (fun zh240 => ?_)
                                · refine V_iload_n C dX8_step_246 rfl 4 rfl ?_
                                  refine V_bipush (v := 19) C dX8_step_247 (by decide) ?_
                                  refine V_icmp_ne (tgt := 259) C dX8_step_249 (by decide) (fun zh249 => ?_) (fun zh249 => ?_)
                                  · refine V_iload_n C dX8_step_259 rfl 4 rfl ?_
                                    refine V_bipush (v := 18) C dX8_step_260 (by decide) ?_
                                    refine V_icmp_ne (tgt := 276) C dX8_step_262 (by decide) (fun zh262 => ?_) (fun zh262 => ?_)
                                    · refine V_iload_n C dX8_step_276 rfl 4 rfl ?_
                                      refine V_bipush (v := 17) C dX8_step_277 (by decide) ?_
                                      refine V_icmp_ne (tgt := 317) C dX8_step_279 (by decide) (fun zh279 => ?_) (fun zh279 => ?_)
                                      · first | exact absurd zh279 zh161 | exact absurd zh161 zh279 | exact absurd (Int32.not_lt.mp zh279) zh161 | exact absurd (Int32.not_le.mp zh279) zh161 | exact absurd zh279 (Int32.not_lt.mpr zh161) | exact absurd zh279 (Int32.not_le.mpr zh161) | exact absurd (Int32.not_lt.mp zh161) (Int32.not_le.mpr zh279) | (rw [zh161] at zh279; cases zh279)
                                      · refine V_aload_n C dX8_step_282 rfl 5 rfl ?_
                                        refine V_get (v := .ref (h 26)) C dX8_step_283 hi8 0 rfl rfl 25 (by decide) (List.mem_of_getElem? (i := 6) rfl) rfl rfl ?_
                                        refine V_iconst (v := 1) C dX8_step_286 (by decide) ?_
                                        refine V_iload_n C dX8_step_287 rfl 3 rfl ?_
                                        refine V_iastn (ws' := (mw K h (sa u 25 1 (ga u 3 (3 * n))))) C dX8_step_288 13 0 rfl rfl (1) (by decide) (by unfold vp_in; decide) (ms_25 K h u 1 (ga u 3 (3 * n))) ?_
                                        refine V_aload_n C dX8_step_289 rfl 5 rfl ?_
                                        refine V_get (v := .ref (h 26)) C dX8_step_290 hi8 0 rfl rfl 25 (by decide) (List.mem_of_getElem? (i := 6) rfl) rfl rfl ?_
                                        refine V_iconst (v := 2) C dX8_step_293 (by decide) ?_
                                        refine V_iload C dX8_step_294 2 rfl ?_
                                        refine V_iastn (ws' := (mw K h (sa (sa u 25 1 (ga u 3 (3 * n))) 25 2 (ga u 3 (3 * n + 1))))) C dX8_step_296 13 0 rfl rfl (2) (by decide) (by unfold vp_in; decide) (ms_25 K h (sa u 25 1 (ga u 3 (3 * n))) 2 (ga u 3 (3 * n + 1))) ?_
                                        refine V_aload_n C dX8_step_297 rfl 5 rfl ?_
                                        refine V_get (v := .ref (h 26)) C dX8_step_298 hi8 0 rfl rfl 25 (by decide) (List.mem_of_getElem? (i := 6) rfl) rfl rfl ?_
                                        refine V_iconst (v := 3) C dX8_step_301 (by decide) ?_
                                        refine V_iload C dX8_step_302 1 rfl ?_
                                        refine V_iastn (ws' := (mw K h (sa (sa (sa u 25 1 (ga u 3 (3 * n))) 25 2 (ga u 3 (3 * n + 1))) 25 3 (ga u 3 (3 * n + 2))))) C dX8_step_304 13 0 rfl rfl (3) (by decide) (by unfold vp_in; decide) (ms_25 K h (sa (sa u 25 1 (ga u 3 (3 * n))) 25 2 (ga u 3 (3 * n + 1))) 3 (ga u 3 (3 * n + 2))) ?_
                                        refine V_aload_n C dX8_step_305 rfl 5 rfl ?_
                                        refine V_aload_n C dX8_step_306 rfl 5 rfl ?_
                                        refine V_get (v := .ref (h 26)) C dX8_step_307 hi8 0 rfl rfl 25 (by decide) (List.mem_of_getElem? (i := 6) rfl) rfl rfl ?_
                                        refine V_iconst (v := 0) C dX8_step_310 (by decide) ?_
                                        refine V_ialdn (v := (ga u 25 0)) C dX8_step_311 13 0 rfl rfl (0) (by decide) (by unfold vp_in; decide) (by first | rfl | (simp (disch := omega) only [ga_sa_ne, ga_sa_eq, ga_si, ga_sb, ga_sz, ga_sl])) ?_
                                        refine V_iload_n C dX8_step_312 rfl 3 rfl ?_
                                        refine V_iadd C dX8_step_313 ?_
                                        have zF := pF zh161 (Int32.not_lt.mpr zh174)
                                        rw [zF.1]
                                        refine V_callvV C dX8_step_314 0 rfl rfl (c_X8_reach l D K h (sa (sa (sa u 25 1 (ga u 3 (3 * n))) 25 2 (ga u 3 (3 * n + 1))) 25 3 (ga u 3 (3 * n + 2))) (tn (gi u 22)) (tn (ga u 25 0) + tn (ga u 3 (3 * n))) (tn (gi u 21)) pH.1 pH.2.1 pH.2.2.1 zF.2.1 zF.2.2) gX8_step_X8_reach rfl 1 rfl (by decide +kernel) (by decide) ⟨Nat.le_of_ble_eq_true rfl, Nat.le_of_ble_eq_true rfl⟩ rfl (Nat.le_of_ble_eq_true rfl) (det1 ?_)
                                        refine V_aload_n C dX8_step_317 rfl 5 rfl ?_
                                        refine V_iload C dX8_step_318 0 rfl ?_
                                        refine V_put (ws' := (mw K h (si (mReach (sa (sa (sa u 25 1 (ga u 3 (3 * n))) 25 2 (ga u 3 (3 * n + 1))) 25 3 (ga u 3 (3 * n + 2))) (tn (gi u 22)) (tn (ga u 25 0) + tn (ga u 3 (3 * n))) (tn (gi u 21))) 27 ((gi u 27) + 1)))) C dX8_step_320 hi8 tyX8_ok nmX8 0 rfl rfl 27 (by decide) (List.mem_of_getElem? (i := 3) rfl) rfl rfl rfl rfl rfl (Nat.le_of_ble_eq_true rfl) (ms_27 K h (mReach (sa (sa (sa u 25 1 (ga u 3 (3 * n))) 25 2 (ga u 3 (3 * n + 1))) 25 3 (ga u 3 (3 * n + 2))) (tn (gi u 22)) (tn (ga u 25 0) + tn (ga u 3 (3 * n))) (tn (gi u 21))) ((gi u 27) + 1)) ?_
                                        refine V_iconst (v := (-1)) C dX8_step_323 (by decide) ?_
                                        exact E (-1) (si (mReach (sa (sa (sa u 25 1 (ga u 3 (3 * n))) 25 2 (ga u 3 (3 * n + 1))) 25 3 (ga u 3 (3 * n + 2))) (tn (gi u 22)) (tn (ga u 25 0) + tn (ga u 3 (3 * n))) (tn (gi u 21))) 27 ((gi u 27) + 1)) _ _ dX8_step_324 rfl ⟨by rw [zst]; simp (decide := true) [mStep5, zh109, zh117, Int32.not_lt.mp zh117, zh123, Int32.not_le.mpr zh123, zh138, zh149, zh161, zh174, Int32.not_lt.mpr zh174, zh200, Int32.not_le.mp zh200, zh206, Int32.not_le.mpr zh206, zh222, zh240, zh249, zh262, zh279]; try (split <;> rfl), by rw [zst]; simp (decide := true) [mStep5, zh109, zh117, Int32.not_lt.mp zh117, zh123, Int32.not_le.mpr zh123, zh138, zh149, zh161, zh174, Int32.not_lt.mpr zh174, zh200, Int32.not_le.mp zh200, zh206, Int32.not_le.mpr zh206, zh222, zh240, zh249, zh262, zh279]; try (first | rfl | (split <;> rfl))⟩
                                    · exact absurd zh262 (by rw [zh161]; decide)
                                  · exact absurd zh249 (by rw [zh161]; decide)
                                · exact absurd zh240 (by rw [zh161]; decide)
                              · exact absurd zh222 (by rw [zh161]; decide)
                            · exact absurd zh206 (by rw [zh161]; decide)
                        · refine V_iconst (v := 4) C dX8_step_177 (by decide) ?_
                          exact E 4 u _ _ dX8_step_178 rfl ⟨by rw [zst]; simp (decide := true) [mStep5, zh109, zh117, Int32.not_lt.mp zh117, zh123, Int32.not_le.mpr zh123, zh138, zh149, zh161, zh174, Int32.not_le.mp zh174]; try (split <;> rfl), by rw [zst]; simp (decide := true) [mStep5, zh109, zh117, Int32.not_lt.mp zh117, zh123, Int32.not_le.mpr zh123, zh138, zh149, zh161, zh174, Int32.not_le.mp zh174]; try (first | rfl | (split <;> rfl))⟩
                    · refine V_aload_n C dX8_step_152 rfl 3 rfl ?_
                      refine V_iload_n C dX8_step_153 rfl 1 rfl ?_
                      refine V_calliV C dX8_step_154 0 rfl rfl (c_X8_call l D K h u (ga u 3 (3 * n)) (tn (gi u 26)) pK.1 pK.2) gX8_step_X8_call rfl 1 rfl (by decide +kernel) (by decide) ⟨Nat.le_of_ble_eq_true rfl, Nat.le_of_ble_eq_true rfl⟩ rfl (Nat.le_of_ble_eq_true rfl) (det2 ?_)
                      exact E (if gi u 26 = 40 then 4 else -1) (if gi u 26 = 40 then u else mCallU u (tn (gi u 26)) (ga u 3 (3 * n))) _ _ dX8_step_157 rfl ⟨by rw [zst]; simp (decide := true) [mStep5, zh109, zh117, Int32.not_lt.mp zh117, zh123, Int32.not_le.mpr zh123, zh138, zh149]; try (split <;> rfl), by rw [zst]; simp (decide := true) [mStep5, zh109, zh117, Int32.not_lt.mp zh117, zh123, Int32.not_le.mpr zh123, zh138, zh149]; try (first | rfl | (split <;> rfl))⟩
                  · refine V_aload_n C dX8_step_141 rfl 3 rfl ?_
                    refine V_calliV C dX8_step_142 0 rfl rfl (c_X8_comeBack l D K h u (tn (gi u 26)) (tn (ga u 25 (6 * tn (gi u 26) + 0))) (tn (ga u 25 (6 * tn (gi u 26) + 1))) (tn (gi u 22)) (tn (gi u 21)) pK.1 pK.2 (pB zh138).1 (pB zh138).2.1 pH.1 pH.2.1 pH.2.2.1 (pB zh138).2.2 pH.2.2.2) gX8_step_X8_comeBack rfl 0 rfl (by decide +kernel) (by decide) ⟨Nat.le_of_ble_eq_true rfl, Nat.le_of_ble_eq_true rfl⟩ rfl (Nat.le_of_ble_eq_true rfl) (det2 ?_)
                    exact E (if gi u 26 = 0 then 0 else -1) (if gi u 26 = 0 then u else mBack u (tn (gi u 26)) (tn (ga u 25 (6 * tn (gi u 26) + 0))) (tn (ga u 25 (6 * tn (gi u 26) + 1))) (tn (gi u 22)) (tn (gi u 21))) _ _ dX8_step_145 rfl ⟨by rw [zst]; simp (decide := true) [mStep5, zh109, zh117, Int32.not_lt.mp zh117, zh123, Int32.not_le.mpr zh123, zh138]; try (split <;> rfl), by rw [zst]; simp (decide := true) [mStep5, zh109, zh117, Int32.not_lt.mp zh117, zh123, Int32.not_le.mpr zh123, zh138]; try (first | rfl | (split <;> rfl))⟩
                · refine V_aload_n C dX8_step_126 rfl 3 rfl ?_
                  refine V_iload_n C dX8_step_127 rfl 2 rfl ?_
                  refine V_iload_n C dX8_step_128 rfl 1 rfl ?_
                  refine V_iload C dX8_step_129 0 rfl ?_
                  refine V_calliV C dX8_step_131 0 rfl rfl (c_X8_memoryStep l D K h u (ga u 1 (n)) (ga u 3 (3 * n)) (ga u 3 (3 * n + 1)) (pM (Int32.not_lt.mp zh117) (Int32.not_lt.mp zh123)).1 (pM (Int32.not_lt.mp zh117) (Int32.not_lt.mp zh123)).2) gX8_step_X8_memoryStep rfl 3 rfl (by decide +kernel) (by decide) ⟨Nat.le_of_ble_eq_true rfl, Nat.le_of_ble_eq_true rfl⟩ rfl (Nat.le_of_ble_eq_true rfl) (det2 ?_)
                  exact E ((mMemory u (ga u 1 (n)) (ga u 3 (3 * n)) (ga u 3 (3 * n + 1))).1) (mMemory u (ga u 1 (n)) (ga u 3 (3 * n)) (ga u 3 (3 * n + 1))).2 _ _ dX8_step_134 rfl ⟨by rw [zst]; simp (decide := true) [mStep5, zh109, zh117, Int32.not_lt.mp zh117, zh123, Int32.not_lt.mp zh123]; try (split <;> rfl), by rw [zst]; simp (decide := true) [mStep5, zh109, zh117, Int32.not_lt.mp zh117, zh123, Int32.not_lt.mp zh123]; try (first | rfl | (split <;> rfl))⟩
            · refine V_iconst (v := 0) C dX8_step_112 (by decide) ?_
              exact E 0 u _ _ dX8_step_113 rfl ⟨by rw [zst]; simp (decide := true) [mStep5, zh109]; try (split <;> rfl), by rw [zst]; simp (decide := true) [mStep5, zh109]; try (first | rfl | (split <;> rfl))⟩
          · exact absurd zh41 (by decide)
  · refine V_aload_n C dX8_step_18 rfl 0 rfl ?_
    refine V_dup C dX8_step_19 rfl ?_
    refine V_get (v := .int (gi u 27)) C dX8_step_20 hi8 0 rfl rfl 27 (by decide) (List.mem_of_getElem? (i := 3) rfl) rfl rfl ?_
    refine V_iconst (v := 1) C dX8_step_23 (by decide) ?_
    refine V_iadd C dX8_step_24 ?_
    refine V_put (ws' := (mw K h (si u 27 ((gi u 27) + 1)))) C dX8_step_25 hi8 tyX8_ok nmX8 0 rfl rfl 27 (by decide) (List.mem_of_getElem? (i := 3) rfl) rfl rfl rfl rfl rfl (Nat.le_of_ble_eq_true rfl) (ms_27 K h u ((gi u 27) + 1)) ?_
    refine V_iconst (v := (-1)) C dX8_step_28 (by decide) ?_
    exact E (-1) (si u 27 ((gi u 27) + 1)) _ _ dX8_step_29 rfl ⟨by rw [mStep_q zh15], by rw [mStep_q zh15]; rfl⟩

