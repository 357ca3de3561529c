def mGrp (u : MS) : MS := sb (si (si u 10 0) 11 0) 12 false
def mCk0 (u : MS) : MS := mGrp (si (si (si u 7 (if gi u 5 = 0 then 4 else 0)) 8 (-1)) 9 0)
/-- the fault of instruction i: 1, 2 or none -/
def mCkF (u : MS) (i : Nat) : Int32 := if mMade u i = true then (if mStands u i = true then 0 else 2) else 1
def mCk3 (u : MS) (i : Nat) : MS := si (si (if mMade u i = true then mStandU u i else u) 7 (mCkF u i)) 8 (if 0 < mCkF u i then nI i else -1)
def mCk1 (u : MS) (i d : Nat) : MS := if gz u 4 i = false ∧ i < d - 1 then mCk3 u i else mGrp (si (mCk3 u i) 9 (gi u 9 + 1))
def mCkL (d : Nat) : Nat → Nat → MS → MS
  | 0, _, u => u
  | n + 1, i, u => if i < d ∧ gi u 7 = 0 then mCkL d n (i + 1) (mCk1 u i d) else u
def mEnds (o : Int32) : Bool := decide (o = 14 ∨ o = 16 ∨ o = 20)
def mCkE (u : MS) (d : Nat) : MS := if 0 < gi u 7 then u else if gz u 4 (d - 1) = true ∧ ga u 2 (d - 1) = 0 ∧ mEnds (ga u 1 (d - 1)) = true then u else si (si u 7 3) 8 (nI (d - 1))
def mCheck (u : MS) (d : Nat) : MS := mCkE (mCkL d 41 0 (mCk0 u)) d
theorem gz_mStandU (u : MS) (n j m : Nat) : gz (mStandU u n) j m = gz u j m := rfl
theorem gi5_mCk3 (u : MS) (i : Nat) : gi (mCk3 u i) 5 = gi u 5 := by
  unfold mCk3; split <;> rfl
theorem gi5_mCk1 (u : MS) (i d : Nat) : gi (mCk1 u i d) 5 = gi u 5 := by
  unfold mCk1; split
  · exact gi5_mCk3 u i
  · exact gi5_mCk3 u i
theorem gi5_mCkL (d : Nat) : ∀ (n i : Nat) (u : MS), gi (mCkL d n i u) 5 = gi u 5
  | 0, _, _ => rfl
  | n + 1, i, u => by
    unfold mCkL; split
    · rw [gi5_mCkL d n, gi5_mCk1]
    · rfl
theorem mCk_hd0 (u : MS) (d : Nat) (hd : gi u 5 = nI d) : 0 < d ∨ 0 < gi (mCkL d 41 0 (mCk0 u)) 7 := by
  rcases Nat.eq_zero_or_pos d with q | q
  · right
    subst q
    have e1 : mCkL 0 41 0 (mCk0 u) = mCk0 u := by
      rw [mCkL, if_neg (fun q => absurd q.1 (by omega))]
    have e2 : gi (mCk0 u) 7 = (if gi u 5 = 0 then 4 else 0) := rfl
    rw [e1, e2, if_pos (show gi u 5 = 0 from hd)]
    decide
  · exact Or.inl q
theorem gi7_of_neg (u : MS) (i : Nat) : gi (mCk3 u i) 7 = mCkF u i := by unfold mCk3; rfl
set_option maxHeartbeats 4000000 in
set_option maxRecDepth 100000 in
theorem c_X8_check (l : Launch) (D : va_G) (K : Nat → ClassId) (h : Nat → Nat) (u : MS)  (d : Nat) (hd : gi u 5 = nI d) (hd2 : d ≤ 40) : vMv l D vwCl (tys0 K) yX8_check wsX8_check ({ frames := 2, cells := 0, slots := 0, locals := 48 } : Room) [.ref (h 0)] (mw K h u) (mw K h) (fun u9 => u9 = (mCheck u d)) := by
  refine vMv_of (cc := cX8_check) (nL := 3) (by decide) rfl (Nat.le_of_ble_eq_true rfl) ?_
  intro X C E
  show V X 0 0 (mw K h u) 0 [(0, .ref (h 0))] []
  have hi8 : ∀ w ∈ wsX80, w ∈ wsX8_check := fun _ h => List.mem_cons_of_mem _ (List.mem_append_right _ h)
  refine V_aload_n C dX8_check_0 rfl 0 rfl ?_
  refine V_aload_n C dX8_check_1 rfl 0 rfl ?_
  refine V_get (v := .int (gi u 5)) C dX8_check_2 hi8 0 rfl rfl 5 (by decide) (List.mem_of_getElem? (i := 1) rfl) rfl rfl ?_
  suffices zj13 : ∀ xf : Int32, xf = (if gi u 5 = 0 then 4 else 0) → V X 0 0 (mw K h u) 13 [(0, .ref (h 0))] [.int xf, .ref (h 0)] by
    refine V_if_ne (tgt := 12) C dX8_check_5 (by decide) (fun zh5 => ?_) (fun zh5 => ?_)
    · refine V_iconst (v := 0) C dX8_check_12 (by decide) ?_
      refine V_sub [0] rfl ?_
      exact zj13 0 (by first | rfl | (simp (decide := true) [b2i, gi_si, ga_si, gz_si, gl_si, gb_si, mPl_si, mGet_si, mNat_si, mSlot_si, mBy_si, mThr, zh5]; done) | (simp (decide := true) [b2i, gi_si, ga_si, gz_si, gl_si, gb_si, mPl_si, mGet_si, mNat_si, mSlot_si, mBy_si, mThr, zh5]; rfl) | (simp_all (decide := true) [b2i, gi_si, ga_si, gz_si, gl_si, gb_si, mPl_si, mGet_si, mNat_si, mSlot_si, mBy_si, mThr]; done))
    · refine V_iconst (v := 4) C dX8_check_8 (by decide) ?_
      refine V_goto (tgt := 13) C dX8_check_9 (by decide) ?_
      refine V_sub [0] rfl ?_
      exact zj13 4 (by first | rfl | (simp (decide := true) [b2i, gi_si, ga_si, gz_si, gl_si, gb_si, mPl_si, mGet_si, mNat_si, mSlot_si, mBy_si, mThr, zh5]; done) | (simp (decide := true) [b2i, gi_si, ga_si, gz_si, gl_si, gb_si, mPl_si, mGet_si, mNat_si, mSlot_si, mBy_si, mThr, zh5]; rfl) | (simp_all (decide := true) [b2i, gi_si, ga_si, gz_si, gl_si, gb_si, mPl_si, mGet_si, mNat_si, mSlot_si, mBy_si, mThr]; done))
  intro xf e_xf
  refine V_put (ws' := (mw K h (si u 7 xf))) C dX8_check_13 hi8 tyX8_ok nmX8 0 rfl rfl 7 (by decide) (List.mem_of_getElem? (i := 2) rfl) rfl rfl rfl rfl rfl (Nat.le_of_ble_eq_true rfl) (ms_7 K h u xf) ?_
  refine V_aload_n C dX8_check_16 rfl 0 rfl ?_
  refine V_iconst (v := (-1)) C dX8_check_17 (by decide) ?_
  refine V_put (ws' := (mw K h (si (si u 7 xf) 8 (-1)))) C dX8_check_18 hi8 tyX8_ok nmX8 0 rfl rfl 8 (by decide) (List.mem_of_getElem? (i := 3) rfl) rfl rfl rfl rfl rfl (Nat.le_of_ble_eq_true rfl) (ms_8 K h (si u 7 xf) (-1)) ?_
  refine V_aload_n C dX8_check_21 rfl 0 rfl ?_
  refine V_iconst (v := 0) C dX8_check_22 (by decide) ?_
  refine V_put (ws' := (mw K h (si (si (si u 7 xf) 8 (-1)) 9 0))) C dX8_check_23 hi8 tyX8_ok nmX8 0 rfl rfl 9 (by decide) (List.mem_of_getElem? (i := 4) rfl) rfl rfl rfl rfl rfl (Nat.le_of_ble_eq_true rfl) (ms_9 K h (si (si u 7 xf) 8 (-1)) 0) ?_
  refine V_aload_n C dX8_check_26 rfl 0 rfl ?_
  refine V_callvV C dX8_check_27 0 rfl rfl (c_X8_group l D K h (si (si (si u 7 xf) 8 (-1)) 9 0)) gX8_check_X8_group rfl 0 rfl (by decide +kernel) (by decide) ⟨Nat.le_of_ble_eq_true rfl, Nat.le_of_ble_eq_true rfl⟩ rfl (Nat.le_of_ble_eq_true rfl) (det1 ?_)
  refine V_iconst (v := 0) C dX8_check_30 (by decide) ?_
  refine V_istore_n (lv' := [(1, .int 0), (0, .ref (h 0))]) C dX8_check_31 rfl (by decide) rfl ?_
  refine V_ws (ws' := mw K h (mCk0 u)) (by rw [e_xf]; rfl) ?_
  suffices zx : V X 0 0 (mw K h (mCkL d 41 0 (mCk0 u))) 134 [(0, .ref (h 0))] [] by
    have zl : ∀ (n i : Nat) (v : MS), gi v 5 = nI d → i ≤ d → d - i < n → mCkL d n i v = (mCkL d 41 0 (mCk0 u)) → V X 0 0 (mw K h v) 32 [(1, .int (nI i)), (0, .ref (h 0))] [] := by
      intro n
      induction n with
      | zero =>
        intro i v hd5 hid hdn hF
        omega
      | succ n ih =>
        intro i v hd5 hid hdn hF
        refine V_iload_n C dX8_check_32 rfl 0 rfl ?_
        refine V_aload_n C dX8_check_33 rfl 1 rfl ?_
        refine V_get (v := .int (gi v 5)) C dX8_check_34 hi8 0 rfl rfl 5 (by decide) (List.mem_of_getElem? (i := 1) rfl) rfl rfl ?_
        rw [hd5]
        refine V_icmp_ge (tgt := 134) C dX8_check_37 (by decide) (fun zh37 => ?_) (fun zh37 => ?_)
        · have zi : ¬ i < d := fun q => absurd zh37 (nI_ge q (by omega))
          rw [mCkL, if_neg (fun q => zi q.1)] at hF
          exact V_ws (congrArg (mw K h) hF) (V_sub [1] rfl zx)
        · have zi : i < d := (Nat.lt_or_ge i d).elim id (fun q => absurd (nI_le q (by omega)) zh37)
          refine V_aload_n C dX8_check_40 rfl 1 rfl ?_
          refine V_get (v := .int (gi v 7)) C dX8_check_41 hi8 0 rfl rfl 7 (by decide) (List.mem_of_getElem? (i := 2) rfl) rfl rfl ?_
          refine V_if_ne (tgt := 134) C dX8_check_44 (by decide) (fun zh44 => ?_) (fun zh44 => ?_)
          · rw [mCkL, if_neg (fun q => zh44 q.2)] at hF
            exact V_ws (congrArg (mw K h) hF) (V_sub [1] rfl zx)
          · refine V_aload_n C dX8_check_47 rfl 1 rfl ?_
            refine V_aload_n C dX8_check_48 rfl 1 rfl ?_
            refine V_iload_n C dX8_check_49 rfl 0 rfl ?_
            refine V_calliV C dX8_check_50 0 rfl rfl (c_X8_isMade l D K h v i (by omega)) gX8_check_X8_isMade rfl 1 rfl (by decide +kernel) (by decide) ⟨Nat.le_of_ble_eq_true rfl, Nat.le_of_ble_eq_true rfl⟩ rfl (Nat.le_of_ble_eq_true rfl) (det2 ?_)
            refine V_ifz_ne (tgt := 60) C dX8_check_53 (by decide) (fun zh53 => ?_) (fun zh53 => ?_)
            · refine V_aload_n C dX8_check_60 rfl 1 rfl ?_
              refine V_iload_n C dX8_check_61 rfl 0 rfl ?_
              refine V_calliV C dX8_check_62 0 rfl rfl (c_X8_standsWell l D K h v i (by omega)) gX8_check_X8_standsWell rfl 1 rfl (by decide +kernel) (by decide) ⟨Nat.le_of_ble_eq_true rfl, Nat.le_of_ble_eq_true rfl⟩ rfl (Nat.le_of_ble_eq_true rfl) (det2 ?_)
              refine V_ifz_ne (tgt := 72) C dX8_check_65 (by decide) (fun zh65 => ?_) (fun zh65 => ?_)
              · refine V_iconst (v := 0) C dX8_check_72 (by decide) ?_
                refine V_put (ws' := (mw K h (si (mStandU v i) 7 0))) C dX8_check_73 hi8 tyX8_ok nmX8 0 rfl rfl 7 (by decide) (List.mem_of_getElem? (i := 2) rfl) rfl rfl rfl rfl rfl (Nat.le_of_ble_eq_true rfl) (ms_7 K h (mStandU v i) 0) ?_
                refine V_aload_n C dX8_check_76 rfl 1 rfl ?_
                refine V_aload_n C dX8_check_77 rfl 1 rfl ?_
                refine V_get (v := .int 0) C dX8_check_78 hi8 0 rfl rfl 7 (by decide) (List.mem_of_getElem? (i := 2) rfl) rfl rfl ?_
                refine V_if_le (tgt := 88) C dX8_check_81 (by decide) (fun zh81 => ?_) (fun zh81 => ?_)
                · refine V_iconst (v := (-1)) C dX8_check_88 (by decide) ?_
                  refine V_put (ws' := (mw K h (si (si (mStandU v i) 7 0) 8 (-1)))) C dX8_check_89 hi8 tyX8_ok nmX8 0 rfl rfl 8 (by decide) (List.mem_of_getElem? (i := 3) rfl) rfl rfl rfl rfl rfl (Nat.le_of_ble_eq_true rfl) (ms_8 K h (si (mStandU v i) 7 0) (-1)) ?_
                  refine V_aload_n C dX8_check_92 rfl 1 rfl ?_
                  refine V_get (v := .ref (h 5)) C dX8_check_93 hi8 0 rfl rfl 4 (by decide) (List.mem_of_getElem? (i := 5) rfl) rfl rfl ?_
                  refine V_iload_n C dX8_check_96 rfl 0 rfl ?_
                  refine V_zaldn (v := (b2i (gz (mStandU v i) 4 (i)))) C dX8_check_97 4 2 rfl rfl (i) (nI_clamp (by omega)) (vp_in_nI (by omega) (by omega)) rfl ?_
                  refine V_ifz_ne (tgt := 114) C dX8_check_98 (by decide) (fun zh98 => ?_) (fun zh98 => ?_)
                  · refine V_aload_n C dX8_check_114 rfl 1 rfl ?_
                    refine V_dup C dX8_check_115 rfl ?_
                    refine V_get (v := .int (gi (mStandU v i) 9)) C dX8_check_116 hi8 0 rfl rfl 9 (by decide) (List.mem_of_getElem? (i := 4) rfl) rfl rfl ?_
                    refine V_iconst (v := 1) C dX8_check_119 (by decide) ?_
                    refine V_iadd C dX8_check_120 ?_
                    refine V_put (ws' := (mw K h (si (si (si (mStandU v i) 7 0) 8 (-1)) 9 ((gi (mStandU v i) 9) + 1)))) C dX8_check_121 hi8 tyX8_ok nmX8 0 rfl rfl 9 (by decide) (List.mem_of_getElem? (i := 4) rfl) rfl rfl rfl rfl rfl (Nat.le_of_ble_eq_true rfl) (ms_9 K h (si (si (mStandU v i) 7 0) 8 (-1)) ((gi (mStandU v i) 9) + 1)) ?_
                    refine V_aload_n C dX8_check_124 rfl 1 rfl ?_
                    refine V_callvV C dX8_check_125 0 rfl rfl (c_X8_group l D K h (si (si (si (mStandU v i) 7 0) 8 (-1)) 9 ((gi (mStandU v i) 9) + 1))) gX8_check_X8_group rfl 0 rfl (by decide +kernel) (by decide) ⟨Nat.le_of_ble_eq_true rfl, Nat.le_of_ble_eq_true rfl⟩ rfl (Nat.le_of_ble_eq_true rfl) (det1 ?_)
                    refine V_iinc (lv' := [(1, .int (nI (i + 1))), (0, .ref (h 0))]) C dX8_check_128 (j := 0) rfl (nI_1 _) (by decide) rfl ?_
                    refine V_goto (tgt := 32) C dX8_check_131 (by decide) ?_
                    have zs : (sb (si (si (si (si (si (mStandU v i) 7 0) 8 (-1)) 9 ((gi (mStandU v i) 9) + 1)) 10 0) 11 0) 12 false) = mCk1 v i d := by
                      unfold mCk1; rw [if_neg (fun q => absurd (q.1.symm.trans zh98) (by decide))]; simp only [mCk3, mCkF, zh53, zh65, if_true, if_false, Bool.false_eq_true]; rfl
                    rw [mCkL, if_pos ⟨zi, zh44⟩, ← zs] at hF
                    exact ih (i + 1) _ (by rw [zs, gi5_mCk1]; exact hd5) (by omega) (by omega) hF
                  · refine V_iload_n C dX8_check_101 rfl 0 rfl ?_
                    refine V_aload_n C dX8_check_102 rfl 1 rfl ?_
                    refine V_get (v := .int (gi (mStandU v i) 5)) C dX8_check_103 hi8 0 rfl rfl 5 (by decide) (List.mem_of_getElem? (i := 1) rfl) rfl rfl ?_
                    rw [show (gi (mStandU v i) 5) = nI d from hd5]
                    refine V_iconst (v := 1) C dX8_check_106 (by decide) ?_
                    refine V_isub C dX8_check_107 ?_
                    rw [show nI d - 1 = nI (d - 1) from pk_sub (b := 1) (by omega)]
                    refine V_icmp_ge (tgt := 114) C dX8_check_108 (by decide) (fun zh108 => ?_) (fun zh108 => ?_)
                    · have zi2 : ¬ i < d - 1 := fun q => absurd zh108 (nI_ge q (by omega))
                      refine V_aload_n C dX8_check_114 rfl 1 rfl ?_
                      refine V_dup C dX8_check_115 rfl ?_
                      refine V_get (v := .int (gi (mStandU v i) 9)) C dX8_check_116 hi8 0 rfl rfl 9 (by decide) (List.mem_of_getElem? (i := 4) rfl) rfl rfl ?_
                      refine V_iconst (v := 1) C dX8_check_119 (by decide) ?_
                      refine V_iadd C dX8_check_120 ?_
                      refine V_put (ws' := (mw K h (si (si (si (mStandU v i) 7 0) 8 (-1)) 9 ((gi (mStandU v i) 9) + 1)))) C dX8_check_121 hi8 tyX8_ok nmX8 0 rfl rfl 9 (by decide) (List.mem_of_getElem? (i := 4) rfl) rfl rfl rfl rfl rfl (Nat.le_of_ble_eq_true rfl) (ms_9 K h (si (si (mStandU v i) 7 0) 8 (-1)) ((gi (mStandU v i) 9) + 1)) ?_
                      refine V_aload_n C dX8_check_124 rfl 1 rfl ?_
                      refine V_callvV C dX8_check_125 0 rfl rfl (c_X8_group l D K h (si (si (si (mStandU v i) 7 0) 8 (-1)) 9 ((gi (mStandU v i) 9) + 1))) gX8_check_X8_group rfl 0 rfl (by decide +kernel) (by decide) ⟨Nat.le_of_ble_eq_true rfl, Nat.le_of_ble_eq_true rfl⟩ rfl (Nat.le_of_ble_eq_true rfl) (det1 ?_)
                      refine V_iinc (lv' := [(1, .int (nI (i + 1))), (0, .ref (h 0))]) C dX8_check_128 (j := 0) rfl (nI_1 _) (by decide) rfl ?_
                      refine V_goto (tgt := 32) C dX8_check_131 (by decide) ?_
                      have zs : (sb (si (si (si (si (si (mStandU v i) 7 0) 8 (-1)) 9 ((gi (mStandU v i) 9) + 1)) 10 0) 11 0) 12 false) = mCk1 v i d := by
                        unfold mCk1; rw [if_neg (fun q => zi2 q.2)]; simp only [mCk3, mCkF, zh53, zh65, if_true, if_false, Bool.false_eq_true]; rfl
                      rw [mCkL, if_pos ⟨zi, zh44⟩, ← zs] at hF
                      exact ih (i + 1) _ (by rw [zs, gi5_mCk1]; exact hd5) (by omega) (by omega) hF
                    · have zi2 : i < d - 1 := (Nat.lt_or_ge i (d - 1)).elim id (fun q => absurd (nI_le q (by omega)) zh108)
                      refine V_goto (tgt := 128) C dX8_check_111 (by decide) ?_
                      refine V_iinc (lv' := [(1, .int (nI (i + 1))), (0, .ref (h 0))]) C dX8_check_128 (j := 0) rfl (nI_1 _) (by decide) rfl ?_
                      refine V_goto (tgt := 32) C dX8_check_131 (by decide) ?_
                      have zs : (si (si (mStandU v i) 7 0) 8 (-1)) = mCk1 v i d := by
                        unfold mCk1; rw [if_pos ⟨zh98, zi2⟩]; simp only [mCk3, mCkF, zh53, zh65, if_true, if_false, Bool.false_eq_true]; rfl
                      rw [mCkL, if_pos ⟨zi, zh44⟩, ← zs] at hF
                      exact ih (i + 1) _ (by rw [zs, gi5_mCk1]; exact hd5) (by omega) (by omega) hF
                · exact absurd zh81 (by decide)
              · refine V_iconst (v := 2) C dX8_check_68 (by decide) ?_
                refine V_goto (tgt := 73) C dX8_check_69 (by decide) ?_
                refine V_put (ws' := (mw K h (si (mStandU v i) 7 2))) C dX8_check_73 hi8 tyX8_ok nmX8 0 rfl rfl 7 (by decide) (List.mem_of_getElem? (i := 2) rfl) rfl rfl rfl rfl rfl (Nat.le_of_ble_eq_true rfl) (ms_7 K h (mStandU v i) 2) ?_
                refine V_aload_n C dX8_check_76 rfl 1 rfl ?_
                refine V_aload_n C dX8_check_77 rfl 1 rfl ?_
                refine V_get (v := .int 2) C dX8_check_78 hi8 0 rfl rfl 7 (by decide) (List.mem_of_getElem? (i := 2) rfl) rfl rfl ?_
                refine V_if_le (tgt := 88) C dX8_check_81 (by decide) (fun zh81 => ?_) (fun zh81 => ?_)
                · exact absurd zh81 (by decide)
                · refine V_iload_n C dX8_check_84 rfl 0 rfl ?_
                  refine V_goto (tgt := 89) C dX8_check_85 (by decide) ?_
                  refine V_put (ws' := (mw K h (si (si (mStandU v i) 7 2) 8 (nI i)))) C dX8_check_89 hi8 tyX8_ok nmX8 0 rfl rfl 8 (by decide) (List.mem_of_getElem? (i := 3) rfl) rfl rfl rfl rfl rfl (Nat.le_of_ble_eq_true rfl) (ms_8 K h (si (mStandU v i) 7 2) (nI i)) ?_
                  refine V_aload_n C dX8_check_92 rfl 1 rfl ?_
                  refine V_get (v := .ref (h 5)) C dX8_check_93 hi8 0 rfl rfl 4 (by decide) (List.mem_of_getElem? (i := 5) rfl) rfl rfl ?_
                  refine V_iload_n C dX8_check_96 rfl 0 rfl ?_
                  refine V_zaldn (v := (b2i (gz (mStandU v i) 4 (i)))) C dX8_check_97 4 2 rfl rfl (i) (nI_clamp (by omega)) (vp_in_nI (by omega) (by omega)) rfl ?_
                  refine V_ifz_ne (tgt := 114) C dX8_check_98 (by decide) (fun zh98 => ?_) (fun zh98 => ?_)
                  · refine V_aload_n C dX8_check_114 rfl 1 rfl ?_
                    refine V_dup C dX8_check_115 rfl ?_
                    refine V_get (v := .int (gi (mStandU v i) 9)) C dX8_check_116 hi8 0 rfl rfl 9 (by decide) (List.mem_of_getElem? (i := 4) rfl) rfl rfl ?_
                    refine V_iconst (v := 1) C dX8_check_119 (by decide) ?_
                    refine V_iadd C dX8_check_120 ?_
                    refine V_put (ws' := (mw K h (si (si (si (mStandU v i) 7 2) 8 (nI i)) 9 ((gi (mStandU v i) 9) + 1)))) C dX8_check_121 hi8 tyX8_ok nmX8 0 rfl rfl 9 (by decide) (List.mem_of_getElem? (i := 4) rfl) rfl rfl rfl rfl rfl (Nat.le_of_ble_eq_true rfl) (ms_9 K h (si (si (mStandU v i) 7 2) 8 (nI i)) ((gi (mStandU v i) 9) + 1)) ?_
                    refine V_aload_n C dX8_check_124 rfl 1 rfl ?_
                    refine V_callvV C dX8_check_125 0 rfl rfl (c_X8_group l D K h (si (si (si (mStandU v i) 7 2) 8 (nI i)) 9 ((gi (mStandU v i) 9) + 1))) gX8_check_X8_group rfl 0 rfl (by decide +kernel) (by decide) ⟨Nat.le_of_ble_eq_true rfl, Nat.le_of_ble_eq_true rfl⟩ rfl (Nat.le_of_ble_eq_true rfl) (det1 ?_)
                    refine V_iinc (lv' := [(1, .int (nI (i + 1))), (0, .ref (h 0))]) C dX8_check_128 (j := 0) rfl (nI_1 _) (by decide) rfl ?_
                    refine V_goto (tgt := 32) C dX8_check_131 (by decide) ?_
                    have zs : (sb (si (si (si (si (si (mStandU v i) 7 2) 8 (nI i)) 9 ((gi (mStandU v i) 9) + 1)) 10 0) 11 0) 12 false) = mCk1 v i d := by
                      unfold mCk1; rw [if_neg (fun q => absurd (q.1.symm.trans zh98) (by decide))]; simp only [mCk3, mCkF, zh53, zh65, if_true, if_false, Bool.false_eq_true]; rfl
                    rw [mCkL, if_pos ⟨zi, zh44⟩, ← zs] at hF
                    exact ih (i + 1) _ (by rw [zs, gi5_mCk1]; exact hd5) (by omega) (by omega) hF
                  · refine V_iload_n C dX8_check_101 rfl 0 rfl ?_
                    refine V_aload_n C dX8_check_102 rfl 1 rfl ?_
                    refine V_get (v := .int (gi (mStandU v i) 5)) C dX8_check_103 hi8 0 rfl rfl 5 (by decide) (List.mem_of_getElem? (i := 1) rfl) rfl rfl ?_
                    rw [show (gi (mStandU v i) 5) = nI d from hd5]
                    refine V_iconst (v := 1) C dX8_check_106 (by decide) ?_
                    refine V_isub C dX8_check_107 ?_
                    rw [show nI d - 1 = nI (d - 1) from pk_sub (b := 1) (by omega)]
                    refine V_icmp_ge (tgt := 114) C dX8_check_108 (by decide) (fun zh108 => ?_) (fun zh108 => ?_)
                    · have zi2 : ¬ i < d - 1 := fun q => absurd zh108 (nI_ge q (by omega))
                      refine V_aload_n C dX8_check_114 rfl 1 rfl ?_
                      refine V_dup C dX8_check_115 rfl ?_
                      refine V_get (v := .int (gi (mStandU v i) 9)) C dX8_check_116 hi8 0 rfl rfl 9 (by decide) (List.mem_of_getElem? (i := 4) rfl) rfl rfl ?_
                      refine V_iconst (v := 1) C dX8_check_119 (by decide) ?_
                      refine V_iadd C dX8_check_120 ?_
                      refine V_put (ws' := (mw K h (si (si (si (mStandU v i) 7 2) 8 (nI i)) 9 ((gi (mStandU v i) 9) + 1)))) C dX8_check_121 hi8 tyX8_ok nmX8 0 rfl rfl 9 (by decide) (List.mem_of_getElem? (i := 4) rfl) rfl rfl rfl rfl rfl (Nat.le_of_ble_eq_true rfl) (ms_9 K h (si (si (mStandU v i) 7 2) 8 (nI i)) ((gi (mStandU v i) 9) + 1)) ?_
                      refine V_aload_n C dX8_check_124 rfl 1 rfl ?_
                      refine V_callvV C dX8_check_125 0 rfl rfl (c_X8_group l D K h (si (si (si (mStandU v i) 7 2) 8 (nI i)) 9 ((gi (mStandU v i) 9) + 1))) gX8_check_X8_group rfl 0 rfl (by decide +kernel) (by decide) ⟨Nat.le_of_ble_eq_true rfl, Nat.le_of_ble_eq_true rfl⟩ rfl (Nat.le_of_ble_eq_true rfl) (det1 ?_)
                      refine V_iinc (lv' := [(1, .int (nI (i + 1))), (0, .ref (h 0))]) C dX8_check_128 (j := 0) rfl (nI_1 _) (by decide) rfl ?_
                      refine V_goto (tgt := 32) C dX8_check_131 (by decide) ?_
                      have zs : (sb (si (si (si (si (si (mStandU v i) 7 2) 8 (nI i)) 9 ((gi (mStandU v i) 9) + 1)) 10 0) 11 0) 12 false) = mCk1 v i d := by
                        unfold mCk1; rw [if_neg (fun q => zi2 q.2)]; simp only [mCk3, mCkF, zh53, zh65, if_true, if_false, Bool.false_eq_true]; rfl
                      rw [mCkL, if_pos ⟨zi, zh44⟩, ← zs] at hF
                      exact ih (i + 1) _ (by rw [zs, gi5_mCk1]; exact hd5) (by omega) (by omega) hF
                    · have zi2 : i < d - 1 := (Nat.lt_or_ge i (d - 1)).elim id (fun q => absurd (nI_le q (by omega)) zh108)
                      refine V_goto (tgt := 128) C dX8_check_111 (by decide) ?_
                      refine V_iinc (lv' := [(1, .int (nI (i + 1))), (0, .ref (h 0))]) C dX8_check_128 (j := 0) rfl (nI_1 _) (by decide) rfl ?_
                      refine V_goto (tgt := 32) C dX8_check_131 (by decide) ?_
                      have zs : (si (si (mStandU v i) 7 2) 8 (nI i)) = mCk1 v i d := by
                        unfold mCk1; rw [if_pos ⟨zh98, zi2⟩]; simp only [mCk3, mCkF, zh53, zh65, if_true, if_false, Bool.false_eq_true]; rfl
                      rw [mCkL, if_pos ⟨zi, zh44⟩, ← zs] at hF
                      exact ih (i + 1) _ (by rw [zs, gi5_mCk1]; exact hd5) (by omega) (by omega) hF
            · refine V_iconst (v := 1) C dX8_check_56 (by decide) ?_
              refine V_goto (tgt := 73) C dX8_check_57 (by decide) ?_
              refine V_put (ws' := (mw K h (si v 7 1))) C dX8_check_73 hi8 tyX8_ok nmX8 0 rfl rfl 7 (by decide) (List.mem_of_getElem? (i := 2) rfl) rfl rfl rfl rfl rfl (Nat.le_of_ble_eq_true rfl) (ms_7 K h v 1) ?_
              refine V_aload_n C dX8_check_76 rfl 1 rfl ?_
              refine V_aload_n C dX8_check_77 rfl 1 rfl ?_
              refine V_get (v := .int 1) C dX8_check_78 hi8 0 rfl rfl 7 (by decide) (List.mem_of_getElem? (i := 2) rfl) rfl rfl ?_
              refine V_if_le (tgt := 88) C dX8_check_81 (by decide) (fun zh81 => ?_) (fun zh81 => ?_)
              · exact absurd zh81 (by decide)
              · refine V_iload_n C dX8_check_84 rfl 0 rfl ?_
                refine V_goto (tgt := 89) C dX8_check_85 (by decide) ?_
                refine V_put (ws' := (mw K h (si (si v 7 1) 8 (nI i)))) C dX8_check_89 hi8 tyX8_ok nmX8 0 rfl rfl 8 (by decide) (List.mem_of_getElem? (i := 3) rfl) rfl rfl rfl rfl rfl (Nat.le_of_ble_eq_true rfl) (ms_8 K h (si v 7 1) (nI i)) ?_
                refine V_aload_n C dX8_check_92 rfl 1 rfl ?_
                refine V_get (v := .ref (h 5)) C dX8_check_93 hi8 0 rfl rfl 4 (by decide) (List.mem_of_getElem? (i := 5) rfl) rfl rfl ?_
                refine V_iload_n C dX8_check_96 rfl 0 rfl ?_
                refine V_zaldn (v := (b2i (gz v 4 (i)))) C dX8_check_97 4 2 rfl rfl (i) (nI_clamp (by omega)) (vp_in_nI (by omega) (by omega)) rfl ?_
                refine V_ifz_ne (tgt := 114) C dX8_check_98 (by decide) (fun zh98 => ?_) (fun zh98 => ?_)
                · refine V_aload_n C dX8_check_114 rfl 1 rfl ?_
                  refine V_dup C dX8_check_115 rfl ?_
                  refine V_get (v := .int (gi v 9)) C dX8_check_116 hi8 0 rfl rfl 9 (by decide) (List.mem_of_getElem? (i := 4) rfl) rfl rfl ?_
                  refine V_iconst (v := 1) C dX8_check_119 (by decide) ?_
                  refine V_iadd C dX8_check_120 ?_
                  refine V_put (ws' := (mw K h (si (si (si v 7 1) 8 (nI i)) 9 ((gi v 9) + 1)))) C dX8_check_121 hi8 tyX8_ok nmX8 0 rfl rfl 9 (by decide) (List.mem_of_getElem? (i := 4) rfl) rfl rfl rfl rfl rfl (Nat.le_of_ble_eq_true rfl) (ms_9 K h (si (si v 7 1) 8 (nI i)) ((gi v 9) + 1)) ?_
                  refine V_aload_n C dX8_check_124 rfl 1 rfl ?_
                  refine V_callvV C dX8_check_125 0 rfl rfl (c_X8_group l D K h (si (si (si v 7 1) 8 (nI i)) 9 ((gi v 9) + 1))) gX8_check_X8_group rfl 0 rfl (by decide +kernel) (by decide) ⟨Nat.le_of_ble_eq_true rfl, Nat.le_of_ble_eq_true rfl⟩ rfl (Nat.le_of_ble_eq_true rfl) (det1 ?_)
                  refine V_iinc (lv' := [(1, .int (nI (i + 1))), (0, .ref (h 0))]) C dX8_check_128 (j := 0) rfl (nI_1 _) (by decide) rfl ?_
                  refine V_goto (tgt := 32) C dX8_check_131 (by decide) ?_
                  have zs : (sb (si (si (si (si (si v 7 1) 8 (nI i)) 9 ((gi v 9) + 1)) 10 0) 11 0) 12 false) = mCk1 v i d := by
                    unfold mCk1; rw [if_neg (fun q => absurd (q.1.symm.trans zh98) (by decide))]; simp only [mCk3, mCkF, zh53, if_true, if_false, Bool.false_eq_true]; rfl
                  rw [mCkL, if_pos ⟨zi, zh44⟩, ← zs] at hF
                  exact ih (i + 1) _ (by rw [zs, gi5_mCk1]; exact hd5) (by omega) (by omega) hF
                · refine V_iload_n C dX8_check_101 rfl 0 rfl ?_
                  refine V_aload_n C dX8_check_102 rfl 1 rfl ?_
                  refine V_get (v := .int (gi v 5)) C dX8_check_103 hi8 0 rfl rfl 5 (by decide) (List.mem_of_getElem? (i := 1) rfl) rfl rfl ?_
                  rw [show (gi v 5) = nI d from hd5]
                  refine V_iconst (v := 1) C dX8_check_106 (by decide) ?_
                  refine V_isub C dX8_check_107 ?_
                  rw [show nI d - 1 = nI (d - 1) from pk_sub (b := 1) (by omega)]
                  refine V_icmp_ge (tgt := 114) C dX8_check_108 (by decide) (fun zh108 => ?_) (fun zh108 => ?_)
                  · have zi2 : ¬ i < d - 1 := fun q => absurd zh108 (nI_ge q (by omega))
                    refine V_aload_n C dX8_check_114 rfl 1 rfl ?_
                    refine V_dup C dX8_check_115 rfl ?_
                    refine V_get (v := .int (gi v 9)) C dX8_check_116 hi8 0 rfl rfl 9 (by decide) (List.mem_of_getElem? (i := 4) rfl) rfl rfl ?_
                    refine V_iconst (v := 1) C dX8_check_119 (by decide) ?_
                    refine V_iadd C dX8_check_120 ?_
                    refine V_put (ws' := (mw K h (si (si (si v 7 1) 8 (nI i)) 9 ((gi v 9) + 1)))) C dX8_check_121 hi8 tyX8_ok nmX8 0 rfl rfl 9 (by decide) (List.mem_of_getElem? (i := 4) rfl) rfl rfl rfl rfl rfl (Nat.le_of_ble_eq_true rfl) (ms_9 K h (si (si v 7 1) 8 (nI i)) ((gi v 9) + 1)) ?_
                    refine V_aload_n C dX8_check_124 rfl 1 rfl ?_
                    refine V_callvV C dX8_check_125 0 rfl rfl (c_X8_group l D K h (si (si (si v 7 1) 8 (nI i)) 9 ((gi v 9) + 1))) gX8_check_X8_group rfl 0 rfl (by decide +kernel) (by decide) ⟨Nat.le_of_ble_eq_true rfl, Nat.le_of_ble_eq_true rfl⟩ rfl (Nat.le_of_ble_eq_true rfl) (det1 ?_)
                    refine V_iinc (lv' := [(1, .int (nI (i + 1))), (0, .ref (h 0))]) C dX8_check_128 (j := 0) rfl (nI_1 _) (by decide) rfl ?_
                    refine V_goto (tgt := 32) C dX8_check_131 (by decide) ?_
                    have zs : (sb (si (si (si (si (si v 7 1) 8 (nI i)) 9 ((gi v 9) + 1)) 10 0) 11 0) 12 false) = mCk1 v i d := by
                      unfold mCk1; rw [if_neg (fun q => zi2 q.2)]; simp only [mCk3, mCkF, zh53, if_true, if_false, Bool.false_eq_true]; rfl
                    rw [mCkL, if_pos ⟨zi, zh44⟩, ← zs] at hF
                    exact ih (i + 1) _ (by rw [zs, gi5_mCk1]; exact hd5) (by omega) (by omega) hF
                  · have zi2 : i < d - 1 := (Nat.lt_or_ge i (d - 1)).elim id (fun q => absurd (nI_le q (by omega)) zh108)
                    refine V_goto (tgt := 128) C dX8_check_111 (by decide) ?_
                    refine V_iinc (lv' := [(1, .int (nI (i + 1))), (0, .ref (h 0))]) C dX8_check_128 (j := 0) rfl (nI_1 _) (by decide) rfl ?_
                    refine V_goto (tgt := 32) C dX8_check_131 (by decide) ?_
                    have zs : (si (si v 7 1) 8 (nI i)) = mCk1 v i d := by
                      unfold mCk1; rw [if_pos ⟨zh98, zi2⟩]; simp only [mCk3, mCkF, zh53, if_true, if_false, Bool.false_eq_true]; rfl
                    rw [mCkL, if_pos ⟨zi, zh44⟩, ← zs] at hF
                    exact ih (i + 1) _ (by rw [zs, gi5_mCk1]; exact hd5) (by omega) (by omega) hF
    exact zl 41 0 (mCk0 u) hd (by omega) (by omega) rfl
  have hv5 : gi (mCkL d 41 0 (mCk0 u)) 5 = nI d := by rw [gi5_mCkL]; exact hd
  have hck : mCheck u d = mCkE (mCkL d 41 0 (mCk0 u)) d := rfl
  have hd0 := mCk_hd0 u d hd
  generalize mCkL d 41 0 (mCk0 u) = v at hv5 hck hd0 ⊢
  rw [hck] at E
  refine V_aload_n C dX8_check_134 rfl 0 rfl ?_
  refine V_get (v := .int (gi v 7)) C dX8_check_135 hi8 0 rfl rfl 7 (by decide) (List.mem_of_getElem? (i := 2) rfl) rfl rfl ?_
  refine V_if_le (tgt := 142) C dX8_check_138 (by decide) (fun zh138 => ?_) (fun zh138 => ?_)
  · refine V_aload_n C dX8_check_142 rfl 0 rfl ?_
    refine V_get (v := .int (gi v 5)) C dX8_check_143 hi8 0 rfl rfl 5 (by decide) (List.mem_of_getElem? (i := 1) rfl) rfl rfl ?_
    refine V_iconst (v := 1) C dX8_check_146 (by decide) ?_
    refine V_isub C dX8_check_147 ?_
    have z0 : 0 < d := hd0.elim id (fun q => absurd q (Int32.not_lt.mpr zh138))
    rw [hv5, show nI d - 1 = nI (d - 1) from pk_sub (b := 1) (by omega)]
    refine V_istore_n (lv' := [(1, .int (nI (d - 1))), (0, .ref (h 0))]) C dX8_check_148 rfl (by decide) rfl ?_
    suffices zj187 : ∀ xe : Bool, xe = (mEnds (ga v 1 (d - 1))) → V X 0 0 (mw K h v) 187 [(1, .int (nI (d - 1))), (0, .ref (h 0))] [.int (b2i xe)] by
      refine V_aload_n C dX8_check_149 rfl 1 rfl ?_
      refine V_get (v := .ref (h 2)) C dX8_check_150 hi8 0 rfl rfl 1 (by decide) (List.mem_of_getElem? (i := 6) rfl) rfl rfl ?_
      refine V_iload_n C dX8_check_153 rfl 0 rfl ?_
      refine V_ialdn (v := (ga v 1 (d - 1))) C dX8_check_154 1 0 rfl rfl (d - 1) (nI_clamp (by omega)) (vp_in_nI (by omega) (by omega)) rfl ?_
      refine V_bipush (v := 14) C dX8_check_155 (by decide) ?_
      refine V_icmp_eq (tgt := 182) C dX8_check_157 (by decide) (fun zh157 => ?_) (fun zh157 => ?_)
      · refine V_iconst (v := 1) C dX8_check_182 (by decide) ?_
        refine V_goto (tgt := 187) C dX8_check_183 (by decide) ?_
        refine V_sub [0, 1] rfl ?_
        exact zj187 true (by simp (decide := true) [mEnds, zh138, Int32.not_lt.mpr zh138, zh157])
      · refine V_aload_n C dX8_check_160 rfl 1 rfl ?_
        refine V_get (v := .ref (h 2)) C dX8_check_161 hi8 0 rfl rfl 1 (by decide) (List.mem_of_getElem? (i := 6) rfl) rfl rfl ?_
        refine V_iload_n C dX8_check_164 rfl 0 rfl ?_
        refine V_ialdn (v := (ga v 1 (d - 1))) C dX8_check_165 1 0 rfl rfl (d - 1) (nI_clamp (by omega)) (vp_in_nI (by omega) (by omega)) rfl ?_
        refine V_bipush (v := 16) C dX8_check_166 (by decide) ?_
        refine V_icmp_eq (tgt := 182) C dX8_check_168 (by decide) (fun zh168 => ?_) (fun zh168 => ?_)
        · refine V_iconst (v := 1) C dX8_check_182 (by decide) ?_
          refine V_goto (tgt := 187) C dX8_check_183 (by decide) ?_
          refine V_sub [0, 1] rfl ?_
          exact zj187 true (by simp (decide := true) [mEnds, zh138, Int32.not_lt.mpr zh138, zh157, zh168])
        · refine V_aload_n C dX8_check_171 rfl 1 rfl ?_
          refine V_get (v := .ref (h 2)) C dX8_check_172 hi8 0 rfl rfl 1 (by decide) (List.mem_of_getElem? (i := 6) rfl) rfl rfl ?_
          refine V_iload_n C dX8_check_175 rfl 0 rfl ?_
          refine V_ialdn (v := (ga v 1 (d - 1))) C dX8_check_176 1 0 rfl rfl (d - 1) (nI_clamp (by omega)) (vp_in_nI (by omega) (by omega)) rfl ?_
          refine V_bipush (v := 20) C dX8_check_177 (by decide) ?_
          refine V_icmp_ne (tgt := 186) C dX8_check_179 (by decide) (fun zh179 => ?_) (fun zh179 => ?_)
          · refine V_iconst (v := 0) C dX8_check_186 (by decide) ?_
            refine V_sub [0, 1] rfl ?_
            exact zj187 false (by simp (decide := true) [mEnds, zh138, Int32.not_lt.mpr zh138, zh157, zh168, zh179])
          · refine V_iconst (v := 1) C dX8_check_182 (by decide) ?_
            refine V_goto (tgt := 187) C dX8_check_183 (by decide) ?_
            refine V_sub [0, 1] rfl ?_
            exact zj187 true (by simp (decide := true) [mEnds, zh138, Int32.not_lt.mpr zh138, zh157, zh168, zh179])
    intro xe e_xe
    refine V_istore_n (lv' := [(2, .int (b2i xe)), (1, .int (nI (d - 1))), (0, .ref (h 0))]) C dX8_check_187 rfl (by decide) rfl ?_
    refine V_aload_n C dX8_check_188 rfl 2 rfl ?_
    refine V_get (v := .ref (h 5)) C dX8_check_189 hi8 0 rfl rfl 4 (by decide) (List.mem_of_getElem? (i := 5) rfl) rfl rfl ?_
    refine V_iload_n C dX8_check_192 rfl 1 rfl ?_
    refine V_zaldn (v := (b2i (gz v 4 (d - 1)))) C dX8_check_193 4 2 rfl rfl (d - 1) (nI_clamp (by omega)) (vp_in_nI (by omega) (by omega)) rfl ?_
    refine V_ifz_eq (tgt := 211) C dX8_check_194 (by decide) (fun zh194 => ?_) (fun zh194 => ?_)
    · refine V_aload_n C dX8_check_211 rfl 2 rfl ?_
      refine V_iconst (v := 3) C dX8_check_212 (by decide) ?_
      refine V_put (ws' := (mw K h (si v 7 3))) C dX8_check_213 hi8 tyX8_ok nmX8 0 rfl rfl 7 (by decide) (List.mem_of_getElem? (i := 2) rfl) rfl rfl rfl rfl rfl (Nat.le_of_ble_eq_true rfl) (ms_7 K h v 3) ?_
      refine V_aload_n C dX8_check_216 rfl 2 rfl ?_
      refine V_iload_n C dX8_check_217 rfl 1 rfl ?_
      refine V_put (ws' := (mw K h (si (si v 7 3) 8 (nI (d - 1))))) C dX8_check_218 hi8 tyX8_ok nmX8 0 rfl rfl 8 (by decide) (List.mem_of_getElem? (i := 3) rfl) rfl rfl rfl rfl rfl (Nat.le_of_ble_eq_true rfl) (ms_8 K h (si v 7 3) (nI (d - 1))) ?_
      exact E (si (si v 7 3) 8 (nI (d - 1))) _ _ dX8_check_221 (by unfold mCkE; rw [if_neg (Int32.not_lt.mpr zh138), if_neg (fun q => absurd (zh194.symm.trans q.1) (by decide))])
    · refine V_aload_n C dX8_check_197 rfl 2 rfl ?_
      refine V_get (v := .ref (h 3)) C dX8_check_198 hi8 0 rfl rfl 2 (by decide) (List.mem_of_getElem? (i := 7) rfl) rfl rfl ?_
      refine V_iload_n C dX8_check_201 rfl 1 rfl ?_
      refine V_ialdn (v := (ga v 2 (d - 1))) C dX8_check_202 2 0 rfl rfl (d - 1) (nI_clamp (by omega)) (vp_in_nI (by omega) (by omega)) rfl ?_
      refine V_if_ne (tgt := 211) C dX8_check_203 (by decide) (fun zh203 => ?_) (fun zh203 => ?_)
      · refine V_aload_n C dX8_check_211 rfl 2 rfl ?_
        refine V_iconst (v := 3) C dX8_check_212 (by decide) ?_
        refine V_put (ws' := (mw K h (si v 7 3))) C dX8_check_213 hi8 tyX8_ok nmX8 0 rfl rfl 7 (by decide) (List.mem_of_getElem? (i := 2) rfl) rfl rfl rfl rfl rfl (Nat.le_of_ble_eq_true rfl) (ms_7 K h v 3) ?_
        refine V_aload_n C dX8_check_216 rfl 2 rfl ?_
        refine V_iload_n C dX8_check_217 rfl 1 rfl ?_
        refine V_put (ws' := (mw K h (si (si v 7 3) 8 (nI (d - 1))))) C dX8_check_218 hi8 tyX8_ok nmX8 0 rfl rfl 8 (by decide) (List.mem_of_getElem? (i := 3) rfl) rfl rfl rfl rfl rfl (Nat.le_of_ble_eq_true rfl) (ms_8 K h (si v 7 3) (nI (d - 1))) ?_
        exact E (si (si v 7 3) 8 (nI (d - 1))) _ _ dX8_check_221 (by unfold mCkE; rw [if_neg (Int32.not_lt.mpr zh138), if_neg (fun q => zh203 q.2.1)])
      · refine V_iload_n C dX8_check_206 rfl 0 rfl ?_
        refine V_ifz_eq (tgt := 211) C dX8_check_207 (by decide) (fun zh207 => ?_) (fun zh207 => ?_)
        · refine V_aload_n C dX8_check_211 rfl 2 rfl ?_
          refine V_iconst (v := 3) C dX8_check_212 (by decide) ?_
          refine V_put (ws' := (mw K h (si v 7 3))) C dX8_check_213 hi8 tyX8_ok nmX8 0 rfl rfl 7 (by decide) (List.mem_of_getElem? (i := 2) rfl) rfl rfl rfl rfl rfl (Nat.le_of_ble_eq_true rfl) (ms_7 K h v 3) ?_
          refine V_aload_n C dX8_check_216 rfl 2 rfl ?_
          refine V_iload_n C dX8_check_217 rfl 1 rfl ?_
          refine V_put (ws' := (mw K h (si (si v 7 3) 8 (nI (d - 1))))) C dX8_check_218 hi8 tyX8_ok nmX8 0 rfl rfl 8 (by decide) (List.mem_of_getElem? (i := 3) rfl) rfl rfl rfl rfl rfl (Nat.le_of_ble_eq_true rfl) (ms_8 K h (si v 7 3) (nI (d - 1))) ?_
          exact E (si (si v 7 3) 8 (nI (d - 1))) _ _ dX8_check_221 (by unfold mCkE; rw [if_neg (Int32.not_lt.mpr zh138), if_neg (fun q => absurd (zh207.symm.trans (e_xe.trans q.2.2)) (by decide))])
        · exact E v _ _ dX8_check_210 (by unfold mCkE; rw [if_neg (Int32.not_lt.mpr zh138), if_pos ⟨zh194, zh203, e_xe.symm.trans zh207⟩])
  · exact E v _ _ dX8_check_141 (by unfold mCkE; rw [if_pos (Int32.not_le.mp zh138)])

