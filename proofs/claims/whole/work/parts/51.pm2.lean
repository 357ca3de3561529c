set_option maxHeartbeats 4000000 in
set_option maxRecDepth 100000 in
theorem c_X7_turn (l : Launch) (D : va_G) (K : Nat → ClassId) (G : gE) (tb : Nat → Nat) (ga9 : gAll G tb) (h : Nat → Nat) (u : CS) (xt : Int32) (hC : cC u < 41) : gMi l D vwCl (tys0 K) G yX7_turn wsX7_turn ({ frames := 2, cells := 0, slots := 0, locals := 45 } : Room) [.ref (h 0), .int xt] (cw K h u) (cw K h) (fun r9 u9 => r9 = -1 ∧ u9 = dTurn u xt) := by
  refine gMi_of (cc := cX7_turn) (nL := 4) (rt := .int) (by decide) rfl (Nat.le_of_ble_eq_true rfl) ?_
  intro X C hg E
  show V X 0 0 (cw K h u) 0 [(0, .ref (h 0)), (1, .int xt)] []
  have go := ga9.1
  have gn := ga9.2.1
  have gt := ga9.2.2
  have hi7 : ∀ w ∈ wsX70, w ∈ wsX7_turn := fun _ h => List.mem_cons_of_mem _ (List.mem_append_left _ (List.mem_append_left _ (List.mem_append_left _ (List.mem_append_right _ h))))
  have hi6 : ∀ w ∈ wsX60, w ∈ wsX7_turn := fun _ h => List.mem_cons_of_mem _ (List.mem_append_left _ (List.mem_append_left _ (List.mem_append_right _ h)))
  have hi1 : ∀ w ∈ wsX10, w ∈ wsX7_turn := fun _ h => List.mem_cons_of_mem _ (List.mem_append_left _ (List.mem_append_right _ h))
  suffices zj12 : ∀ xl : Bool, xl = (decide (0 < cI u 5)) → V X 0 0 (cw K h u) 12 [(0, .ref (h 0)), (1, .int xt)] [.int (b2i xl)] by
    refine V_aload_n C dX7_turn_0 rfl 0 rfl ?_
    refine V_get (v := .int (cI u 5)) C dX7_turn_1 hi7 0 (cw_a rfl) rfl 8 (by decide) (List.mem_of_getElem? (i := 1) rfl) rfl rfl ?_
    refine V_if_le (tgt := 11) C dX7_turn_4 (by decide) (fun zh4 => ?_) (fun zh4 => ?_)
    · refine V_iconst (v := 0) C dX7_turn_11 (by decide) ?_
      refine V_sub [0, 1] rfl ?_
      exact zj12 false (by first | rfl | (simp (decide := true) [b2i, gi_si, zh4, Int32.not_lt.mpr zh4]; done) | (simp (decide := true) [b2i, gi_si, zh4, Int32.not_lt.mpr zh4]; rfl) | (simp_all (decide := true) [b2i, gi_si]; done))
    · refine V_iconst (v := 1) C dX7_turn_7 (by decide) ?_
      refine V_goto (tgt := 12) C dX7_turn_8 (by decide) ?_
      refine V_sub [0, 1] rfl ?_
      exact zj12 true (by first | rfl | (simp (decide := true) [b2i, gi_si, zh4, Int32.not_le.mp zh4]; done) | (simp (decide := true) [b2i, gi_si, zh4, Int32.not_le.mp zh4]; rfl) | (simp_all (decide := true) [b2i, gi_si]; done))
  intro xl e_xl
  refine V_istore_n (lv' := [(2, .int (b2i xl)), (0, .ref (h 0)), (1, .int xt)]) C dX7_turn_12 rfl (by decide) rfl ?_
  suffices zj30 : ∀ xa : Bool, xa = (xl || decide (1 < cI u 6)) → V X 0 0 (cw K h u) 30 [(2, .int (b2i xl)), (0, .ref (h 0)), (1, .int xt)] [.int (b2i xa)] by
    refine V_iload_n C dX7_turn_13 rfl 0 rfl ?_
    refine V_ifz_ne (tgt := 25) C dX7_turn_14 (by decide) (fun zh14 => ?_) (fun zh14 => ?_)
    · refine V_iconst (v := 1) C dX7_turn_25 (by decide) ?_
      refine V_goto (tgt := 30) C dX7_turn_26 (by decide) ?_
      refine V_sub [0, 1, 2] rfl ?_
      exact zj30 true (by first | rfl | (simp (decide := true) [b2i, gi_si, zh14]; done) | (simp (decide := true) [b2i, gi_si, zh14]; rfl) | (simp_all (decide := true) [b2i, gi_si]; done))
    · refine V_aload_n C dX7_turn_17 rfl 1 rfl ?_
      refine V_get (v := .int (cI u 6)) C dX7_turn_18 hi7 0 (cw_a rfl) rfl 9 (by decide) (List.mem_of_getElem? (i := 2) rfl) rfl rfl ?_
      refine V_iconst (v := 1) C dX7_turn_21 (by decide) ?_
      refine V_icmp_le (tgt := 29) C dX7_turn_22 (by decide) (fun zh22 => ?_) (fun zh22 => ?_)
      · refine V_iconst (v := 0) C dX7_turn_29 (by decide) ?_
        refine V_sub [0, 1, 2] rfl ?_
        exact zj30 false (by first | rfl | (simp (decide := true) [b2i, gi_si, zh14, zh22, Int32.not_lt.mpr zh22]; done) | (simp (decide := true) [b2i, gi_si, zh14, zh22, Int32.not_lt.mpr zh22]; rfl) | (simp_all (decide := true) [b2i, gi_si]; done))
      · refine V_iconst (v := 1) C dX7_turn_25 (by decide) ?_
        refine V_goto (tgt := 30) C dX7_turn_26 (by decide) ?_
        refine V_sub [0, 1, 2] rfl ?_
        exact zj30 true (by first | rfl | (simp (decide := true) [b2i, gi_si, zh14, zh22, Int32.not_le.mp zh22]; done) | (simp (decide := true) [b2i, gi_si, zh14, zh22, Int32.not_le.mp zh22]; rfl) | (simp_all (decide := true) [b2i, gi_si]; done))
  intro xa e_xa
  refine V_istore_n (lv' := [(3, .int (b2i xa)), (2, .int (b2i xl)), (0, .ref (h 0)), (1, .int xt)]) C dX7_turn_30 rfl (by decide) rfl ?_
  refine V_iload_n C dX7_turn_31 rfl 1 rfl ?_
  refine V_ifz_eq (tgt := 48) C dX7_turn_32 (by decide) (fun zh32 => ?_) (fun zh32 => ?_)
  · refine V_aload_n C dX7_turn_48 rfl 2 rfl ?_
    refine V_get (v := .int (cI u 6)) C dX7_turn_49 hi7 0 (cw_a rfl) rfl 9 (by decide) (List.mem_of_getElem? (i := 2) rfl) rfl rfl ?_
    refine V_if_le (tgt := 68) C dX7_turn_52 (by decide) (fun zh52 => ?_) (fun zh52 => ?_)
    · refine V_aload_n C dX7_turn_68 rfl 2 rfl ?_
      refine V_aload_n C dX7_turn_69 rfl 2 rfl ?_
      refine V_get (v := .int (cI u 4)) C dX7_turn_70 hi7 0 (cw_a rfl) rfl 6 (by decide) (List.mem_of_getElem? (i := 3) rfl) rfl rfl ?_
      refine V_iconst (v := 1) C dX7_turn_73 (by decide) ?_
      refine V_iadd C dX7_turn_74 ?_
      refine V_gcalliV C go hg dX7_turn_75 0 (cw_a rfl) rfl (c_X7_goOnAt l D K G tb ga9 h u ((cI u 4) + 1) ) gX7_turn_X7_goOnAt rfl 1 rfl (by decide +kernel) (by decide) ⟨Nat.le_of_ble_eq_true rfl, Nat.le_of_ble_eq_true rfl⟩ rfl (Nat.le_of_ble_eq_true rfl) (det2 ?_)
      exact E (-1) (tI u 4 ((cI u 4) + 1)) _ _ dX7_turn_78 rfl ⟨rfl, by unfold dTurn; rw [if_pos ⟨(of_decide_eq_false (e_xl.symm.trans zh32)), Int32.not_lt.mpr zh52⟩]⟩
    · refine V_aload_n C dX7_turn_55 rfl 2 rfl ?_
      refine V_dup C dX7_turn_56 rfl ?_
      refine V_get (v := .int (cI u 6)) C dX7_turn_57 hi7 0 (cw_a rfl) rfl 9 (by decide) (List.mem_of_getElem? (i := 2) rfl) rfl rfl ?_
      refine V_iconst (v := 1) C dX7_turn_60 (by decide) ?_
      refine V_isub C dX7_turn_61 ?_
      refine V_put (ws' := (cw K h (tI u 6 ((cI u 6) - 1)))) C dX7_turn_62 hi7 tyX7_ok nmX7 0 (cw_a rfl) rfl 9 (by decide) (List.mem_of_getElem? (i := 2) rfl) rfl rfl rfl rfl rfl (Nat.le_of_ble_eq_true rfl) (cw_sa (by decide) rfl rfl rfl) ?_
      refine V_goto (tgt := 79) C dX7_turn_65 (by decide) ?_
      refine V_aload_n C dX7_turn_79 rfl 2 rfl ?_
      refine V_get (v := .ref (h 2)) C dX7_turn_80 hi7 0 (cw_a rfl) rfl 1 (by decide) (List.mem_of_getElem? (i := 4) rfl) rfl rfl ?_
      refine V_gcallvV C go hg dX7_turn_83 2 (cw_a rfl) rfl (c_X6_rotate l D K G tb ga9 h (tI u 6 ((cI u 6) - 1))  hC) gX7_turn_X6_rotate rfl 0 rfl (by decide +kernel) (by decide) ⟨Nat.le_of_ble_eq_true rfl, Nat.le_of_ble_eq_true rfl⟩ rfl (Nat.le_of_ble_eq_true rfl) (det1 ?_)
      refine V_aload_n C dX7_turn_86 rfl 2 rfl ?_
      refine V_get (v := .ref (h 3)) C dX7_turn_87 hi7 0 (cw_a rfl) rfl 2 (by decide) (List.mem_of_getElem? (i := 5) rfl) rfl rfl ?_
      refine V_bipush (v := 8) C dX7_turn_90 (by decide) ?_
      refine V_aload_n C dX7_turn_92 rfl 2 rfl ?_
      refine V_get (v := .ref (h 2)) C dX7_turn_93 hi7 0 (cw_a rfl) rfl 1 (by decide) (List.mem_of_getElem? (i := 4) rfl) rfl rfl ?_
      refine V_getN (v := .ref (h (22 + (cC u)))) C gn hg dX7_turn_96 hi6 2 (cw_a rfl) rfl 4 (by decide) (List.mem_of_getElem? (i := 17) rfl) rfl rfl ?_
      refine V_getN (v := .int (cF (rRot (tI u 6 ((cI u 6) - 1))) (cC u) 4)) C gn hg dX7_turn_99 hi1 (22 + (cC u)) (cw_f hC) rfl 4 (by decide) (List.mem_of_getElem? (i := 14) rfl) rfl rfl ?_
      refine V_iload_n C dX7_turn_102 rfl 1 rfl ?_
      refine V_callvV C dX7_turn_103 3 (cw_a rfl) rfl (c_X5_write l D K (cw K h (rRot (tI u 6 ((cI u 6) - 1)))) 3 4 (h 3) (h 4) (cZ (rRot (tI u 6 ((cI u 6) - 1))) 4) (cw_a rfl) (cw_a rfl) 8 (cF (rRot (tI u 6 ((cI u 6) - 1))) (cC u) 4) xl) gX7_turn_X5_write rfl 3 rfl (by decide +kernel) (by decide) ⟨Nat.le_of_ble_eq_true rfl, Nat.le_of_ble_eq_true rfl⟩ rfl (Nat.le_of_ble_eq_true rfl) (detv ?_)
      refine V_ws (cw_Z K h (rRot (tI u 6 ((cI u 6) - 1))) (pWr (cZ (rRot (tI u 6 ((cI u 6) - 1))) 4) 8 (cF (rRot (tI u 6 ((cI u 6) - 1))) (cC u) 4) xl)) ?_
      refine V_aload_n C dX7_turn_106 rfl 2 rfl ?_
      refine V_iload_n C dX7_turn_107 rfl 0 rfl ?_
      refine V_ifz_eq (tgt := 115) C dX7_turn_108 (by decide) (fun zh108 => ?_) (fun zh108 => ?_)
      · refine V_aload_n C dX7_turn_115 rfl 2 rfl ?_
        refine V_get (v := .int (cI (rRot (tI u 6 ((cI u 6) - 1))) 4)) C dX7_turn_116 hi7 0 (cw_a rfl) rfl 6 (by decide) (List.mem_of_getElem? (i := 3) rfl) rfl rfl ?_
        refine V_iconst (v := 1) C dX7_turn_119 (by decide) ?_
        refine V_iadd C dX7_turn_120 ?_
        refine V_gcalliV C go hg dX7_turn_121 0 (cw_a rfl) rfl (c_X7_goOnAt l D K G tb ga9 h (tZ (rRot (tI u 6 ((cI u 6) - 1))) (pWr (cZ (rRot (tI u 6 ((cI u 6) - 1))) 4) 8 (cF (rRot (tI u 6 ((cI u 6) - 1))) (cC u) 4) xl)) ((cI (rRot (tI u 6 ((cI u 6) - 1))) 4) + 1) ) gX7_turn_X7_goOnAt rfl 1 rfl (by decide +kernel) (by decide) ⟨Nat.le_of_ble_eq_true rfl, Nat.le_of_ble_eq_true rfl⟩ rfl (Nat.le_of_ble_eq_true rfl) (det2 ?_)
        exact E (-1) (tI (tZ (rRot (tI u 6 ((cI u 6) - 1))) (pWr (cZ (rRot (tI u 6 ((cI u 6) - 1))) 4) 8 (cF (rRot (tI u 6 ((cI u 6) - 1))) (cC u) 4) xl)) 4 ((cI (rRot (tI u 6 ((cI u 6) - 1))) 4) + 1)) _ _ dX7_turn_124 rfl ⟨rfl, by unfold dTurn dTu0; rw [if_neg (fun q => q.2 (Int32.not_le.mp zh52)), if_neg (show ¬ (0 < cI u 5 ∨ 1 < cI u 6) from by rw [e_xl] at e_xa; have q := e_xa.symm.trans zh108; simpa using q), if_neg (of_decide_eq_false (e_xl.symm.trans zh32)), ← e_xl]; rfl⟩
      · refine V_iload_n C dX7_turn_111 rfl 3 rfl ?_
        refine V_goto (tgt := 121) C dX7_turn_112 (by decide) ?_
        refine V_gcalliV C go hg dX7_turn_121 0 (cw_a rfl) rfl (c_X7_goOnAt l D K G tb ga9 h (tZ (rRot (tI u 6 ((cI u 6) - 1))) (pWr (cZ (rRot (tI u 6 ((cI u 6) - 1))) 4) 8 (cF (rRot (tI u 6 ((cI u 6) - 1))) (cC u) 4) xl)) xt ) gX7_turn_X7_goOnAt rfl 1 rfl (by decide +kernel) (by decide) ⟨Nat.le_of_ble_eq_true rfl, Nat.le_of_ble_eq_true rfl⟩ rfl (Nat.le_of_ble_eq_true rfl) (det2 ?_)
        exact E (-1) (tI (tZ (rRot (tI u 6 ((cI u 6) - 1))) (pWr (cZ (rRot (tI u 6 ((cI u 6) - 1))) 4) 8 (cF (rRot (tI u 6 ((cI u 6) - 1))) (cC u) 4) xl)) 4 xt) _ _ dX7_turn_124 rfl ⟨rfl, by unfold dTurn dTu0; rw [if_neg (fun q => q.2 (Int32.not_le.mp zh52)), if_pos (show 0 < cI u 5 ∨ 1 < cI u 6 from by rw [e_xl] at e_xa; have q := e_xa.symm.trans zh108; simpa using q), if_neg (of_decide_eq_false (e_xl.symm.trans zh32)), ← e_xl]; rfl⟩
  · refine V_aload_n C dX7_turn_35 rfl 2 rfl ?_
    refine V_dup C dX7_turn_36 rfl ?_
    refine V_get (v := .int (cI u 5)) C dX7_turn_37 hi7 0 (cw_a rfl) rfl 8 (by decide) (List.mem_of_getElem? (i := 1) rfl) rfl rfl ?_
    refine V_iconst (v := 1) C dX7_turn_40 (by decide) ?_
    refine V_isub C dX7_turn_41 ?_
    refine V_put (ws' := (cw K h (tI u 5 ((cI u 5) - 1)))) C dX7_turn_42 hi7 tyX7_ok nmX7 0 (cw_a rfl) rfl 8 (by decide) (List.mem_of_getElem? (i := 1) rfl) rfl rfl rfl rfl rfl (Nat.le_of_ble_eq_true rfl) (cw_sa (by decide) rfl rfl rfl) ?_
    refine V_goto (tgt := 79) C dX7_turn_45 (by decide) ?_
    refine V_aload_n C dX7_turn_79 rfl 2 rfl ?_
    refine V_get (v := .ref (h 2)) C dX7_turn_80 hi7 0 (cw_a rfl) rfl 1 (by decide) (List.mem_of_getElem? (i := 4) rfl) rfl rfl ?_
    refine V_gcallvV C go hg dX7_turn_83 2 (cw_a rfl) rfl (c_X6_rotate l D K G tb ga9 h (tI u 5 ((cI u 5) - 1))  hC) gX7_turn_X6_rotate rfl 0 rfl (by decide +kernel) (by decide) ⟨Nat.le_of_ble_eq_true rfl, Nat.le_of_ble_eq_true rfl⟩ rfl (Nat.le_of_ble_eq_true rfl) (det1 ?_)
    refine V_aload_n C dX7_turn_86 rfl 2 rfl ?_
    refine V_get (v := .ref (h 3)) C dX7_turn_87 hi7 0 (cw_a rfl) rfl 2 (by decide) (List.mem_of_getElem? (i := 5) rfl) rfl rfl ?_
    refine V_bipush (v := 8) C dX7_turn_90 (by decide) ?_
    refine V_aload_n C dX7_turn_92 rfl 2 rfl ?_
    refine V_get (v := .ref (h 2)) C dX7_turn_93 hi7 0 (cw_a rfl) rfl 1 (by decide) (List.mem_of_getElem? (i := 4) rfl) rfl rfl ?_
    refine V_getN (v := .ref (h (22 + (cC u)))) C gn hg dX7_turn_96 hi6 2 (cw_a rfl) rfl 4 (by decide) (List.mem_of_getElem? (i := 17) rfl) rfl rfl ?_
    refine V_getN (v := .int (cF (rRot (tI u 5 ((cI u 5) - 1))) (cC u) 4)) C gn hg dX7_turn_99 hi1 (22 + (cC u)) (cw_f hC) rfl 4 (by decide) (List.mem_of_getElem? (i := 14) rfl) rfl rfl ?_
    refine V_iload_n C dX7_turn_102 rfl 1 rfl ?_
    refine V_callvV C dX7_turn_103 3 (cw_a rfl) rfl (c_X5_write l D K (cw K h (rRot (tI u 5 ((cI u 5) - 1)))) 3 4 (h 3) (h 4) (cZ (rRot (tI u 5 ((cI u 5) - 1))) 4) (cw_a rfl) (cw_a rfl) 8 (cF (rRot (tI u 5 ((cI u 5) - 1))) (cC u) 4) xl) gX7_turn_X5_write rfl 3 rfl (by decide +kernel) (by decide) ⟨Nat.le_of_ble_eq_true rfl, Nat.le_of_ble_eq_true rfl⟩ rfl (Nat.le_of_ble_eq_true rfl) (detv ?_)
    refine V_ws (cw_Z K h (rRot (tI u 5 ((cI u 5) - 1))) (pWr (cZ (rRot (tI u 5 ((cI u 5) - 1))) 4) 8 (cF (rRot (tI u 5 ((cI u 5) - 1))) (cC u) 4) xl)) ?_
    refine V_aload_n C dX7_turn_106 rfl 2 rfl ?_
    refine V_iload_n C dX7_turn_107 rfl 0 rfl ?_
    refine V_ifz_eq (tgt := 115) C dX7_turn_108 (by decide) (fun zh108 => ?_) (fun zh108 => ?_)
    · refine V_aload_n C dX7_turn_115 rfl 2 rfl ?_
      refine V_get (v := .int (cI (rRot (tI u 5 ((cI u 5) - 1))) 4)) C dX7_turn_116 hi7 0 (cw_a rfl) rfl 6 (by decide) (List.mem_of_getElem? (i := 3) rfl) rfl rfl ?_
      refine V_iconst (v := 1) C dX7_turn_119 (by decide) ?_
      refine V_iadd C dX7_turn_120 ?_
      refine V_gcalliV C go hg dX7_turn_121 0 (cw_a rfl) rfl (c_X7_goOnAt l D K G tb ga9 h (tZ (rRot (tI u 5 ((cI u 5) - 1))) (pWr (cZ (rRot (tI u 5 ((cI u 5) - 1))) 4) 8 (cF (rRot (tI u 5 ((cI u 5) - 1))) (cC u) 4) xl)) ((cI (rRot (tI u 5 ((cI u 5) - 1))) 4) + 1) ) gX7_turn_X7_goOnAt rfl 1 rfl (by decide +kernel) (by decide) ⟨Nat.le_of_ble_eq_true rfl, Nat.le_of_ble_eq_true rfl⟩ rfl (Nat.le_of_ble_eq_true rfl) (det2 ?_)
      exact E (-1) (tI (tZ (rRot (tI u 5 ((cI u 5) - 1))) (pWr (cZ (rRot (tI u 5 ((cI u 5) - 1))) 4) 8 (cF (rRot (tI u 5 ((cI u 5) - 1))) (cC u) 4) xl)) 4 ((cI (rRot (tI u 5 ((cI u 5) - 1))) 4) + 1)) _ _ dX7_turn_124 rfl ⟨rfl, by unfold dTurn dTu0; rw [if_neg (fun q => q.1 (of_decide_eq_true (e_xl.symm.trans zh32))), if_neg (show ¬ (0 < cI u 5 ∨ 1 < cI u 6) from by rw [e_xl] at e_xa; have q := e_xa.symm.trans zh108; simpa using q), if_pos (of_decide_eq_true (e_xl.symm.trans zh32)), ← e_xl]; rfl⟩
    · refine V_iload_n C dX7_turn_111 rfl 3 rfl ?_
      refine V_goto (tgt := 121) C dX7_turn_112 (by decide) ?_
      refine V_gcalliV C go hg dX7_turn_121 0 (cw_a rfl) rfl (c_X7_goOnAt l D K G tb ga9 h (tZ (rRot (tI u 5 ((cI u 5) - 1))) (pWr (cZ (rRot (tI u 5 ((cI u 5) - 1))) 4) 8 (cF (rRot (tI u 5 ((cI u 5) - 1))) (cC u) 4) xl)) xt ) gX7_turn_X7_goOnAt rfl 1 rfl (by decide +kernel) (by decide) ⟨Nat.le_of_ble_eq_true rfl, Nat.le_of_ble_eq_true rfl⟩ rfl (Nat.le_of_ble_eq_true rfl) (det2 ?_)
      exact E (-1) (tI (tZ (rRot (tI u 5 ((cI u 5) - 1))) (pWr (cZ (rRot (tI u 5 ((cI u 5) - 1))) 4) 8 (cF (rRot (tI u 5 ((cI u 5) - 1))) (cC u) 4) xl)) 4 xt) _ _ dX7_turn_124 rfl ⟨rfl, by unfold dTurn dTu0; rw [if_neg (fun q => q.1 (of_decide_eq_true (e_xl.symm.trans zh32))), if_pos (show 0 < cI u 5 ∨ 1 < cI u 6 from by rw [e_xl] at e_xa; have q := e_xa.symm.trans zh108; simpa using q), if_pos (of_decide_eq_true (e_xl.symm.trans zh32)), ← e_xl]; rfl⟩

def dFOk (u : CS) (a : Int32) : Prop := cF u (cC u) 0 = nI (tn (cF u (cC u) 0)) ∧ cF u (cC u) 1 = nI (tn (cF u (cC u) 1)) ∧ (¬ 120 < cF u (cC u) 0 + a → a = nI (tn a) ∧ tn (cF u (cC u) 0) + tn a ≤ 120) ∧ tn (cF u (cC u) 0) + tn (cF u (cC u) 1) ≤ 120 ∧ cI u 1 = nI (tn (cI u 1)) ∧ tn (cI u 1) ≤ 120
def dFr (u : CS) (I : I6) : CS := rRs u (iA I) (iB I) (iC I) (tn (cF u (cC u) 0)) (tn (cF u (cC u) 1)) (tn (iA I)) (tn (cI u 1))
def dWork (u : CS) (I : I6) : Int32 × CS :=
  if iO I = 1 then (-1, rWr u (iA I) (iB I).toInt64 false) else
  if iO I = 2 ∨ iO I = 3 ∨ iO I = 4 ∨ iO I = 5 then (-1, dCalc u I) else
  if iO I = 6 ∨ iO I = 7 then (-1, dCmp u I) else
  if iO I = 8 ∨ iO I = 12 then dLoad u I else
  if iO I = 9 then (-1, dAdv u I) else
  if iO I = 10 ∨ iO I = 11 then dSto u I else
  if iO I = 17 then (if 120 < cF u (cC u) 0 + iA I then (4, u) else (-1, dFr u I)) else
  if iO I = 18 then (-1, tI (tI u 5 (iA I)) 6 (iB I)) else (-1, u)
set_option maxHeartbeats 4000000 in
set_option maxRecDepth 100000 in
theorem c_X7_work (l : Launch) (D : va_G) (K : Nat → ClassId) (G : gE) (tb : Nat → Nat) (ga9 : gAll G tb) (h : Nat → Nat) (u : CS) (i9 ai : Nat) (I : I6) (hI : (cP u)[i9]? = some (ai, I)) (hC : cC u < 41) (hF : iO I = 17 → dFOk u (iA I)) : gMi l D vwCl (tys0 K) G yX7_work wsX7_work ({ frames := 4, cells := 0, slots := 0, locals := 97 } : Room) [.ref (h 0), .ref ai] (cw K h u) (cw K h) (fun r9 u9 => r9 = (dWork u I).1 ∧ u9 = (dWork u I).2) := by
  refine gMi_of (cc := cX7_work) (nL := 2) (rt := .int) (by decide) rfl (Nat.le_of_ble_eq_true rfl) ?_
  intro X C hg E
  show V X 0 0 (cw K h u) 0 [(0, .ref (h 0)), (1, .ref ai)] []
  have go := ga9.1
  have gn := ga9.2.1
  have gt := ga9.2.2
  have hi7 : ∀ w ∈ wsX70, w ∈ wsX7_work := fun _ h => List.mem_cons_of_mem _ (List.mem_append_left _ (List.mem_append_left _ (List.mem_append_left _ (List.mem_append_left _ (List.mem_append_right _ h)))))
  have hi3 : ∀ w ∈ wsX30, w ∈ wsX7_work := fun _ h => List.mem_cons_of_mem _ (List.mem_append_left _ (List.mem_append_left _ (List.mem_append_left _ (List.mem_append_left _ (List.mem_append_left _ (List.mem_append_right _ h))))))
  refine V_aload_n C dX7_work_0 rfl 1 rfl ?_
  refine V_getN (v := .int (iO I)) C gn hg dX7_work_1 hi3 (63 + i9) (cw_p (x := (ai, I)) hI) rfl 0 (by decide) (List.mem_of_getElem? (i := 25) rfl) rfl rfl ?_
  by_cases zs4_1 : (iO I) = 1
  · refine V_tab C dX7_work_4 92 (Or.inl (by rw [zs4_1]; exact ⟨by decide, by decide, _, rfl, by decide⟩)) ?_
    refine V_aload_n C dX7_work_92 rfl 0 rfl ?_
    refine V_get (v := .ref (h 2)) C dX7_work_93 hi7 0 (cw_a rfl) rfl 1 (by decide) (List.mem_of_getElem? (i := 1) rfl) rfl rfl ?_
    refine V_aload_n C dX7_work_96 rfl 1 rfl ?_
    refine V_getN (v := .int (iA I)) C gn hg dX7_work_97 hi3 (63 + i9) (cw_p (x := (ai, I)) hI) rfl 2 (by decide) (List.mem_of_getElem? (i := 28) rfl) rfl rfl ?_
    refine V_aload_n C dX7_work_100 rfl 1 rfl ?_
    refine V_getN (v := .int (iB I)) C gn hg dX7_work_101 hi3 (63 + i9) (cw_p (x := (ai, I)) hI) rfl 3 (by decide) (List.mem_of_getElem? (i := 30) rfl) rfl rfl ?_
    refine V_i2l C dX7_work_104 ?_
    refine V_iconst (v := 0) C dX7_work_105 (by decide) ?_
    refine V_gcallvV C go hg dX7_work_106 2 (cw_a rfl) rfl (c_X6_write l D K G tb ga9 h u (iA I) (Int32.toInt64 (iB I)) false hC) gX7_work_X6_write rfl 3 rfl (by decide +kernel) (by decide) ⟨Nat.le_of_ble_eq_true rfl, Nat.le_of_ble_eq_true rfl⟩ rfl (Nat.le_of_ble_eq_true rfl) (det1 ?_)
    refine V_iconst (v := (-1)) C dX7_work_109 (by decide) ?_
    exact E (-1) (rWr u (iA I) (Int32.toInt64 (iB I)) false) _ _ dX7_work_110 rfl ⟨by simp (decide := true) [dWork, zs4_1], by simp (decide := true) [dWork, zs4_1]⟩
  by_cases zs4_2 : (iO I) = 2
  · refine V_tab C dX7_work_4 111 (Or.inl (by rw [zs4_2]; exact ⟨by decide, by decide, _, rfl, by decide⟩)) ?_
    refine V_aload_n C dX7_work_111 rfl 0 rfl ?_
    refine V_aload_n C dX7_work_112 rfl 1 rfl ?_
    refine V_gcalliV C go hg dX7_work_113 0 (cw_a rfl) rfl (c_X7_calculate l D K G tb ga9 h u i9 ai I hI hC) gX7_work_X7_calculate rfl 1 rfl (by decide +kernel) (by decide) ⟨Nat.le_of_ble_eq_true rfl, Nat.le_of_ble_eq_true rfl⟩ rfl (Nat.le_of_ble_eq_true rfl) (det2 ?_)
    exact E (-1) (dCalc u I) _ _ dX7_work_116 rfl ⟨by simp (decide := true) [dWork, zs4_2], by simp (decide := true) [dWork, zs4_2]⟩
  by_cases zs4_3 : (iO I) = 3
  · refine V_tab C dX7_work_4 111 (Or.inl (by rw [zs4_3]; exact ⟨by decide, by decide, _, rfl, by decide⟩)) ?_
    refine V_aload_n C dX7_work_111 rfl 0 rfl ?_
    refine V_aload_n C dX7_work_112 rfl 1 rfl ?_
    refine V_gcalliV C go hg dX7_work_113 0 (cw_a rfl) rfl (c_X7_calculate l D K G tb ga9 h u i9 ai I hI hC) gX7_work_X7_calculate rfl 1 rfl (by decide +kernel) (by decide) ⟨Nat.le_of_ble_eq_true rfl, Nat.le_of_ble_eq_true rfl⟩ rfl (Nat.le_of_ble_eq_true rfl) (det2 ?_)
    exact E (-1) (dCalc u I) _ _ dX7_work_116 rfl ⟨by simp (decide := true) [dWork, zs4_3], by simp (decide := true) [dWork, zs4_3]⟩
  by_cases zs4_4 : (iO I) = 4
  · refine V_tab C dX7_work_4 111 (Or.inl (by rw [zs4_4]; exact ⟨by decide, by decide, _, rfl, by decide⟩)) ?_
    refine V_aload_n C dX7_work_111 rfl 0 rfl ?_
    refine V_aload_n C dX7_work_112 rfl 1 rfl ?_
    refine V_gcalliV C go hg dX7_work_113 0 (cw_a rfl) rfl (c_X7_calculate l D K G tb ga9 h u i9 ai I hI hC) gX7_work_X7_calculate rfl 1 rfl (by decide +kernel) (by decide) ⟨Nat.le_of_ble_eq_true rfl, Nat.le_of_ble_eq_true rfl⟩ rfl (Nat.le_of_ble_eq_true rfl) (det2 ?_)
    exact E (-1) (dCalc u I) _ _ dX7_work_116 rfl ⟨by simp (decide := true) [dWork, zs4_4], by simp (decide := true) [dWork, zs4_4]⟩
  by_cases zs4_5 : (iO I) = 5
  · refine V_tab C dX7_work_4 111 (Or.inl (by rw [zs4_5]; exact ⟨by decide, by decide, _, rfl, by decide⟩)) ?_
    refine V_aload_n C dX7_work_111 rfl 0 rfl ?_
    refine V_aload_n C dX7_work_112 rfl 1 rfl ?_
    refine V_gcalliV C go hg dX7_work_113 0 (cw_a rfl) rfl (c_X7_calculate l D K G tb ga9 h u i9 ai I hI hC) gX7_work_X7_calculate rfl 1 rfl (by decide +kernel) (by decide) ⟨Nat.le_of_ble_eq_true rfl, Nat.le_of_ble_eq_true rfl⟩ rfl (Nat.le_of_ble_eq_true rfl) (det2 ?_)
    exact E (-1) (dCalc u I) _ _ dX7_work_116 rfl ⟨by simp (decide := true) [dWork, zs4_5], by simp (decide := true) [dWork, zs4_5]⟩
  by_cases zs4_6 : (iO I) = 6
  · refine V_tab C dX7_work_4 117 (Or.inl (by rw [zs4_6]; exact ⟨by decide, by decide, _, rfl, by decide⟩)) ?_
    refine V_aload_n C dX7_work_117 rfl 0 rfl ?_
    refine V_aload_n C dX7_work_118 rfl 1 rfl ?_
    refine V_gcalliV C go hg dX7_work_119 0 (cw_a rfl) rfl (c_X7_compare l D K G tb ga9 h u i9 ai I hI hC) gX7_work_X7_compare rfl 1 rfl (by decide +kernel) (by decide) ⟨Nat.le_of_ble_eq_true rfl, Nat.le_of_ble_eq_true rfl⟩ rfl (Nat.le_of_ble_eq_true rfl) (det2 ?_)
    exact E (-1) (dCmp u I) _ _ dX7_work_122 rfl ⟨by simp (decide := true) [dWork, zs4_6], by simp (decide := true) [dWork, zs4_6]⟩
  by_cases zs4_7 : (iO I) = 7
  · refine V_tab C dX7_work_4 117 (Or.inl (by rw [zs4_7]; exact ⟨by decide, by decide, _, rfl, by decide⟩)) ?_
    refine V_aload_n C dX7_work_117 rfl 0 rfl ?_
    refine V_aload_n C dX7_work_118 rfl 1 rfl ?_
    refine V_gcalliV C go hg dX7_work_119 0 (cw_a rfl) rfl (c_X7_compare l D K G tb ga9 h u i9 ai I hI hC) gX7_work_X7_compare rfl 1 rfl (by decide +kernel) (by decide) ⟨Nat.le_of_ble_eq_true rfl, Nat.le_of_ble_eq_true rfl⟩ rfl (Nat.le_of_ble_eq_true rfl) (det2 ?_)
    exact E (-1) (dCmp u I) _ _ dX7_work_122 rfl ⟨by simp (decide := true) [dWork, zs4_7], by simp (decide := true) [dWork, zs4_7]⟩
  by_cases zs4_8 : (iO I) = 8
  · refine V_tab C dX7_work_4 123 (Or.inl (by rw [zs4_8]; exact ⟨by decide, by decide, _, rfl, by decide⟩)) ?_
    refine V_aload_n C dX7_work_123 rfl 0 rfl ?_
    refine V_aload_n C dX7_work_124 rfl 1 rfl ?_
    refine V_gcalliV C go hg dX7_work_125 0 (cw_a rfl) rfl (c_X7_load l D K G tb ga9 h u i9 ai I hI hC) gX7_work_X7_load rfl 1 rfl (by decide +kernel) (by decide) ⟨Nat.le_of_ble_eq_true rfl, Nat.le_of_ble_eq_true rfl⟩ rfl (Nat.le_of_ble_eq_true rfl) (det2 ?_)
    exact E ((dLoad u I).1) ((dLoad u I).2) _ _ dX7_work_128 rfl ⟨by simp (decide := true) [dWork, zs4_8], by simp (decide := true) [dWork, zs4_8]⟩
  by_cases zs4_9 : (iO I) = 9
  · refine V_tab C dX7_work_4 129 (Or.inl (by rw [zs4_9]; exact ⟨by decide, by decide, _, rfl, by decide⟩)) ?_
    refine V_aload_n C dX7_work_129 rfl 0 rfl ?_
    refine V_aload_n C dX7_work_130 rfl 1 rfl ?_
    refine V_gcalliV C go hg dX7_work_131 0 (cw_a rfl) rfl (c_X7_advance l D K G tb ga9 h u i9 ai I hI hC) gX7_work_X7_advance rfl 1 rfl (by decide +kernel) (by decide) ⟨Nat.le_of_ble_eq_true rfl, Nat.le_of_ble_eq_true rfl⟩ rfl (Nat.le_of_ble_eq_true rfl) (det2 ?_)
    exact E (-1) (dAdv u I) _ _ dX7_work_134 rfl ⟨by simp (decide := true) [dWork, zs4_9], by simp (decide := true) [dWork, zs4_9]⟩
  by_cases zs4_10 : (iO I) = 10
  · refine V_tab C dX7_work_4 135 (Or.inl (by rw [zs4_10]; exact ⟨by decide, by decide, _, rfl, by decide⟩)) ?_
    refine V_aload_n C dX7_work_135 rfl 0 rfl ?_
    refine V_aload_n C dX7_work_136 rfl 1 rfl ?_
    refine V_gcalliV C go hg dX7_work_137 0 (cw_a rfl) rfl (c_X7_store l D K G tb ga9 h u i9 ai I hI hC) gX7_work_X7_store rfl 1 rfl (by decide +kernel) (by decide) ⟨Nat.le_of_ble_eq_true rfl, Nat.le_of_ble_eq_true rfl⟩ rfl (Nat.le_of_ble_eq_true rfl) (det2 ?_)
    exact E ((dSto u I).1) ((dSto u I).2) _ _ dX7_work_140 rfl ⟨by simp (decide := true) [dWork, zs4_10], by simp (decide := true) [dWork, zs4_10]⟩
  by_cases zs4_11 : (iO I) = 11
  · refine V_tab C dX7_work_4 135 (Or.inl (by rw [zs4_11]; exact ⟨by decide, by decide, _, rfl, by decide⟩)) ?_
    refine V_aload_n C dX7_work_135 rfl 0 rfl ?_
    refine V_aload_n C dX7_work_136 rfl 1 rfl ?_
    refine V_gcalliV C go hg dX7_work_137 0 (cw_a rfl) rfl (c_X7_store l D K G tb ga9 h u i9 ai I hI hC) gX7_work_X7_store rfl 1 rfl (by decide +kernel) (by decide) ⟨Nat.le_of_ble_eq_true rfl, Nat.le_of_ble_eq_true rfl⟩ rfl (Nat.le_of_ble_eq_true rfl) (det2 ?_)
    exact E ((dSto u I).1) ((dSto u I).2) _ _ dX7_work_140 rfl ⟨by simp (decide := true) [dWork, zs4_11], by simp (decide := true) [dWork, zs4_11]⟩
  by_cases zs4_12 : (iO I) = 12
  · refine V_tab C dX7_work_4 123 (Or.inl (by rw [zs4_12]; exact ⟨by decide, by decide, _, rfl, by decide⟩)) ?_
    refine V_aload_n C dX7_work_123 rfl 0 rfl ?_
    refine V_aload_n C dX7_work_124 rfl 1 rfl ?_
    refine V_gcalliV C go hg dX7_work_125 0 (cw_a rfl) rfl (c_X7_load l D K G tb ga9 h u i9 ai I hI hC) gX7_work_X7_load rfl 1 rfl (by decide +kernel) (by decide) ⟨Nat.le_of_ble_eq_true rfl, Nat.le_of_ble_eq_true rfl⟩ rfl (Nat.le_of_ble_eq_true rfl) (det2 ?_)
    exact E ((dLoad u I).1) ((dLoad u I).2) _ _ dX7_work_128 rfl ⟨by simp (decide := true) [dWork, zs4_12], by simp (decide := true) [dWork, zs4_12]⟩
  by_cases zs4_13 : (iO I) = 13
  · refine V_tab C dX7_work_4 187 (Or.inl (by rw [zs4_13]; exact ⟨by decide, by decide, _, rfl, by decide⟩)) ?_
    refine V_iconst (v := (-1)) C dX7_work_187 (by decide) ?_
    exact E (-1) u _ _ dX7_work_188 rfl ⟨by simp (decide := true) [dWork, zs4_13], by simp (decide := true) [dWork, zs4_13]⟩
  by_cases zs4_14 : (iO I) = 14
  · refine V_tab C dX7_work_4 187 (Or.inl (by rw [zs4_14]; exact ⟨by decide, by decide, _, rfl, by decide⟩)) ?_
    refine V_iconst (v := (-1)) C dX7_work_187 (by decide) ?_
    exact E (-1) u _ _ dX7_work_188 rfl ⟨by simp (decide := true) [dWork, zs4_14], by simp (decide := true) [dWork, zs4_14]⟩
  by_cases zs4_15 : (iO I) = 15
  · refine V_tab C dX7_work_4 187 (Or.inl (by rw [zs4_15]; exact ⟨by decide, by decide, _, rfl, by decide⟩)) ?_
    refine V_iconst (v := (-1)) C dX7_work_187 (by decide) ?_
    exact E (-1) u _ _ dX7_work_188 rfl ⟨by simp (decide := true) [dWork, zs4_15], by simp (decide := true) [dWork, zs4_15]⟩
  by_cases zs4_16 : (iO I) = 16
  · refine V_tab C dX7_work_4 187 (Or.inl (by rw [zs4_16]; exact ⟨by decide, by decide, _, rfl, by decide⟩)) ?_
    refine V_iconst (v := (-1)) C dX7_work_187 (by decide) ?_
    exact E (-1) u _ _ dX7_work_188 rfl ⟨by simp (decide := true) [dWork, zs4_16], by simp (decide := true) [dWork, zs4_16]⟩
  by_cases zs4_17 : (iO I) = 17
  · refine V_tab C dX7_work_4 141 (Or.inl (by rw [zs4_17]; exact ⟨by decide, by decide, _, rfl, by decide⟩)) ?_
    refine V_aload_n C dX7_work_141 rfl 0 rfl ?_
    refine V_get (v := .ref (h 2)) C dX7_work_142 hi7 0 (cw_a rfl) rfl 1 (by decide) (List.mem_of_getElem? (i := 1) rfl) rfl rfl ?_
    refine V_aload_n C dX7_work_145 rfl 1 rfl ?_
    refine V_getN (v := .int (iA I)) C gn hg dX7_work_146 hi3 (63 + i9) (cw_p (x := (ai, I)) hI) rfl 2 (by decide) (List.mem_of_getElem? (i := 28) rfl) rfl rfl ?_
    refine V_aload_n C dX7_work_149 rfl 1 rfl ?_
    refine V_getN (v := .int (iB I)) C gn hg dX7_work_150 hi3 (63 + i9) (cw_p (x := (ai, I)) hI) rfl 3 (by decide) (List.mem_of_getElem? (i := 30) rfl) rfl rfl ?_
    refine V_aload_n C dX7_work_153 rfl 1 rfl ?_
    refine V_getN (v := .int (iC I)) C gn hg dX7_work_154 hi3 (63 + i9) (cw_p (x := (ai, I)) hI) rfl 4 (by decide) (List.mem_of_getElem? (i := 32) rfl) rfl rfl ?_
    refine V_gcalliV C go hg dX7_work_157 2 (cw_a rfl) rfl (c_X6_reshape l D K G tb ga9 h u (iA I) (iB I) (iC I) (tn (cF u (cC u) 0)) (tn (cF u (cC u) 1)) (tn (iA I)) (tn (cI u 1)) hC (hF zs4_17).1 (hF zs4_17).2.1 (hF zs4_17).2.2.1 (hF zs4_17).2.2.2.1 (hF zs4_17).2.2.2.2.1 (hF zs4_17).2.2.2.2.2) gX7_work_X6_reshape rfl 3 rfl (by decide +kernel) (by decide) ⟨Nat.le_of_ble_eq_true rfl, Nat.le_of_ble_eq_true rfl⟩ rfl (Nat.le_of_ble_eq_true rfl) (det2 ?_)
    refine V_ifz_eq (tgt := 167) C dX7_work_160 (by decide) (fun zh160 => ?_) (fun zh160 => ?_)
    · refine V_iconst (v := 4) C dX7_work_167 (by decide) ?_
      exact E 4 (if 120 < cF u (cC u) 0 + iA I then u else dFr u I) _ _ dX7_work_168 rfl ⟨by have zq : 120 < cF u (cC u) 0 + iA I := Decidable.byContradiction (fun q => by rw [if_neg q] at zh160; cases zh160); simp (decide := true) [dWork, zs4_17, zq], by have zq : 120 < cF u (cC u) 0 + iA I := Decidable.byContradiction (fun q => by rw [if_neg q] at zh160; cases zh160); simp (decide := true) [dWork, zs4_17, zq]⟩
    · refine V_iconst (v := (-1)) C dX7_work_163 (by decide) ?_
      refine V_goto (tgt := 168) C dX7_work_164 (by decide) ?_
      exact E (-1) (if 120 < cF u (cC u) 0 + iA I then u else dFr u I) _ _ dX7_work_168 rfl ⟨by have zq : ¬ 120 < cF u (cC u) 0 + iA I := (fun q => by rw [if_pos q] at zh160; cases zh160); simp (decide := true) [dWork, zs4_17, zq], by have zq : ¬ 120 < cF u (cC u) 0 + iA I := (fun q => by rw [if_pos q] at zh160; cases zh160); simp (decide := true) [dWork, zs4_17, zq]⟩
  by_cases zs4_18 : (iO I) = 18
  · refine V_tab C dX7_work_4 169 (Or.inl (by rw [zs4_18]; exact ⟨by decide, by decide, _, rfl, by decide⟩)) ?_
    refine V_aload_n C dX7_work_169 rfl 0 rfl ?_
    refine V_aload_n C dX7_work_170 rfl 1 rfl ?_
    refine V_getN (v := .int (iA I)) C gn hg dX7_work_171 hi3 (63 + i9) (cw_p (x := (ai, I)) hI) rfl 2 (by decide) (List.mem_of_getElem? (i := 28) rfl) rfl rfl ?_
    refine V_put (ws' := (cw K h (tI u 5 (iA I)))) C dX7_work_174 hi7 tyX7_ok nmX7 0 (cw_a rfl) rfl 8 (by decide) (List.mem_of_getElem? (i := 2) rfl) rfl rfl rfl rfl rfl (Nat.le_of_ble_eq_true rfl) (cw_sa (by decide) rfl rfl rfl) ?_
    refine V_aload_n C dX7_work_177 rfl 0 rfl ?_
    refine V_aload_n C dX7_work_178 rfl 1 rfl ?_
    refine V_getN (v := .int (iB I)) C gn hg dX7_work_179 hi3 (63 + i9) (cw_p (x := (ai, I)) hI) rfl 3 (by decide) (List.mem_of_getElem? (i := 30) rfl) rfl rfl ?_
    refine V_put (ws' := (cw K h (tI (tI u 5 (iA I)) 6 (iB I)))) C dX7_work_182 hi7 tyX7_ok nmX7 0 (cw_a rfl) rfl 9 (by decide) (List.mem_of_getElem? (i := 3) rfl) rfl rfl rfl rfl rfl (Nat.le_of_ble_eq_true rfl) (cw_sa (by decide) rfl rfl rfl) ?_
    refine V_iconst (v := (-1)) C dX7_work_185 (by decide) ?_
    exact E (-1) (tI (tI u 5 (iA I)) 6 (iB I)) _ _ dX7_work_186 rfl ⟨by simp (decide := true) [dWork, zs4_18], by simp (decide := true) [dWork, zs4_18]⟩
  refine V_tab C dX7_work_4 187 (Or.inr ⟨by have q_0 := i32ne (c := 1) 1 (by decide) zs4_1; have q_1 := i32ne (c := 2) 2 (by decide) zs4_2; have q_2 := i32ne (c := 3) 3 (by decide) zs4_3; have q_3 := i32ne (c := 4) 4 (by decide) zs4_4; have q_4 := i32ne (c := 5) 5 (by decide) zs4_5; have q_5 := i32ne (c := 6) 6 (by decide) zs4_6; have q_6 := i32ne (c := 7) 7 (by decide) zs4_7; have q_7 := i32ne (c := 8) 8 (by decide) zs4_8; have q_8 := i32ne (c := 9) 9 (by decide) zs4_9; have q_9 := i32ne (c := 10) 10 (by decide) zs4_10; have q_10 := i32ne (c := 11) 11 (by decide) zs4_11; have q_11 := i32ne (c := 12) 12 (by decide) zs4_12; have q_12 := i32ne (c := 13) 13 (by decide) zs4_13; have q_13 := i32ne (c := 14) 14 (by decide) zs4_14; have q_14 := i32ne (c := 15) 15 (by decide) zs4_15; have q_15 := i32ne (c := 16) 16 (by decide) zs4_16; have q_16 := i32ne (c := 17) 17 (by decide) zs4_17; have q_17 := i32ne (c := 18) 18 (by decide) zs4_18; omega, by decide⟩) ?_
  refine V_iconst (v := (-1)) C dX7_work_187 (by decide) ?_
  exact E (-1) u _ _ dX7_work_188 rfl ⟨by simp (decide := true) [dWork, zs4_1, zs4_2, zs4_3, zs4_4, zs4_5, zs4_6, zs4_7, zs4_8, zs4_9, zs4_10, zs4_11, zs4_12, zs4_13, zs4_14, zs4_15, zs4_16, zs4_17, zs4_18], by simp (decide := true) [dWork, zs4_1, zs4_2, zs4_3, zs4_4, zs4_5, zs4_6, zs4_7, zs4_8, zs4_9, zs4_10, zs4_11, zs4_12, zs4_13, zs4_14, zs4_15, zs4_16, zs4_17, zs4_18]⟩

/-- what CALL and RETURN need -/
def dCOk (u : CS) : Prop := cI u 0 = nI (tn (cI u 0)) ∧ tn (cI u 0) < 41
def dROk (u : CS) (d : Nat) : Prop := cF u (cC u) 0 + cF u (cC u) 1 = nI (tn (cF u (cC u) 0 + cF u (cC u) 1)) ∧ tn (cF u (cC u) 0 + cF u (cC u) 1) ≤ 120 ∧ cF u d 0 = nI (tn (cF u d 0)) ∧ cF u d 1 = nI (tn (cF u d 1)) ∧ tn (cF u d 0) + tn (cF u d 1) ≤ 120 ∧ cI u 1 = nI (tn (cI u 1)) ∧ tn (cI u 1) ≤ 120
def dPre (u : CS) (I : I6) : Prop := dCOk u ∧ (iO I = 17 → dFOk u (iA I)) ∧ (iO I = 16 → ¬ cI u 0 = 0 → dROk u (tn (cI u 0) - 1))
def dLv (u : CS) : CS := rLv u (tn (cI u 0) - 1) (tn (cF u (cC u) 0 + cF u (cC u) 1)) (tn (cF u (tn (cI u 0) - 1) 0)) (tn (cF u (tn (cI u 0) - 1) 1)) (tn (cI u 1))
def dStep (u : CS) (I : I6) : Int32 × CS :=
  if pIs (cZ u 4) (iQ I) (cF u (cC u) 4) = false then (-1, tI u 4 (cI u 4 + 1)) else
  if dMiss u I = true then (1, u) else
  if iO I = 13 then (-1, tI u 4 (if rNat u (iA I) = true then iB I else cI u 4 + 1)) else
  if iO I = 14 then (-1, tI u 4 (iA I)) else
  if iO I = 15 then (if tn (cI u 0) + 1 < 41 then (-1, tI (rEn u (cI u 4 + 1) (tn (cI u 0))) 4 (iA I)) else (4, u)) else
  if iO I = 16 then (if cI u 0 = 0 then (0, tE u true) else (-1, tI (dLv u) 4 (cF u (tn (cI u 0) - 1) 5))) else
  if iO I = 19 then (-1, dTurn u (iA I)) else
  if iO I = 20 then (0, tE u true) else
  if (dWork u I).1 = -1 then (-1, tI (dWork u I).2 4 (cI (dWork u I).2 4 + 1)) else dWork u I
set_option maxHeartbeats 4000000 in
set_option maxRecDepth 100000 in
theorem c_X7_step_true (l : Launch) (D : va_G) (K : Nat → ClassId) (G : gE) (tb : Nat → Nat) (ga9 : gAll G tb) (h : Nat → Nat) (u : CS)  (hC : cC u < 41) (hsw : cS u = true) (i9 ai : Nat) (I : I6) (hI : (cP u)[i9]? = some (ai, I)) (hat : lAt (cI u 7) (cQ u 0) (cI u 4) = some ai) (hp9 : dPre u I) : gMi l D vwCl (tys0 K) G yX7_step wsX7_step ({ frames := 5, cells := 0, slots := 0, locals := 118 } : Room) [.ref (h 0)] (cw K h u) (cw K h) (fun r9 u9 => r9 = (dStep u I).1 ∧ u9 = (dStep u I).2) := by
  refine gMi_of (cc := cX7_step) (nL := 3) (rt := .int) (by decide) rfl (Nat.le_of_ble_eq_true rfl) ?_
  intro X C hg E
  show V X 0 0 (cw K h u) 0 [(0, .ref (h 0))] []
  have go := ga9.1
  have gn := ga9.2.1
  have gt := ga9.2.2
  have hi7 : ∀ w ∈ wsX70, w ∈ wsX7_step := fun _ h => List.mem_cons_of_mem _ (List.mem_append_left _ (List.mem_append_left _ (List.mem_append_left _ (List.mem_append_left _ (List.mem_append_left _ (List.mem_append_left _ (List.mem_append_right _ h)))))))
  have hi3 : ∀ w ∈ wsX30, w ∈ wsX7_step := fun _ h => List.mem_cons_of_mem _ (List.mem_append_left _ (List.mem_append_left _ (List.mem_append_left _ (List.mem_append_left _ (List.mem_append_left _ (List.mem_append_right _ h))))))
  have hi6 : ∀ w ∈ wsX60, w ∈ wsX7_step := fun _ h => List.mem_cons_of_mem _ (List.mem_append_left _ (List.mem_append_left _ (List.mem_append_left _ (List.mem_append_left _ (List.mem_append_right _ h)))))
  have hi1 : ∀ w ∈ wsX10, w ∈ wsX7_step := fun _ h => List.mem_cons_of_mem _ (List.mem_append_left _ (List.mem_append_left _ (List.mem_append_left _ (List.mem_append_right _ h))))
  refine V_aload_n C dX7_step_0 rfl 0 rfl ?_
  refine V_get (v := .ref (h 18)) C dX7_step_1 hi7 0 (cw_a rfl) rfl 5 (by decide) (List.mem_of_getElem? (i := 1) rfl) rfl (by show some (Value.ref _) = _; rw [show cS u = true from hsw]; rfl) ?_
  refine V_aload_n C dX7_step_4 rfl 0 rfl ?_
  refine V_get (v := .int (cI u 4)) C dX7_step_5 hi7 0 (cw_a rfl) rfl 6 (by decide) (List.mem_of_getElem? (i := 2) rfl) rfl rfl ?_
  refine V_gcallqV C go hg dX7_step_8 18 (cw_a rfl) rfl (c_X4_at l D K G (cw K h u) 18 19 (h 18) (h 19) (cI u 7) (cQ u 0) (cw_a rfl) (cw_a rfl) (cI u 4)) gX7_step_X4_at rfl 1 rfl (by decide +kernel) (by decide) ⟨Nat.le_of_ble_eq_true rfl, Nat.le_of_ble_eq_true rfl⟩ rfl (Nat.le_of_ble_eq_true rfl) (det0 ?_)
  rw [hat]
  refine V_astore_n (lv' := [(1, .ref ai), (0, .ref (h 0))]) C dX7_step_11 rfl (by decide) rfl ?_
  refine V_aload_n C dX7_step_12 rfl 0 rfl ?_
  refine V_ifnonnull (tgt := 21) C dX7_step_13 (by decide) ?_
  refine V_aload_n C dX7_step_21 rfl 1 rfl ?_
  refine V_get (v := .ref (h 3)) C dX7_step_22 hi7 0 (cw_a rfl) rfl 2 (by decide) (List.mem_of_getElem? (i := 3) rfl) rfl rfl ?_
  refine V_aload_n C dX7_step_25 rfl 0 rfl ?_
  refine V_getN (v := .int (iQ I)) C gn hg dX7_step_26 hi3 (63 + i9) (cw_p (x := (ai, I)) hI) rfl 1 (by decide) (List.mem_of_getElem? (i := 26) rfl) rfl rfl ?_
  refine V_aload_n C dX7_step_29 rfl 1 rfl ?_
  refine V_get (v := .ref (h 2)) C dX7_step_30 hi7 0 (cw_a rfl) rfl 1 (by decide) (List.mem_of_getElem? (i := 4) rfl) rfl rfl ?_
  refine V_getN (v := .ref (h (22 + (cC u)))) C gn hg dX7_step_33 hi6 2 (cw_a rfl) rfl 4 (by decide) (List.mem_of_getElem? (i := 17) rfl) rfl rfl ?_
  refine V_getN (v := .int (cF u (cC u) 4)) C gn hg dX7_step_36 hi1 (22 + (cC u)) (cw_f hC) rfl 4 (by decide) (List.mem_of_getElem? (i := 14) rfl) rfl rfl ?_
  refine V_calliV C dX7_step_39 3 (cw_a rfl) rfl (c_X5_isTrue l D K (cw K h u) 3 4 (h 3) (h 4) (cZ u 4) (cw_a rfl) (cw_a rfl) (iQ I) (cF u (cC u) 4)) gX7_step_X5_isTrue rfl 2 rfl (by decide +kernel) (by decide) ⟨Nat.le_of_ble_eq_true rfl, Nat.le_of_ble_eq_true rfl⟩ rfl (Nat.le_of_ble_eq_true rfl) (det0 ?_)
  refine V_ifz_ne (tgt := 56) C dX7_step_42 (by decide) (fun zh42 => ?_) (fun zh42 => ?_)
  · refine V_aload_n C dX7_step_56 rfl 1 rfl ?_
    refine V_aload_n C dX7_step_57 rfl 0 rfl ?_
    refine V_gcalliV C go hg dX7_step_58 0 (cw_a rfl) rfl (c_X7_namesMissingRegister l D K G tb ga9 h u i9 ai I hI hC) gX7_step_X7_namesMissingRegister rfl 1 rfl (by decide +kernel) (by decide) ⟨Nat.le_of_ble_eq_true rfl, Nat.le_of_ble_eq_true rfl⟩ rfl (Nat.le_of_ble_eq_true rfl) (det2 ?_)
    refine V_ifz_eq (tgt := 66) C dX7_step_61 (by decide) (fun zh61 => ?_) (fun zh61 => ?_)
    · refine V_aload_n C dX7_step_66 rfl 0 rfl ?_
      refine V_getN (v := .int (iO I)) C gn hg dX7_step_67 hi3 (63 + i9) (cw_p (x := (ai, I)) hI) rfl 0 (by decide) (List.mem_of_getElem? (i := 25) rfl) rfl rfl ?_
      by_cases zs70_13 : (iO I) = 13
      · refine V_tab C dX7_step_70 116 (Or.inl (by rw [zs70_13]; exact ⟨by decide, by decide, _, rfl, by decide⟩)) ?_
        refine V_aload_n C dX7_step_116 rfl 1 rfl ?_
        refine V_aload_n C dX7_step_117 rfl 1 rfl ?_
        refine V_get (v := .ref (h 2)) C dX7_step_118 hi7 0 (cw_a rfl) rfl 1 (by decide) (List.mem_of_getElem? (i := 4) rfl) rfl rfl ?_
        refine V_aload_n C dX7_step_121 rfl 0 rfl ?_
        refine V_getN (v := .int (iA I)) C gn hg dX7_step_122 hi3 (63 + i9) (cw_p (x := (ai, I)) hI) rfl 2 (by decide) (List.mem_of_getElem? (i := 28) rfl) rfl rfl ?_
        refine V_gcalliV C go hg dX7_step_125 2 (cw_a rfl) rfl (c_X6_natOf l D K G tb ga9 h u (iA I) hC) gX7_step_X6_natOf rfl 1 rfl (by decide +kernel) (by decide) ⟨Nat.le_of_ble_eq_true rfl, Nat.le_of_ble_eq_true rfl⟩ rfl (Nat.le_of_ble_eq_true rfl) (det2 ?_)
        refine V_ifz_eq (tgt := 138) C dX7_step_128 (by decide) (fun zh128 => ?_) (fun zh128 => ?_)
        · refine V_aload_n C dX7_step_138 rfl 1 rfl ?_
          refine V_get (v := .int (cI u 4)) C dX7_step_139 hi7 0 (cw_a rfl) rfl 6 (by decide) (List.mem_of_getElem? (i := 2) rfl) rfl rfl ?_
          refine V_iconst (v := 1) C dX7_step_142 (by decide) ?_
          refine V_iadd C dX7_step_143 ?_
          refine V_gcalliV C go hg dX7_step_144 0 (cw_a rfl) rfl (c_X7_goOnAt l D K G tb ga9 h u ((cI u 4) + 1) ) gX7_step_X7_goOnAt rfl 1 rfl (by decide +kernel) (by decide) ⟨Nat.le_of_ble_eq_true rfl, Nat.le_of_ble_eq_true rfl⟩ rfl (Nat.le_of_ble_eq_true rfl) (det2 ?_)
          exact E (-1) (tI u 4 ((cI u 4) + 1)) _ _ dX7_step_147 rfl ⟨by unfold dStep; simp (decide := true) [zh42, zh61, zs70_13, zh128], by unfold dStep; simp (decide := true) [zh42, zh61, zs70_13, zh128]⟩
        · refine V_aload_n C dX7_step_131 rfl 0 rfl ?_
          refine V_getN (v := .int (iB I)) C gn hg dX7_step_132 hi3 (63 + i9) (cw_p (x := (ai, I)) hI) rfl 3 (by decide) (List.mem_of_getElem? (i := 30) rfl) rfl rfl ?_
          refine V_goto (tgt := 144) C dX7_step_135 (by decide) ?_
          refine V_gcalliV C go hg dX7_step_144 0 (cw_a rfl) rfl (c_X7_goOnAt l D K G tb ga9 h u (iB I) ) gX7_step_X7_goOnAt rfl 1 rfl (by decide +kernel) (by decide) ⟨Nat.le_of_ble_eq_true rfl, Nat.le_of_ble_eq_true rfl⟩ rfl (Nat.le_of_ble_eq_true rfl) (det2 ?_)
          exact E (-1) (tI u 4 (iB I)) _ _ dX7_step_147 rfl ⟨by unfold dStep; simp (decide := true) [zh42, zh61, zs70_13, zh128], by unfold dStep; simp (decide := true) [zh42, zh61, zs70_13, zh128]⟩
      by_cases zs70_14 : (iO I) = 14
      · refine V_tab C dX7_step_70 148 (Or.inl (by rw [zs70_14]; exact ⟨by decide, by decide, _, rfl, by decide⟩)) ?_
        refine V_aload_n C dX7_step_148 rfl 1 rfl ?_
        refine V_aload_n C dX7_step_149 rfl 0 rfl ?_
        refine V_getN (v := .int (iA I)) C gn hg dX7_step_150 hi3 (63 + i9) (cw_p (x := (ai, I)) hI) rfl 2 (by decide) (List.mem_of_getElem? (i := 28) rfl) rfl rfl ?_
        refine V_gcalliV C go hg dX7_step_153 0 (cw_a rfl) rfl (c_X7_goOnAt l D K G tb ga9 h u (iA I) ) gX7_step_X7_goOnAt rfl 1 rfl (by decide +kernel) (by decide) ⟨Nat.le_of_ble_eq_true rfl, Nat.le_of_ble_eq_true rfl⟩ rfl (Nat.le_of_ble_eq_true rfl) (det2 ?_)
        exact E (-1) (tI u 4 (iA I)) _ _ dX7_step_156 rfl ⟨by unfold dStep; simp (decide := true) [zh42, zh61, zs70_14], by unfold dStep; simp (decide := true) [zh42, zh61, zs70_14]⟩
      by_cases zs70_15 : (iO I) = 15
      · refine V_tab C dX7_step_70 157 (Or.inl (by rw [zs70_15]; exact ⟨by decide, by decide, _, rfl, by decide⟩)) ?_
        refine V_aload_n C dX7_step_157 rfl 1 rfl ?_
        refine V_get (v := .ref (h 2)) C dX7_step_158 hi7 0 (cw_a rfl) rfl 1 (by decide) (List.mem_of_getElem? (i := 4) rfl) rfl rfl ?_
        refine V_aload_n C dX7_step_161 rfl 1 rfl ?_
        refine V_get (v := .int (cI u 4)) C dX7_step_162 hi7 0 (cw_a rfl) rfl 6 (by decide) (List.mem_of_getElem? (i := 2) rfl) rfl rfl ?_
        refine V_iconst (v := 1) C dX7_step_165 (by decide) ?_
        refine V_iadd C dX7_step_166 ?_
        refine V_gcalliV C go hg dX7_step_167 2 (cw_a rfl) rfl (c_X6_enterFrame l D K G tb ga9 h u ((cI u 4) + 1) (tn (cI u 0)) hC hp9.1.1 hp9.1.2) gX7_step_X6_enterFrame rfl 1 rfl (by decide +kernel) (by decide) ⟨Nat.le_of_ble_eq_true rfl, Nat.le_of_ble_eq_true rfl⟩ rfl (Nat.le_of_ble_eq_true rfl) (det2 ?_)
        refine V_ifz_eq (tgt := 184) C dX7_step_170 (by decide) (fun zh170 => ?_) (fun zh170 => ?_)
        · have zq : ¬ tn (cI u 0) + 1 < 41 := (fun q => by rw [if_pos q] at zh170; cases zh170)
          refine V_ws (ws' := cw K h u) (by rw [if_neg zq]) ?_
          refine V_iconst (v := 4) C dX7_step_184 (by decide) ?_
          exact E 4 u _ _ dX7_step_185 rfl ⟨by have zq : ¬ tn (cI u 0) + 1 < 41 := (fun q => by rw [if_pos q] at zh170; cases zh170); unfold dStep; simp (decide := true) [zh42, zh61, zs70_15, zq], by have zq : ¬ tn (cI u 0) + 1 < 41 := (fun q => by rw [if_pos q] at zh170; cases zh170); unfold dStep; simp (decide := true) [zh42, zh61, zs70_15, zq]⟩
        · have zq : tn (cI u 0) + 1 < 41 := Decidable.byContradiction (fun q => by rw [if_neg q] at zh170; cases zh170)
          refine V_ws (ws' := cw K h (rEn u (cI u 4 + 1) (tn (cI u 0)))) (by rw [if_pos zq]) ?_
          refine V_aload_n C dX7_step_173 rfl 1 rfl ?_
          refine V_aload_n C dX7_step_174 rfl 0 rfl ?_
          refine V_getN (v := .int (iA I)) C gn hg dX7_step_175 hi3 (63 + i9) (cw_p (x := (ai, I)) hI) rfl 2 (by decide) (List.mem_of_getElem? (i := 28) rfl) rfl rfl ?_
          refine V_gcalliV C go hg dX7_step_178 0 (cw_a rfl) rfl (c_X7_goOnAt l D K G tb ga9 h (rEn u (cI u 4 + 1) (tn (cI u 0))) (iA I) ) gX7_step_X7_goOnAt rfl 1 rfl (by decide +kernel) (by decide) ⟨Nat.le_of_ble_eq_true rfl, Nat.le_of_ble_eq_true rfl⟩ rfl (Nat.le_of_ble_eq_true rfl) (det2 ?_)
          refine V_goto (tgt := 185) C dX7_step_181 (by decide) ?_
          exact E (-1) (tI (rEn u (cI u 4 + 1) (tn (cI u 0))) 4 (iA I)) _ _ dX7_step_185 rfl ⟨by have zq : tn (cI u 0) + 1 < 41 := Decidable.byContradiction (fun q => by rw [if_neg q] at zh170; cases zh170); unfold dStep; simp (decide := true) [zh42, zh61, zs70_15, zq], by have zq : tn (cI u 0) + 1 < 41 := Decidable.byContradiction (fun q => by rw [if_neg q] at zh170; cases zh170); unfold dStep; simp (decide := true) [zh42, zh61, zs70_15, zq]⟩
      by_cases zs70_16 : (iO I) = 16
      · refine V_tab C dX7_step_70 186 (Or.inl (by rw [zs70_16]; exact ⟨by decide, by decide, _, rfl, by decide⟩)) ?_
        refine V_aload_n C dX7_step_186 rfl 1 rfl ?_
        refine V_get (v := .ref (h 2)) C dX7_step_187 hi7 0 (cw_a rfl) rfl 1 (by decide) (List.mem_of_getElem? (i := 4) rfl) rfl rfl ?_
        refine V_getN (v := .int (cI u 0)) C gn hg dX7_step_190 hi6 2 (cw_a rfl) rfl 5 (by decide) (List.mem_of_getElem? (i := 18) rfl) rfl rfl ?_
        refine V_if_ne (tgt := 203) C dX7_step_193 (by decide) (fun zh193 => ?_) (fun zh193 => ?_)
        · have zr := hp9.2.2 zs70_16 zh193
          have zc : cI u 0 = nI (tn (cI u 0) - 1 + 1) := by rw [show tn (cI u 0) - 1 + 1 = tn (cI u 0) from by rcases Nat.eq_zero_or_pos (tn (cI u 0)) with q | q; exact absurd (by rw [hp9.1.1, q]; rfl) zh193; omega]; exact hp9.1.1
          refine V_aload_n C dX7_step_203 rfl 1 rfl ?_
          refine V_aload_n C dX7_step_204 rfl 1 rfl ?_
          refine V_get (v := .ref (h 2)) C dX7_step_205 hi7 0 (cw_a rfl) rfl 1 (by decide) (List.mem_of_getElem? (i := 4) rfl) rfl rfl ?_
          refine V_gcalliV C go hg dX7_step_208 2 (cw_a rfl) rfl (c_X6_leaveFrame l D K G tb ga9 h u (tn (cI u 0) - 1) (tn (cF u (cC u) 0 + cF u (cC u) 1)) (tn (cF u (tn (cI u 0) - 1) 0)) (tn (cF u (tn (cI u 0) - 1) 1)) (tn (cI u 1)) hC zc (by have := hp9.1.2; omega) zr.1 zr.2.1 zr.2.2.1 zr.2.2.2.1 zr.2.2.2.2.1 zr.2.2.2.2.2.1 zr.2.2.2.2.2.2) gX7_step_X6_leaveFrame rfl 0 rfl (by decide +kernel) (by decide) ⟨Nat.le_of_ble_eq_true rfl, Nat.le_of_ble_eq_true rfl⟩ rfl (Nat.le_of_ble_eq_true rfl) (det2 ?_)
          refine V_gcalliV C go hg dX7_step_211 0 (cw_a rfl) rfl (c_X7_goOnAt l D K G tb ga9 h (dLv u) (cF u (tn (cI u 0) - 1) 5) ) gX7_step_X7_goOnAt rfl 1 rfl (by decide +kernel) (by decide) ⟨Nat.le_of_ble_eq_true rfl, Nat.le_of_ble_eq_true rfl⟩ rfl (Nat.le_of_ble_eq_true rfl) (det2 ?_)
          exact E (-1) (tI (dLv u) 4 (cF u (tn (cI u 0) - 1) 5)) _ _ dX7_step_214 rfl ⟨by unfold dStep; simp (decide := true) [zh42, zh61, zs70_16, zh193], by unfold dStep; simp (decide := true) [zh42, zh61, zs70_16, zh193]⟩
        · refine V_aload_n C dX7_step_196 rfl 1 rfl ?_
          refine V_gcalliV C go hg dX7_step_197 0 (cw_a rfl) rfl (c_X7_finish l D K G tb ga9 h u  ) gX7_step_X7_finish rfl 0 rfl (by decide +kernel) (by decide) ⟨Nat.le_of_ble_eq_true rfl, Nat.le_of_ble_eq_true rfl⟩ rfl (Nat.le_of_ble_eq_true rfl) (det2 ?_)
          refine V_goto (tgt := 214) C dX7_step_200 (by decide) ?_
          exact E 0 (tE u true) _ _ dX7_step_214 rfl ⟨by unfold dStep; simp (decide := true) [zh42, zh61, zs70_16, zh193], by unfold dStep; simp (decide := true) [zh42, zh61, zs70_16, zh193]⟩
      by_cases zs70_17 : (iO I) = 17
      · refine V_tab C dX7_step_70 229 (Or.inl (by rw [zs70_17]; exact ⟨by decide, by decide, _, rfl, by decide⟩)) ?_
        refine V_aload_n C dX7_step_229 rfl 1 rfl ?_
        refine V_aload_n C dX7_step_230 rfl 0 rfl ?_
        refine V_gcalliV C go hg dX7_step_231 0 (cw_a rfl) rfl (c_X7_work l D K G tb ga9 h u i9 ai I hI hC hp9.2.1) gX7_step_X7_work rfl 1 rfl (by decide +kernel) (by decide) ⟨Nat.le_of_ble_eq_true rfl, Nat.le_of_ble_eq_true rfl⟩ rfl (Nat.le_of_ble_eq_true rfl) (det2 ?_)
        refine V_istore_n (lv' := [(2, .int ((dWork u I).1)), (1, .ref ai), (0, .ref (h 0))]) C dX7_step_234 rfl (by decide) rfl ?_
        refine V_iload_n C dX7_step_235 rfl 0 rfl ?_
        refine V_iconst (v := (-1)) C dX7_step_236 (by decide) ?_
        refine V_icmp_ne (tgt := 253) C dX7_step_237 (by decide) (fun zh237 => ?_) (fun zh237 => ?_)
        · refine V_iload_n C dX7_step_253 rfl 0 rfl ?_
          exact E ((dWork u I).1) ((dWork u I).2) _ _ dX7_step_254 rfl ⟨by unfold dStep; simp (decide := true) [zh42, zh61, zs70_17, zh237], by unfold dStep; simp (decide := true) [zh42, zh61, zs70_17, zh237]⟩
        · refine V_aload_n C dX7_step_240 rfl 2 rfl ?_
          refine V_aload_n C dX7_step_241 rfl 2 rfl ?_
          refine V_get (v := .int (cI ((dWork u I).2) 4)) C dX7_step_242 hi7 0 (cw_a rfl) rfl 6 (by decide) (List.mem_of_getElem? (i := 2) rfl) rfl rfl ?_
          refine V_iconst (v := 1) C dX7_step_245 (by decide) ?_
          refine V_iadd C dX7_step_246 ?_
          refine V_gcalliV C go hg dX7_step_247 0 (cw_a rfl) rfl (c_X7_goOnAt l D K G tb ga9 h ((dWork u I).2) ((cI ((dWork u I).2) 4) + 1) ) gX7_step_X7_goOnAt rfl 1 rfl (by decide +kernel) (by decide) ⟨Nat.le_of_ble_eq_true rfl, Nat.le_of_ble_eq_true rfl⟩ rfl (Nat.le_of_ble_eq_true rfl) (det2 ?_)
          refine V_goto (tgt := 254) C dX7_step_250 (by decide) ?_
          exact E (-1) (tI ((dWork u I).2) 4 ((cI ((dWork u I).2) 4) + 1)) _ _ dX7_step_254 rfl ⟨by unfold dStep; simp (decide := true) [zh42, zh61, zs70_17, zh237], by unfold dStep; simp (decide := true) [zh42, zh61, zs70_17, zh237]⟩
      by_cases zs70_18 : (iO I) = 18
      · refine V_tab C dX7_step_70 229 (Or.inl (by rw [zs70_18]; exact ⟨by decide, by decide, _, rfl, by decide⟩)) ?_
        refine V_aload_n C dX7_step_229 rfl 1 rfl ?_
        refine V_aload_n C dX7_step_230 rfl 0 rfl ?_
        refine V_gcalliV C go hg dX7_step_231 0 (cw_a rfl) rfl (c_X7_work l D K G tb ga9 h u i9 ai I hI hC hp9.2.1) gX7_step_X7_work rfl 1 rfl (by decide +kernel) (by decide) ⟨Nat.le_of_ble_eq_true rfl, Nat.le_of_ble_eq_true rfl⟩ rfl (Nat.le_of_ble_eq_true rfl) (det2 ?_)
        refine V_istore_n (lv' := [(2, .int ((dWork u I).1)), (1, .ref ai), (0, .ref (h 0))]) C dX7_step_234 rfl (by decide) rfl ?_
        refine V_iload_n C dX7_step_235 rfl 0 rfl ?_
        refine V_iconst (v := (-1)) C dX7_step_236 (by decide) ?_
        refine V_icmp_ne (tgt := 253) C dX7_step_237 (by decide) (fun zh237 => ?_) (fun zh237 => ?_)
        · refine V_iload_n C dX7_step_253 rfl 0 rfl ?_
          exact E ((dWork u I).1) ((dWork u I).2) _ _ dX7_step_254 rfl ⟨by unfold dStep; simp (decide := true) [zh42, zh61, zs70_18, zh237], by unfold dStep; simp (decide := true) [zh42, zh61, zs70_18, zh237]⟩
        · refine V_aload_n C dX7_step_240 rfl 2 rfl ?_
          refine V_aload_n C dX7_step_241 rfl 2 rfl ?_
          refine V_get (v := .int (cI ((dWork u I).2) 4)) C dX7_step_242 hi7 0 (cw_a rfl) rfl 6 (by decide) (List.mem_of_getElem? (i := 2) rfl) rfl rfl ?_
          refine V_iconst (v := 1) C dX7_step_245 (by decide) ?_
          refine V_iadd C dX7_step_246 ?_
          refine V_gcalliV C go hg dX7_step_247 0 (cw_a rfl) rfl (c_X7_goOnAt l D K G tb ga9 h ((dWork u I).2) ((cI ((dWork u I).2) 4) + 1) ) gX7_step_X7_goOnAt rfl 1 rfl (by decide +kernel) (by decide) ⟨Nat.le_of_ble_eq_true rfl, Nat.le_of_ble_eq_true rfl⟩ rfl (Nat.le_of_ble_eq_true rfl) (det2 ?_)
          refine V_goto (tgt := 254) C dX7_step_250 (by decide) ?_
          exact E (-1) (tI ((dWork u I).2) 4 ((cI ((dWork u I).2) 4) + 1)) _ _ dX7_step_254 rfl ⟨by unfold dStep; simp (decide := true) [zh42, zh61, zs70_18, zh237], by unfold dStep; simp (decide := true) [zh42, zh61, zs70_18, zh237]⟩
      by_cases zs70_19 : (iO I) = 19
      · refine V_tab C dX7_step_70 215 (Or.inl (by rw [zs70_19]; exact ⟨by decide, by decide, _, rfl, by decide⟩)) ?_
        refine V_aload_n C dX7_step_215 rfl 1 rfl ?_
        refine V_aload_n C dX7_step_216 rfl 0 rfl ?_
        refine V_getN (v := .int (iA I)) C gn hg dX7_step_217 hi3 (63 + i9) (cw_p (x := (ai, I)) hI) rfl 2 (by decide) (List.mem_of_getElem? (i := 28) rfl) rfl rfl ?_
        refine V_gcalliV C go hg dX7_step_220 0 (cw_a rfl) rfl (c_X7_turn l D K G tb ga9 h u (iA I) hC) gX7_step_X7_turn rfl 1 rfl (by decide +kernel) (by decide) ⟨Nat.le_of_ble_eq_true rfl, Nat.le_of_ble_eq_true rfl⟩ rfl (Nat.le_of_ble_eq_true rfl) (det2 ?_)
        exact E (-1) (dTurn u (iA I)) _ _ dX7_step_223 rfl ⟨by unfold dStep; simp (decide := true) [zh42, zh61, zs70_19], by unfold dStep; simp (decide := true) [zh42, zh61, zs70_19]⟩
      by_cases zs70_20 : (iO I) = 20
      · refine V_tab C dX7_step_70 224 (Or.inl (by rw [zs70_20]; exact ⟨by decide, by decide, _, rfl, by decide⟩)) ?_
        refine V_aload_n C dX7_step_224 rfl 1 rfl ?_
        refine V_gcalliV C go hg dX7_step_225 0 (cw_a rfl) rfl (c_X7_finish l D K G tb ga9 h u  ) gX7_step_X7_finish rfl 0 rfl (by decide +kernel) (by decide) ⟨Nat.le_of_ble_eq_true rfl, Nat.le_of_ble_eq_true rfl⟩ rfl (Nat.le_of_ble_eq_true rfl) (det2 ?_)
        exact E 0 (tE u true) _ _ dX7_step_228 rfl ⟨by unfold dStep; simp (decide := true) [zh42, zh61, zs70_20], by unfold dStep; simp (decide := true) [zh42, zh61, zs70_20]⟩
      refine V_tab C dX7_step_70 229 (Or.inr ⟨by have q_0 := i32ne (c := 13) 13 (by decide) zs70_13; have q_1 := i32ne (c := 14) 14 (by decide) zs70_14; have q_2 := i32ne (c := 15) 15 (by decide) zs70_15; have q_3 := i32ne (c := 16) 16 (by decide) zs70_16; have q_4 := i32ne (c := 17) 17 (by decide) zs70_17; have q_5 := i32ne (c := 18) 18 (by decide) zs70_18; have q_6 := i32ne (c := 19) 19 (by decide) zs70_19; have q_7 := i32ne (c := 20) 20 (by decide) zs70_20; omega, by decide⟩) ?_
      refine V_aload_n C dX7_step_229 rfl 1 rfl ?_
      refine V_aload_n C dX7_step_230 rfl 0 rfl ?_
      refine V_gcalliV C go hg dX7_step_231 0 (cw_a rfl) rfl (c_X7_work l D K G tb ga9 h u i9 ai I hI hC hp9.2.1) gX7_step_X7_work rfl 1 rfl (by decide +kernel) (by decide) ⟨Nat.le_of_ble_eq_true rfl, Nat.le_of_ble_eq_true rfl⟩ rfl (Nat.le_of_ble_eq_true rfl) (det2 ?_)
      refine V_istore_n (lv' := [(2, .int ((dWork u I).1)), (1, .ref ai), (0, .ref (h 0))]) C dX7_step_234 rfl (by decide) rfl ?_
      refine V_iload_n C dX7_step_235 rfl 0 rfl ?_
      refine V_iconst (v := (-1)) C dX7_step_236 (by decide) ?_
      refine V_icmp_ne (tgt := 253) C dX7_step_237 (by decide) (fun zh237 => ?_) (fun zh237 => ?_)
      · refine V_iload_n C dX7_step_253 rfl 0 rfl ?_
        exact E ((dWork u I).1) ((dWork u I).2) _ _ dX7_step_254 rfl ⟨by unfold dStep; simp (decide := true) [zh42, zh61, zs70_13, zs70_14, zs70_15, zs70_16, zs70_17, zs70_18, zs70_19, zs70_20, zh237], by unfold dStep; simp (decide := true) [zh42, zh61, zs70_13, zs70_14, zs70_15, zs70_16, zs70_17, zs70_18, zs70_19, zs70_20, zh237]⟩
      · refine V_aload_n C dX7_step_240 rfl 2 rfl ?_
        refine V_aload_n C dX7_step_241 rfl 2 rfl ?_
        refine V_get (v := .int (cI ((dWork u I).2) 4)) C dX7_step_242 hi7 0 (cw_a rfl) rfl 6 (by decide) (List.mem_of_getElem? (i := 2) rfl) rfl rfl ?_
        refine V_iconst (v := 1) C dX7_step_245 (by decide) ?_
        refine V_iadd C dX7_step_246 ?_
        refine V_gcalliV C go hg dX7_step_247 0 (cw_a rfl) rfl (c_X7_goOnAt l D K G tb ga9 h ((dWork u I).2) ((cI ((dWork u I).2) 4) + 1) ) gX7_step_X7_goOnAt rfl 1 rfl (by decide +kernel) (by decide) ⟨Nat.le_of_ble_eq_true rfl, Nat.le_of_ble_eq_true rfl⟩ rfl (Nat.le_of_ble_eq_true rfl) (det2 ?_)
        refine V_goto (tgt := 254) C dX7_step_250 (by decide) ?_
        exact E (-1) (tI ((dWork u I).2) 4 ((cI ((dWork u I).2) 4) + 1)) _ _ dX7_step_254 rfl ⟨by unfold dStep; simp (decide := true) [zh42, zh61, zs70_13, zs70_14, zs70_15, zs70_16, zs70_17, zs70_18, zs70_19, zs70_20, zh237], by unfold dStep; simp (decide := true) [zh42, zh61, zs70_13, zs70_14, zs70_15, zs70_16, zs70_17, zs70_18, zs70_19, zs70_20, zh237]⟩
    · refine V_iconst (v := 1) C dX7_step_64 (by decide) ?_
      exact E 1 u _ _ dX7_step_65 rfl ⟨by unfold dStep; rw [if_neg (by rw [zh42]; decide), if_pos zh61], by unfold dStep; rw [if_neg (by rw [zh42]; decide), if_pos zh61]⟩
  · refine V_aload_n C dX7_step_45 rfl 1 rfl ?_
    refine V_aload_n C dX7_step_46 rfl 1 rfl ?_
    refine V_get (v := .int (cI u 4)) C dX7_step_47 hi7 0 (cw_a rfl) rfl 6 (by decide) (List.mem_of_getElem? (i := 2) rfl) rfl rfl ?_
    refine V_iconst (v := 1) C dX7_step_50 (by decide) ?_
    refine V_iadd C dX7_step_51 ?_
    refine V_gcalliV C go hg dX7_step_52 0 (cw_a rfl) rfl (c_X7_goOnAt l D K G tb ga9 h u ((cI u 4) + 1) ) gX7_step_X7_goOnAt rfl 1 rfl (by decide +kernel) (by decide) ⟨Nat.le_of_ble_eq_true rfl, Nat.le_of_ble_eq_true rfl⟩ rfl (Nat.le_of_ble_eq_true rfl) (det2 ?_)
    exact E (-1) (tI u 4 ((cI u 4) + 1)) _ _ dX7_step_55 rfl ⟨by unfold dStep; rw [if_pos zh42], by unfold dStep; rw [if_pos zh42]⟩

set_option maxHeartbeats 4000000 in
set_option maxRecDepth 100000 in
theorem c_X7_step_false (l : Launch) (D : va_G) (K : Nat → ClassId) (G : gE) (tb : Nat → Nat) (ga9 : gAll G tb) (h : Nat → Nat) (u : CS)  (hC : cC u < 41) (hsw : cS u = false) (i9 ai : Nat) (I : I6) (hI : (cP u)[i9]? = some (ai, I)) (hat : lAt (cI u 8) (cQ u 1) (cI u 4) = some ai) (hp9 : dPre u I) : gMi l D vwCl (tys0 K) G yX7_step wsX7_step ({ frames := 5, cells := 0, slots := 0, locals := 118 } : Room) [.ref (h 0)] (cw K h u) (cw K h) (fun r9 u9 => r9 = (dStep u I).1 ∧ u9 = (dStep u I).2) := by
  refine gMi_of (cc := cX7_step) (nL := 3) (rt := .int) (by decide) rfl (Nat.le_of_ble_eq_true rfl) ?_
  intro X C hg E
  show V X 0 0 (cw K h u) 0 [(0, .ref (h 0))] []
  have go := ga9.1
  have gn := ga9.2.1
  have gt := ga9.2.2
  have hi7 : ∀ w ∈ wsX70, w ∈ wsX7_step := fun _ h => List.mem_cons_of_mem _ (List.mem_append_left _ (List.mem_append_left _ (List.mem_append_left _ (List.mem_append_left _ (List.mem_append_left _ (List.mem_append_left _ (List.mem_append_right _ h)))))))
  have hi3 : ∀ w ∈ wsX30, w ∈ wsX7_step := fun _ h => List.mem_cons_of_mem _ (List.mem_append_left _ (List.mem_append_left _ (List.mem_append_left _ (List.mem_append_left _ (List.mem_append_left _ (List.mem_append_right _ h))))))
  have hi6 : ∀ w ∈ wsX60, w ∈ wsX7_step := fun _ h => List.mem_cons_of_mem _ (List.mem_append_left _ (List.mem_append_left _ (List.mem_append_left _ (List.mem_append_left _ (List.mem_append_right _ h)))))
  have hi1 : ∀ w ∈ wsX10, w ∈ wsX7_step := fun _ h => List.mem_cons_of_mem _ (List.mem_append_left _ (List.mem_append_left _ (List.mem_append_left _ (List.mem_append_right _ h))))
  refine V_aload_n C dX7_step_0 rfl 0 rfl ?_
  refine V_get (v := .ref (h 20)) C dX7_step_1 hi7 0 (cw_a rfl) rfl 5 (by decide) (List.mem_of_getElem? (i := 1) rfl) rfl (by show some (Value.ref _) = _; rw [show cS u = false from hsw]; rfl) ?_
  refine V_aload_n C dX7_step_4 rfl 0 rfl ?_
  refine V_get (v := .int (cI u 4)) C dX7_step_5 hi7 0 (cw_a rfl) rfl 6 (by decide) (List.mem_of_getElem? (i := 2) rfl) rfl rfl ?_
  refine V_gcallqV C go hg dX7_step_8 20 (cw_a rfl) rfl (c_X4_at l D K G (cw K h u) 20 21 (h 20) (h 21) (cI u 8) (cQ u 1) (cw_a rfl) (cw_a rfl) (cI u 4)) gX7_step_X4_at rfl 1 rfl (by decide +kernel) (by decide) ⟨Nat.le_of_ble_eq_true rfl, Nat.le_of_ble_eq_true rfl⟩ rfl (Nat.le_of_ble_eq_true rfl) (det0 ?_)
  rw [hat]
  refine V_astore_n (lv' := [(1, .ref ai), (0, .ref (h 0))]) C dX7_step_11 rfl (by decide) rfl ?_
  refine V_aload_n C dX7_step_12 rfl 0 rfl ?_
  refine V_ifnonnull (tgt := 21) C dX7_step_13 (by decide) ?_
  refine V_aload_n C dX7_step_21 rfl 1 rfl ?_
  refine V_get (v := .ref (h 3)) C dX7_step_22 hi7 0 (cw_a rfl) rfl 2 (by decide) (List.mem_of_getElem? (i := 3) rfl) rfl rfl ?_
  refine V_aload_n C dX7_step_25 rfl 0 rfl ?_
  refine V_getN (v := .int (iQ I)) C gn hg dX7_step_26 hi3 (63 + i9) (cw_p (x := (ai, I)) hI) rfl 1 (by decide) (List.mem_of_getElem? (i := 26) rfl) rfl rfl ?_
  refine V_aload_n C dX7_step_29 rfl 1 rfl ?_
  refine V_get (v := .ref (h 2)) C dX7_step_30 hi7 0 (cw_a rfl) rfl 1 (by decide) (List.mem_of_getElem? (i := 4) rfl) rfl rfl ?_
  refine V_getN (v := .ref (h (22 + (cC u)))) C gn hg dX7_step_33 hi6 2 (cw_a rfl) rfl 4 (by decide) (List.mem_of_getElem? (i := 17) rfl) rfl rfl ?_
  refine V_getN (v := .int (cF u (cC u) 4)) C gn hg dX7_step_36 hi1 (22 + (cC u)) (cw_f hC) rfl 4 (by decide) (List.mem_of_getElem? (i := 14) rfl) rfl rfl ?_
  refine V_calliV C dX7_step_39 3 (cw_a rfl) rfl (c_X5_isTrue l D K (cw K h u) 3 4 (h 3) (h 4) (cZ u 4) (cw_a rfl) (cw_a rfl) (iQ I) (cF u (cC u) 4)) gX7_step_X5_isTrue rfl 2 rfl (by decide +kernel) (by decide) ⟨Nat.le_of_ble_eq_true rfl, Nat.le_of_ble_eq_true rfl⟩ rfl (Nat.le_of_ble_eq_true rfl) (det0 ?_)
  refine V_ifz_ne (tgt := 56) C dX7_step_42 (by decide) (fun zh42 => ?_) (fun zh42 => ?_)
  · refine V_aload_n C dX7_step_56 rfl 1 rfl ?_
    refine V_aload_n C dX7_step_57 rfl 0 rfl ?_
    refine V_gcalliV C go hg dX7_step_58 0 (cw_a rfl) rfl (c_X7_namesMissingRegister l D K G tb ga9 h u i9 ai I hI hC) gX7_step_X7_namesMissingRegister rfl 1 rfl (by decide +kernel) (by decide) ⟨Nat.le_of_ble_eq_true rfl, Nat.le_of_ble_eq_true rfl⟩ rfl (Nat.le_of_ble_eq_true rfl) (det2 ?_)
    refine V_ifz_eq (tgt := 66) C dX7_step_61 (by decide) (fun zh61 => ?_) (fun zh61 => ?_)
    · refine V_aload_n C dX7_step_66 rfl 0 rfl ?_
      refine V_getN (v := .int (iO I)) C gn hg dX7_step_67 hi3 (63 + i9) (cw_p (x := (ai, I)) hI) rfl 0 (by decide) (List.mem_of_getElem? (i := 25) rfl) rfl rfl ?_
      by_cases zs70_13 : (iO I) = 13
      · refine V_tab C dX7_step_70 116 (Or.inl (by rw [zs70_13]; exact ⟨by decide, by decide, _, rfl, by decide⟩)) ?_
        refine V_aload_n C dX7_step_116 rfl 1 rfl ?_
        refine V_aload_n C dX7_step_117 rfl 1 rfl ?_
        refine V_get (v := .ref (h 2)) C dX7_step_118 hi7 0 (cw_a rfl) rfl 1 (by decide) (List.mem_of_getElem? (i := 4) rfl) rfl rfl ?_
        refine V_aload_n C dX7_step_121 rfl 0 rfl ?_
        refine V_getN (v := .int (iA I)) C gn hg dX7_step_122 hi3 (63 + i9) (cw_p (x := (ai, I)) hI) rfl 2 (by decide) (List.mem_of_getElem? (i := 28) rfl) rfl rfl ?_
        refine V_gcalliV C go hg dX7_step_125 2 (cw_a rfl) rfl (c_X6_natOf l D K G tb ga9 h u (iA I) hC) gX7_step_X6_natOf rfl 1 rfl (by decide +kernel) (by decide) ⟨Nat.le_of_ble_eq_true rfl, Nat.le_of_ble_eq_true rfl⟩ rfl (Nat.le_of_ble_eq_true rfl) (det2 ?_)
        refine V_ifz_eq (tgt := 138) C dX7_step_128 (by decide) (fun zh128 => ?_) (fun zh128 => ?_)
        · refine V_aload_n C dX7_step_138 rfl 1 rfl ?_
          refine V_get (v := .int (cI u 4)) C dX7_step_139 hi7 0 (cw_a rfl) rfl 6 (by decide) (List.mem_of_getElem? (i := 2) rfl) rfl rfl ?_
          refine V_iconst (v := 1) C dX7_step_142 (by decide) ?_
          refine V_iadd C dX7_step_143 ?_
          refine V_gcalliV C go hg dX7_step_144 0 (cw_a rfl) rfl (c_X7_goOnAt l D K G tb ga9 h u ((cI u 4) + 1) ) gX7_step_X7_goOnAt rfl 1 rfl (by decide +kernel) (by decide) ⟨Nat.le_of_ble_eq_true rfl, Nat.le_of_ble_eq_true rfl⟩ rfl (Nat.le_of_ble_eq_true rfl) (det2 ?_)
          exact E (-1) (tI u 4 ((cI u 4) + 1)) _ _ dX7_step_147 rfl ⟨by unfold dStep; simp (decide := true) [zh42, zh61, zs70_13, zh128], by unfold dStep; simp (decide := true) [zh42, zh61, zs70_13, zh128]⟩
        · refine V_aload_n C dX7_step_131 rfl 0 rfl ?_
          refine V_getN (v := .int (iB I)) C gn hg dX7_step_132 hi3 (63 + i9) (cw_p (x := (ai, I)) hI) rfl 3 (by decide) (List.mem_of_getElem? (i := 30) rfl) rfl rfl ?_
          refine V_goto (tgt := 144) C dX7_step_135 (by decide) ?_
          refine V_gcalliV C go hg dX7_step_144 0 (cw_a rfl) rfl (c_X7_goOnAt l D K G tb ga9 h u (iB I) ) gX7_step_X7_goOnAt rfl 1 rfl (by decide +kernel) (by decide) ⟨Nat.le_of_ble_eq_true rfl, Nat.le_of_ble_eq_true rfl⟩ rfl (Nat.le_of_ble_eq_true rfl) (det2 ?_)
          exact E (-1) (tI u 4 (iB I)) _ _ dX7_step_147 rfl ⟨by unfold dStep; simp (decide := true) [zh42, zh61, zs70_13, zh128], by unfold dStep; simp (decide := true) [zh42, zh61, zs70_13, zh128]⟩
      by_cases zs70_14 : (iO I) = 14
      · refine V_tab C dX7_step_70 148 (Or.inl (by rw [zs70_14]; exact ⟨by decide, by decide, _, rfl, by decide⟩)) ?_
        refine V_aload_n C dX7_step_148 rfl 1 rfl ?_
        refine V_aload_n C dX7_step_149 rfl 0 rfl ?_
        refine V_getN (v := .int (iA I)) C gn hg dX7_step_150 hi3 (63 + i9) (cw_p (x := (ai, I)) hI) rfl 2 (by decide) (List.mem_of_getElem? (i := 28) rfl) rfl rfl ?_
        refine V_gcalliV C go hg dX7_step_153 0 (cw_a rfl) rfl (c_X7_goOnAt l D K G tb ga9 h u (iA I) ) gX7_step_X7_goOnAt rfl 1 rfl (by decide +kernel) (by decide) ⟨Nat.le_of_ble_eq_true rfl, Nat.le_of_ble_eq_true rfl⟩ rfl (Nat.le_of_ble_eq_true rfl) (det2 ?_)
        exact E (-1) (tI u 4 (iA I)) _ _ dX7_step_156 rfl ⟨by unfold dStep; simp (decide := true) [zh42, zh61, zs70_14], by unfold dStep; simp (decide := true) [zh42, zh61, zs70_14]⟩
      by_cases zs70_15 : (iO I) = 15
      · refine V_tab C dX7_step_70 157 (Or.inl (by rw [zs70_15]; exact ⟨by decide, by decide, _, rfl, by decide⟩)) ?_
        refine V_aload_n C dX7_step_157 rfl 1 rfl ?_
        refine V_get (v := .ref (h 2)) C dX7_step_158 hi7 0 (cw_a rfl) rfl 1 (by decide) (List.mem_of_getElem? (i := 4) rfl) rfl rfl ?_
        refine V_aload_n C dX7_step_161 rfl 1 rfl ?_
        refine V_get (v := .int (cI u 4)) C dX7_step_162 hi7 0 (cw_a rfl) rfl 6 (by decide) (List.mem_of_getElem? (i := 2) rfl) rfl rfl ?_
        refine V_iconst (v := 1) C dX7_step_165 (by decide) ?_
        refine V_iadd C dX7_step_166 ?_
        refine V_gcalliV C go hg dX7_step_167 2 (cw_a rfl) rfl (c_X6_enterFrame l D K G tb ga9 h u ((cI u 4) + 1) (tn (cI u 0)) hC hp9.1.1 hp9.1.2) gX7_step_X6_enterFrame rfl 1 rfl (by decide +kernel) (by decide) ⟨Nat.le_of_ble_eq_true rfl, Nat.le_of_ble_eq_true rfl⟩ rfl (Nat.le_of_ble_eq_true rfl) (det2 ?_)
        refine V_ifz_eq (tgt := 184) C dX7_step_170 (by decide) (fun zh170 => ?_) (fun zh170 => ?_)
        · have zq : ¬ tn (cI u 0) + 1 < 41 := (fun q => by rw [if_pos q] at zh170; cases zh170)
          refine V_ws (ws' := cw K h u) (by rw [if_neg zq]) ?_
          refine V_iconst (v := 4) C dX7_step_184 (by decide) ?_
          exact E 4 u _ _ dX7_step_185 rfl ⟨by have zq : ¬ tn (cI u 0) + 1 < 41 := (fun q => by rw [if_pos q] at zh170; cases zh170); unfold dStep; simp (decide := true) [zh42, zh61, zs70_15, zq], by have zq : ¬ tn (cI u 0) + 1 < 41 := (fun q => by rw [if_pos q] at zh170; cases zh170); unfold dStep; simp (decide := true) [zh42, zh61, zs70_15, zq]⟩
        · have zq : tn (cI u 0) + 1 < 41 := Decidable.byContradiction (fun q => by rw [if_neg q] at zh170; cases zh170)
          refine V_ws (ws' := cw K h (rEn u (cI u 4 + 1) (tn (cI u 0)))) (by rw [if_pos zq]) ?_
          refine V_aload_n C dX7_step_173 rfl 1 rfl ?_
          refine V_aload_n C dX7_step_174 rfl 0 rfl ?_
          refine V_getN (v := .int (iA I)) C gn hg dX7_step_175 hi3 (63 + i9) (cw_p (x := (ai, I)) hI) rfl 2 (by decide) (List.mem_of_getElem? (i := 28) rfl) rfl rfl ?_
          refine V_gcalliV C go hg dX7_step_178 0 (cw_a rfl) rfl (c_X7_goOnAt l D K G tb ga9 h (rEn u (cI u 4 + 1) (tn (cI u 0))) (iA I) ) gX7_step_X7_goOnAt rfl 1 rfl (by decide +kernel) (by decide) ⟨Nat.le_of_ble_eq_true rfl, Nat.le_of_ble_eq_true rfl⟩ rfl (Nat.le_of_ble_eq_true rfl) (det2 ?_)
          refine V_goto (tgt := 185) C dX7_step_181 (by decide) ?_
          exact E (-1) (tI (rEn u (cI u 4 + 1) (tn (cI u 0))) 4 (iA I)) _ _ dX7_step_185 rfl ⟨by have zq : tn (cI u 0) + 1 < 41 := Decidable.byContradiction (fun q => by rw [if_neg q] at zh170; cases zh170); unfold dStep; simp (decide := true) [zh42, zh61, zs70_15, zq], by have zq : tn (cI u 0) + 1 < 41 := Decidable.byContradiction (fun q => by rw [if_neg q] at zh170; cases zh170); unfold dStep; simp (decide := true) [zh42, zh61, zs70_15, zq]⟩
      by_cases zs70_16 : (iO I) = 16
      · refine V_tab C dX7_step_70 186 (Or.inl (by rw [zs70_16]; exact ⟨by decide, by decide, _, rfl, by decide⟩)) ?_
        refine V_aload_n C dX7_step_186 rfl 1 rfl ?_
        refine V_get (v := .ref (h 2)) C dX7_step_187 hi7 0 (cw_a rfl) rfl 1 (by decide) (List.mem_of_getElem? (i := 4) rfl) rfl rfl ?_
        refine V_getN (v := .int (cI u 0)) C gn hg dX7_step_190 hi6 2 (cw_a rfl) rfl 5 (by decide) (List.mem_of_getElem? (i := 18) rfl) rfl rfl ?_
        refine V_if_ne (tgt := 203) C dX7_step_193 (by decide) (fun zh193 => ?_) (fun zh193 => ?_)
        · have zr := hp9.2.2 zs70_16 zh193
          have zc : cI u 0 = nI (tn (cI u 0) - 1 + 1) := by rw [show tn (cI u 0) - 1 + 1 = tn (cI u 0) from by rcases Nat.eq_zero_or_pos (tn (cI u 0)) with q | q; exact absurd (by rw [hp9.1.1, q]; rfl) zh193; omega]; exact hp9.1.1
          refine V_aload_n C dX7_step_203 rfl 1 rfl ?_
          refine V_aload_n C dX7_step_204 rfl 1 rfl ?_
          refine V_get (v := .ref (h 2)) C dX7_step_205 hi7 0 (cw_a rfl) rfl 1 (by decide) (List.mem_of_getElem? (i := 4) rfl) rfl rfl ?_
          refine V_gcalliV C go hg dX7_step_208 2 (cw_a rfl) rfl (c_X6_leaveFrame l D K G tb ga9 h u (tn (cI u 0) - 1) (tn (cF u (cC u) 0 + cF u (cC u) 1)) (tn (cF u (tn (cI u 0) - 1) 0)) (tn (cF u (tn (cI u 0) - 1) 1)) (tn (cI u 1)) hC zc (by have := hp9.1.2; omega) zr.1 zr.2.1 zr.2.2.1 zr.2.2.2.1 zr.2.2.2.2.1 zr.2.2.2.2.2.1 zr.2.2.2.2.2.2) gX7_step_X6_leaveFrame rfl 0 rfl (by decide +kernel) (by decide) ⟨Nat.le_of_ble_eq_true rfl, Nat.le_of_ble_eq_true rfl⟩ rfl (Nat.le_of_ble_eq_true rfl) (det2 ?_)
          refine V_gcalliV C go hg dX7_step_211 0 (cw_a rfl) rfl (c_X7_goOnAt l D K G tb ga9 h (dLv u) (cF u (tn (cI u 0) - 1) 5) ) gX7_step_X7_goOnAt rfl 1 rfl (by decide +kernel) (by decide) ⟨Nat.le_of_ble_eq_true rfl, Nat.le_of_ble_eq_true rfl⟩ rfl (Nat.le_of_ble_eq_true rfl) (det2 ?_)
          exact E (-1) (tI (dLv u) 4 (cF u (tn (cI u 0) - 1) 5)) _ _ dX7_step_214 rfl ⟨by unfold dStep; simp (decide := true) [zh42, zh61, zs70_16, zh193], by unfold dStep; simp (decide := true) [zh42, zh61, zs70_16, zh193]⟩
        · refine V_aload_n C dX7_step_196 rfl 1 rfl ?_
          refine V_gcalliV C go hg dX7_step_197 0 (cw_a rfl) rfl (c_X7_finish l D K G tb ga9 h u  ) gX7_step_X7_finish rfl 0 rfl (by decide +kernel) (by decide) ⟨Nat.le_of_ble_eq_true rfl, Nat.le_of_ble_eq_true rfl⟩ rfl (Nat.le_of_ble_eq_true rfl) (det2 ?_)
          refine V_goto (tgt := 214) C dX7_step_200 (by decide) ?_
          exact E 0 (tE u true) _ _ dX7_step_214 rfl ⟨by unfold dStep; simp (decide := true) [zh42, zh61, zs70_16, zh193], by unfold dStep; simp (decide := true) [zh42, zh61, zs70_16, zh193]⟩
      by_cases zs70_17 : (iO I) = 17
      · refine V_tab C dX7_step_70 229 (Or.inl (by rw [zs70_17]; exact ⟨by decide, by decide, _, rfl, by decide⟩)) ?_
        refine V_aload_n C dX7_step_229 rfl 1 rfl ?_
        refine V_aload_n C dX7_step_230 rfl 0 rfl ?_
        refine V_gcalliV C go hg dX7_step_231 0 (cw_a rfl) rfl (c_X7_work l D K G tb ga9 h u i9 ai I hI hC hp9.2.1) gX7_step_X7_work rfl 1 rfl (by decide +kernel) (by decide) ⟨Nat.le_of_ble_eq_true rfl, Nat.le_of_ble_eq_true rfl⟩ rfl (Nat.le_of_ble_eq_true rfl) (det2 ?_)
        refine V_istore_n (lv' := [(2, .int ((dWork u I).1)), (1, .ref ai), (0, .ref (h 0))]) C dX7_step_234 rfl (by decide) rfl ?_
        refine V_iload_n C dX7_step_235 rfl 0 rfl ?_
        refine V_iconst (v := (-1)) C dX7_step_236 (by decide) ?_
        refine V_icmp_ne (tgt := 253) C dX7_step_237 (by decide) (fun zh237 => ?_) (fun zh237 => ?_)
        · refine V_iload_n C dX7_step_253 rfl 0 rfl ?_
          exact E ((dWork u I).1) ((dWork u I).2) _ _ dX7_step_254 rfl ⟨by unfold dStep; simp (decide := true) [zh42, zh61, zs70_17, zh237], by unfold dStep; simp (decide := true) [zh42, zh61, zs70_17, zh237]⟩
        · refine V_aload_n C dX7_step_240 rfl 2 rfl ?_
          refine V_aload_n C dX7_step_241 rfl 2 rfl ?_
          refine V_get (v := .int (cI ((dWork u I).2) 4)) C dX7_step_242 hi7 0 (cw_a rfl) rfl 6 (by decide) (List.mem_of_getElem? (i := 2) rfl) rfl rfl ?_
          refine V_iconst (v := 1) C dX7_step_245 (by decide) ?_
          refine V_iadd C dX7_step_246 ?_
          refine V_gcalliV C go hg dX7_step_247 0 (cw_a rfl) rfl (c_X7_goOnAt l D K G tb ga9 h ((dWork u I).2) ((cI ((dWork u I).2) 4) + 1) ) gX7_step_X7_goOnAt rfl 1 rfl (by decide +kernel) (by decide) ⟨Nat.le_of_ble_eq_true rfl, Nat.le_of_ble_eq_true rfl⟩ rfl (Nat.le_of_ble_eq_true rfl) (det2 ?_)
          refine V_goto (tgt := 254) C dX7_step_250 (by decide) ?_
          exact E (-1) (tI ((dWork u I).2) 4 ((cI ((dWork u I).2) 4) + 1)) _ _ dX7_step_254 rfl ⟨by unfold dStep; simp (decide := true) [zh42, zh61, zs70_17, zh237], by unfold dStep; simp (decide := true) [zh42, zh61, zs70_17, zh237]⟩
      by_cases zs70_18 : (iO I) = 18
      · refine V_tab C dX7_step_70 229 (Or.inl (by rw [zs70_18]; exact ⟨by decide, by decide, _, rfl, by decide⟩)) ?_
        refine V_aload_n C dX7_step_229 rfl 1 rfl ?_
        refine V_aload_n C dX7_step_230 rfl 0 rfl ?_
        refine V_gcalliV C go hg dX7_step_231 0 (cw_a rfl) rfl (c_X7_work l D K G tb ga9 h u i9 ai I hI hC hp9.2.1) gX7_step_X7_work rfl 1 rfl (by decide +kernel) (by decide) ⟨Nat.le_of_ble_eq_true rfl, Nat.le_of_ble_eq_true rfl⟩ rfl (Nat.le_of_ble_eq_true rfl) (det2 ?_)
        refine V_istore_n (lv' := [(2, .int ((dWork u I).1)), (1, .ref ai), (0, .ref (h 0))]) C dX7_step_234 rfl (by decide) rfl ?_
        refine V_iload_n C dX7_step_235 rfl 0 rfl ?_
        refine V_iconst (v := (-1)) C dX7_step_236 (by decide) ?_
        refine V_icmp_ne (tgt := 253) C dX7_step_237 (by decide) (fun zh237 => ?_) (fun zh237 => ?_)
        · refine V_iload_n C dX7_step_253 rfl 0 rfl ?_
          exact E ((dWork u I).1) ((dWork u I).2) _ _ dX7_step_254 rfl ⟨by unfold dStep; simp (decide := true) [zh42, zh61, zs70_18, zh237], by unfold dStep; simp (decide := true) [zh42, zh61, zs70_18, zh237]⟩
        · refine V_aload_n C dX7_step_240 rfl 2 rfl ?_
          refine V_aload_n C dX7_step_241 rfl 2 rfl ?_
          refine V_get (v := .int (cI ((dWork u I).2) 4)) C dX7_step_242 hi7 0 (cw_a rfl) rfl 6 (by decide) (List.mem_of_getElem? (i := 2) rfl) rfl rfl ?_
          refine V_iconst (v := 1) C dX7_step_245 (by decide) ?_
          refine V_iadd C dX7_step_246 ?_
          refine V_gcalliV C go hg dX7_step_247 0 (cw_a rfl) rfl (c_X7_goOnAt l D K G tb ga9 h ((dWork u I).2) ((cI ((dWork u I).2) 4) + 1) ) gX7_step_X7_goOnAt rfl 1 rfl (by decide +kernel) (by decide) ⟨Nat.le_of_ble_eq_true rfl, Nat.le_of_ble_eq_true rfl⟩ rfl (Nat.le_of_ble_eq_true rfl) (det2 ?_)
          refine V_goto (tgt := 254) C dX7_step_250 (by decide) ?_
          exact E (-1) (tI ((dWork u I).2) 4 ((cI ((dWork u I).2) 4) + 1)) _ _ dX7_step_254 rfl ⟨by unfold dStep; simp (decide := true) [zh42, zh61, zs70_18, zh237], by unfold dStep; simp (decide := true) [zh42, zh61, zs70_18, zh237]⟩
      by_cases zs70_19 : (iO I) = 19
      · refine V_tab C dX7_step_70 215 (Or.inl (by rw [zs70_19]; exact ⟨by decide, by decide, _, rfl, by decide⟩)) ?_
        refine V_aload_n C dX7_step_215 rfl 1 rfl ?_
        refine V_aload_n C dX7_step_216 rfl 0 rfl ?_
        refine V_getN (v := .int (iA I)) C gn hg dX7_step_217 hi3 (63 + i9) (cw_p (x := (ai, I)) hI) rfl 2 (by decide) (List.mem_of_getElem? (i := 28) rfl) rfl rfl ?_
        refine V_gcalliV C go hg dX7_step_220 0 (cw_a rfl) rfl (c_X7_turn l D K G tb ga9 h u (iA I) hC) gX7_step_X7_turn rfl 1 rfl (by decide +kernel) (by decide) ⟨Nat.le_of_ble_eq_true rfl, Nat.le_of_ble_eq_true rfl⟩ rfl (Nat.le_of_ble_eq_true rfl) (det2 ?_)
        exact E (-1) (dTurn u (iA I)) _ _ dX7_step_223 rfl ⟨by unfold dStep; simp (decide := true) [zh42, zh61, zs70_19], by unfold dStep; simp (decide := true) [zh42, zh61, zs70_19]⟩
      by_cases zs70_20 : (iO I) = 20
      · refine V_tab C dX7_step_70 224 (Or.inl (by rw [zs70_20]; exact ⟨by decide, by decide, _, rfl, by decide⟩)) ?_
        refine V_aload_n C dX7_step_224 rfl 1 rfl ?_
        refine V_gcalliV C go hg dX7_step_225 0 (cw_a rfl) rfl (c_X7_finish l D K G tb ga9 h u  ) gX7_step_X7_finish rfl 0 rfl (by decide +kernel) (by decide) ⟨Nat.le_of_ble_eq_true rfl, Nat.le_of_ble_eq_true rfl⟩ rfl (Nat.le_of_ble_eq_true rfl) (det2 ?_)
        exact E 0 (tE u true) _ _ dX7_step_228 rfl ⟨by unfold dStep; simp (decide := true) [zh42, zh61, zs70_20], by unfold dStep; simp (decide := true) [zh42, zh61, zs70_20]⟩
      refine V_tab C dX7_step_70 229 (Or.inr ⟨by have q_0 := i32ne (c := 13) 13 (by decide) zs70_13; have q_1 := i32ne (c := 14) 14 (by decide) zs70_14; have q_2 := i32ne (c := 15) 15 (by decide) zs70_15; have q_3 := i32ne (c := 16) 16 (by decide) zs70_16; have q_4 := i32ne (c := 17) 17 (by decide) zs70_17; have q_5 := i32ne (c := 18) 18 (by decide) zs70_18; have q_6 := i32ne (c := 19) 19 (by decide) zs70_19; have q_7 := i32ne (c := 20) 20 (by decide) zs70_20; omega, by decide⟩) ?_
      refine V_aload_n C dX7_step_229 rfl 1 rfl ?_
      refine V_aload_n C dX7_step_230 rfl 0 rfl ?_
      refine V_gcalliV C go hg dX7_step_231 0 (cw_a rfl) rfl (c_X7_work l D K G tb ga9 h u i9 ai I hI hC hp9.2.1) gX7_step_X7_work rfl 1 rfl (by decide +kernel) (by decide) ⟨Nat.le_of_ble_eq_true rfl, Nat.le_of_ble_eq_true rfl⟩ rfl (Nat.le_of_ble_eq_true rfl) (det2 ?_)
      refine V_istore_n (lv' := [(2, .int ((dWork u I).1)), (1, .ref ai), (0, .ref (h 0))]) C dX7_step_234 rfl (by decide) rfl ?_
      refine V_iload_n C dX7_step_235 rfl 0 rfl ?_
      refine V_iconst (v := (-1)) C dX7_step_236 (by decide) ?_
      refine V_icmp_ne (tgt := 253) C dX7_step_237 (by decide) (fun zh237 => ?_) (fun zh237 => ?_)
      · refine V_iload_n C dX7_step_253 rfl 0 rfl ?_
        exact E ((dWork u I).1) ((dWork u I).2) _ _ dX7_step_254 rfl ⟨by unfold dStep; simp (decide := true) [zh42, zh61, zs70_13, zs70_14, zs70_15, zs70_16, zs70_17, zs70_18, zs70_19, zs70_20, zh237], by unfold dStep; simp (decide := true) [zh42, zh61, zs70_13, zs70_14, zs70_15, zs70_16, zs70_17, zs70_18, zs70_19, zs70_20, zh237]⟩
      · refine V_aload_n C dX7_step_240 rfl 2 rfl ?_
        refine V_aload_n C dX7_step_241 rfl 2 rfl ?_
        refine V_get (v := .int (cI ((dWork u I).2) 4)) C dX7_step_242 hi7 0 (cw_a rfl) rfl 6 (by decide) (List.mem_of_getElem? (i := 2) rfl) rfl rfl ?_
        refine V_iconst (v := 1) C dX7_step_245 (by decide) ?_
        refine V_iadd C dX7_step_246 ?_
        refine V_gcalliV C go hg dX7_step_247 0 (cw_a rfl) rfl (c_X7_goOnAt l D K G tb ga9 h ((dWork u I).2) ((cI ((dWork u I).2) 4) + 1) ) gX7_step_X7_goOnAt rfl 1 rfl (by decide +kernel) (by decide) ⟨Nat.le_of_ble_eq_true rfl, Nat.le_of_ble_eq_true rfl⟩ rfl (Nat.le_of_ble_eq_true rfl) (det2 ?_)
        refine V_goto (tgt := 254) C dX7_step_250 (by decide) ?_
        exact E (-1) (tI ((dWork u I).2) 4 ((cI ((dWork u I).2) 4) + 1)) _ _ dX7_step_254 rfl ⟨by unfold dStep; simp (decide := true) [zh42, zh61, zs70_13, zs70_14, zs70_15, zs70_16, zs70_17, zs70_18, zs70_19, zs70_20, zh237], by unfold dStep; simp (decide := true) [zh42, zh61, zs70_13, zs70_14, zs70_15, zs70_16, zs70_17, zs70_18, zs70_19, zs70_20, zh237]⟩
    · refine V_iconst (v := 1) C dX7_step_64 (by decide) ?_
      exact E 1 u _ _ dX7_step_65 rfl ⟨by unfold dStep; rw [if_neg (by rw [zh42]; decide), if_pos zh61], by unfold dStep; rw [if_neg (by rw [zh42]; decide), if_pos zh61]⟩
  · refine V_aload_n C dX7_step_45 rfl 1 rfl ?_
    refine V_aload_n C dX7_step_46 rfl 1 rfl ?_
    refine V_get (v := .int (cI u 4)) C dX7_step_47 hi7 0 (cw_a rfl) rfl 6 (by decide) (List.mem_of_getElem? (i := 2) rfl) rfl rfl ?_
    refine V_iconst (v := 1) C dX7_step_50 (by decide) ?_
    refine V_iadd C dX7_step_51 ?_
    refine V_gcalliV C go hg dX7_step_52 0 (cw_a rfl) rfl (c_X7_goOnAt l D K G tb ga9 h u ((cI u 4) + 1) ) gX7_step_X7_goOnAt rfl 1 rfl (by decide +kernel) (by decide) ⟨Nat.le_of_ble_eq_true rfl, Nat.le_of_ble_eq_true rfl⟩ rfl (Nat.le_of_ble_eq_true rfl) (det2 ?_)
    exact E (-1) (tI u 4 ((cI u 4) + 1)) _ _ dX7_step_55 rfl ⟨by unfold dStep; rw [if_pos zh42], by unfold dStep; rw [if_pos zh42]⟩

