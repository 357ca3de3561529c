/-- the frame of the place c is the current one again; it goes on behind its call -/
def mBk0 (u : MS) (c : Nat) : MS := si (si (sa (sa (sa (sa (sa u 25 0 (ga u 25 (6 * c + 0))) 25 1 (ga u 25 (6 * c + 1))) 25 2 (ga u 25 (6 * c + 2))) 25 3 (ga u 25 (6 * c + 3))) 25 4 (ga u 25 (6 * c + 4))) 27 (ga u 25 (6 * c + 5))) 26 (gi u 26 - 1)
def mBk1 (u : MS) (H T : Nat) : MS := if T < H then si u 22 (nI T) else u
def mBk2 (u : MS) (L B : Nat) : MS := if B < L then si (si u 24 (gi u 24 + nI L - nI B)) 21 (nI B) else u
/-- RETURN: frame c of base B and size S comes back; H, L: the row's end and the lowest that is held -/
def mBack (u : MS) (c B S H L : Nat) : MS := mReach (mBk2 (mBk1 (mBk0 u c) H (B + S)) L B) (min H (B + S)) (B + S) (min L B)
set_option maxHeartbeats 4000000 in
set_option maxRecDepth 100000 in
theorem c_X8_comeBack (l : Launch) (D : va_G) (K : Nat → ClassId) (h : Nat → Nat) (u : MS)  (c B S H L : Nat) (hc : gi u 26 = nI c) (hc2 : c ≤ 40) (hB : ¬ gi u 26 = 0 → ga u 25 (6 * c + 0) = nI B) (hS : ¬ gi u 26 = 0 → ga u 25 (6 * c + 1) = nI S) (hH : gi u 22 = nI H) (hL : gi u 21 = nI L) (hH2 : H ≤ 120) (hBS : B + S ≤ 120) (hL2 : L ≤ 120) : vMi l D vwCl (tys0 K) yX8_comeBack wsX8_comeBack ({ frames := 1, cells := 0, slots := 0, locals := 22 } : Room) [.ref (h 0)] (mw K h u) (mw K h) (fun r9 u9 => r9 = (if gi u 26 = 0 then 0 else -1) ∧ u9 = (if gi u 26 = 0 then u else mBack u c B S H L)) := by
  refine vMi_of (cc := cX8_comeBack) (nL := 2) (rt := .int) (by decide) rfl (Nat.le_of_ble_eq_true rfl) ?_
  intro X C E
  show V X 0 0 (mw K h u) 0 [(0, .ref (h 0))] []
  have hi8 : ∀ w ∈ wsX80, w ∈ wsX8_comeBack := fun _ h => List.mem_cons_of_mem _ (List.mem_append_right _ h)
  refine V_aload_n C dX8_comeBack_0 rfl 0 rfl ?_
  refine V_get (v := .int (gi u 26)) C dX8_comeBack_1 hi8 0 rfl rfl 26 (by decide) (List.mem_of_getElem? (i := 1) rfl) rfl rfl ?_
  refine V_if_ne (tgt := 9) C dX8_comeBack_4 (by decide) (fun zh4 => ?_) (fun zh4 => ?_)
  · replace hB := hB zh4
    replace hS := hS zh4
    refine V_iconst (v := 0) C dX8_comeBack_9 (by decide) ?_
    refine V_istore_n (lv' := [(1, .int 0), (0, .ref (h 0))]) C dX8_comeBack_10 rfl (by decide) rfl ?_
    refine V_iload_n C dX8_comeBack_11 rfl 0 rfl ?_
    refine V_iconst (v := 5) C dX8_comeBack_12 (by decide) ?_
    refine V_icmp_ge (tgt := 42) C dX8_comeBack_13 (by decide) (fun zh13 => ?_) (fun zh13 => ?_)
    · exact absurd zh13 (by decide)
    · refine V_aload_n C dX8_comeBack_16 rfl 1 rfl ?_
      refine V_get (v := .ref (h 26)) C dX8_comeBack_17 hi8 0 rfl rfl 25 (by decide) (List.mem_of_getElem? (i := 2) rfl) rfl rfl ?_
      refine V_iload_n C dX8_comeBack_20 rfl 0 rfl ?_
      refine V_aload_n C dX8_comeBack_21 rfl 1 rfl ?_
      refine V_get (v := .ref (h 26)) C dX8_comeBack_22 hi8 0 rfl rfl 25 (by decide) (List.mem_of_getElem? (i := 2) rfl) rfl rfl ?_
      refine V_bipush (v := 6) C dX8_comeBack_25 (by decide) ?_
      refine V_aload_n C dX8_comeBack_27 rfl 1 rfl ?_
      refine V_get (v := .int (gi u 26)) C dX8_comeBack_28 hi8 0 rfl rfl 26 (by decide) (List.mem_of_getElem? (i := 1) rfl) rfl rfl ?_
      refine V_imul C dX8_comeBack_31 ?_
      refine V_iload_n C dX8_comeBack_32 rfl 0 rfl ?_
      refine V_iadd C dX8_comeBack_33 ?_
      refine V_ialdn (v := (ga u 25 (6 * c + 0))) C dX8_comeBack_34 13 0 rfl rfl (6 * c + 0) (ix6 c hc 0 0 rfl (by omega)).1 ((ix6 c hc 0 0 rfl (by omega)).2) rfl ?_
      refine V_iastn (ws' := (mw K h (sa u 25 0 (ga u 25 (6 * c + 0))))) C dX8_comeBack_35 13 0 rfl rfl (0) (by decide) (by unfold vp_in; decide) (ms_25 K h u 0 (ga u 25 (6 * c + 0))) ?_
      refine V_iinc (lv' := [(1, .int 1), (0, .ref (h 0))]) C dX8_comeBack_36 (j := 0) rfl (by decide) (by decide) rfl ?_
      refine V_goto (tgt := 11) C dX8_comeBack_39 (by decide) ?_
      refine V_iload_n C dX8_comeBack_11 rfl 0 rfl ?_
      refine V_iconst (v := 5) C dX8_comeBack_12 (by decide) ?_
      refine V_icmp_ge (tgt := 42) C dX8_comeBack_13 (by decide) (fun zh13 => ?_) (fun zh13 => ?_)
      · exact absurd zh13 (by decide)
      · refine V_aload_n C dX8_comeBack_16 rfl 1 rfl ?_
        refine V_get (v := .ref (h 26)) C dX8_comeBack_17 hi8 0 rfl rfl 25 (by decide) (List.mem_of_getElem? (i := 2) rfl) rfl rfl ?_
        refine V_iload_n C dX8_comeBack_20 rfl 0 rfl ?_
        refine V_aload_n C dX8_comeBack_21 rfl 1 rfl ?_
        refine V_get (v := .ref (h 26)) C dX8_comeBack_22 hi8 0 rfl rfl 25 (by decide) (List.mem_of_getElem? (i := 2) rfl) rfl rfl ?_
        refine V_bipush (v := 6) C dX8_comeBack_25 (by decide) ?_
        refine V_aload_n C dX8_comeBack_27 rfl 1 rfl ?_
        refine V_get (v := .int (gi u 26)) C dX8_comeBack_28 hi8 0 rfl rfl 26 (by decide) (List.mem_of_getElem? (i := 1) rfl) rfl rfl ?_
        refine V_imul C dX8_comeBack_31 ?_
        refine V_iload_n C dX8_comeBack_32 rfl 0 rfl ?_
        refine V_iadd C dX8_comeBack_33 ?_
        refine V_ialdn (v := (ga u 25 (6 * c + 1))) C dX8_comeBack_34 13 0 rfl rfl (6 * c + 1) (ix6 c hc 1 1 rfl (by omega)).1 ((ix6 c hc 1 1 rfl (by omega)).2) (by first | rfl | (simp (disch := omega) only [ga_sa_ne, ga_sa_eq, ga_si, ga_sb, ga_sz, ga_sl])) ?_
        refine V_iastn (ws' := (mw K h (sa (sa u 25 0 (ga u 25 (6 * c + 0))) 25 1 (ga u 25 (6 * c + 1))))) C dX8_comeBack_35 13 0 rfl rfl (1) (by decide) (by unfold vp_in; decide) (ms_25 K h (sa u 25 0 (ga u 25 (6 * c + 0))) 1 (ga u 25 (6 * c + 1))) ?_
        refine V_iinc (lv' := [(1, .int 2), (0, .ref (h 0))]) C dX8_comeBack_36 (j := 0) rfl (by decide) (by decide) rfl ?_
        refine V_goto (tgt := 11) C dX8_comeBack_39 (by decide) ?_
        refine V_iload_n C dX8_comeBack_11 rfl 0 rfl ?_
        refine V_iconst (v := 5) C dX8_comeBack_12 (by decide) ?_
        refine V_icmp_ge (tgt := 42) C dX8_comeBack_13 (by decide) (fun zh13 => ?_) (fun zh13 => ?_)
        · exact absurd zh13 (by decide)
        · refine V_aload_n C dX8_comeBack_16 rfl 1 rfl ?_
          refine V_get (v := .ref (h 26)) C dX8_comeBack_17 hi8 0 rfl rfl 25 (by decide) (List.mem_of_getElem? (i := 2) rfl) rfl rfl ?_
          refine V_iload_n C dX8_comeBack_20 rfl 0 rfl ?_
          refine V_aload_n C dX8_comeBack_21 rfl 1 rfl ?_
          refine V_get (v := .ref (h 26)) C dX8_comeBack_22 hi8 0 rfl rfl 25 (by decide) (List.mem_of_getElem? (i := 2) rfl) rfl rfl ?_
          refine V_bipush (v := 6) C dX8_comeBack_25 (by decide) ?_
          refine V_aload_n C dX8_comeBack_27 rfl 1 rfl ?_
          refine V_get (v := .int (gi u 26)) C dX8_comeBack_28 hi8 0 rfl rfl 26 (by decide) (List.mem_of_getElem? (i := 1) rfl) rfl rfl ?_
          refine V_imul C dX8_comeBack_31 ?_
          refine V_iload_n C dX8_comeBack_32 rfl 0 rfl ?_
          refine V_iadd C dX8_comeBack_33 ?_
          refine V_ialdn (v := (ga u 25 (6 * c + 2))) C dX8_comeBack_34 13 0 rfl rfl (6 * c + 2) (ix6 c hc 2 2 rfl (by omega)).1 ((ix6 c hc 2 2 rfl (by omega)).2) (by first | rfl | (simp (disch := omega) only [ga_sa_ne, ga_sa_eq, ga_si, ga_sb, ga_sz, ga_sl])) ?_
          refine V_iastn (ws' := (mw K h (sa (sa (sa u 25 0 (ga u 25 (6 * c + 0))) 25 1 (ga u 25 (6 * c + 1))) 25 2 (ga u 25 (6 * c + 2))))) C dX8_comeBack_35 13 0 rfl rfl (2) (by decide) (by unfold vp_in; decide) (ms_25 K h (sa (sa u 25 0 (ga u 25 (6 * c + 0))) 25 1 (ga u 25 (6 * c + 1))) 2 (ga u 25 (6 * c + 2))) ?_
          refine V_iinc (lv' := [(1, .int 3), (0, .ref (h 0))]) C dX8_comeBack_36 (j := 0) rfl (by decide) (by decide) rfl ?_
          refine V_goto (tgt := 11) C dX8_comeBack_39 (by decide) ?_
          refine V_iload_n C dX8_comeBack_11 rfl 0 rfl ?_
          refine V_iconst (v := 5) C dX8_comeBack_12 (by decide) ?_
          refine V_icmp_ge (tgt := 42) C dX8_comeBack_13 (by decide) (fun zh13 => ?_) (fun zh13 => ?_)
          · exact absurd zh13 (by decide)
          · refine V_aload_n C dX8_comeBack_16 rfl 1 rfl ?_
            refine V_get (v := .ref (h 26)) C dX8_comeBack_17 hi8 0 rfl rfl 25 (by decide) (List.mem_of_getElem? (i := 2) rfl) rfl rfl ?_
            refine V_iload_n C dX8_comeBack_20 rfl 0 rfl ?_
            refine V_aload_n C dX8_comeBack_21 rfl 1 rfl ?_
            refine V_get (v := .ref (h 26)) C dX8_comeBack_22 hi8 0 rfl rfl 25 (by decide) (List.mem_of_getElem? (i := 2) rfl) rfl rfl ?_
            refine V_bipush (v := 6) C dX8_comeBack_25 (by decide) ?_
            refine V_aload_n C dX8_comeBack_27 rfl 1 rfl ?_
            refine V_get (v := .int (gi u 26)) C dX8_comeBack_28 hi8 0 rfl rfl 26 (by decide) (List.mem_of_getElem? (i := 1) rfl) rfl rfl ?_
            refine V_imul C dX8_comeBack_31 ?_
            refine V_iload_n C dX8_comeBack_32 rfl 0 rfl ?_
            refine V_iadd C dX8_comeBack_33 ?_
            refine V_ialdn (v := (ga u 25 (6 * c + 3))) C dX8_comeBack_34 13 0 rfl rfl (6 * c + 3) (ix6 c hc 3 3 rfl (by omega)).1 ((ix6 c hc 3 3 rfl (by omega)).2) (by first | rfl | (simp (disch := omega) only [ga_sa_ne, ga_sa_eq, ga_si, ga_sb, ga_sz, ga_sl])) ?_
            refine V_iastn (ws' := (mw K h (sa (sa (sa (sa u 25 0 (ga u 25 (6 * c + 0))) 25 1 (ga u 25 (6 * c + 1))) 25 2 (ga u 25 (6 * c + 2))) 25 3 (ga u 25 (6 * c + 3))))) C dX8_comeBack_35 13 0 rfl rfl (3) (by decide) (by unfold vp_in; decide) (ms_25 K h (sa (sa (sa u 25 0 (ga u 25 (6 * c + 0))) 25 1 (ga u 25 (6 * c + 1))) 25 2 (ga u 25 (6 * c + 2))) 3 (ga u 25 (6 * c + 3))) ?_
            refine V_iinc (lv' := [(1, .int 4), (0, .ref (h 0))]) C dX8_comeBack_36 (j := 0) rfl (by decide) (by decide) rfl ?_
            refine V_goto (tgt := 11) C dX8_comeBack_39 (by decide) ?_
            refine V_iload_n C dX8_comeBack_11 rfl 0 rfl ?_
            refine V_iconst (v := 5) C dX8_comeBack_12 (by decide) ?_
            refine V_icmp_ge (tgt := 42) C dX8_comeBack_13 (by decide) (fun zh13 => ?_) (fun zh13 => ?_)
            · exact absurd zh13 (by decide)
            · refine V_aload_n C dX8_comeBack_16 rfl 1 rfl ?_
              refine V_get (v := .ref (h 26)) C dX8_comeBack_17 hi8 0 rfl rfl 25 (by decide) (List.mem_of_getElem? (i := 2) rfl) rfl rfl ?_
              refine V_iload_n C dX8_comeBack_20 rfl 0 rfl ?_
              refine V_aload_n C dX8_comeBack_21 rfl 1 rfl ?_
              refine V_get (v := .ref (h 26)) C dX8_comeBack_22 hi8 0 rfl rfl 25 (by decide) (List.mem_of_getElem? (i := 2) rfl) rfl rfl ?_
              refine V_bipush (v := 6) C dX8_comeBack_25 (by decide) ?_
              refine V_aload_n C dX8_comeBack_27 rfl 1 rfl ?_
              refine V_get (v := .int (gi u 26)) C dX8_comeBack_28 hi8 0 rfl rfl 26 (by decide) (List.mem_of_getElem? (i := 1) rfl) rfl rfl ?_
              refine V_imul C dX8_comeBack_31 ?_
              refine V_iload_n C dX8_comeBack_32 rfl 0 rfl ?_
              refine V_iadd C dX8_comeBack_33 ?_
              refine V_ialdn (v := (ga u 25 (6 * c + 4))) C dX8_comeBack_34 13 0 rfl rfl (6 * c + 4) (ix6 c hc 4 4 rfl (by omega)).1 ((ix6 c hc 4 4 rfl (by omega)).2) (by first | rfl | (simp (disch := omega) only [ga_sa_ne, ga_sa_eq, ga_si, ga_sb, ga_sz, ga_sl])) ?_
              refine V_iastn (ws' := (mw K h (sa (sa (sa (sa (sa u 25 0 (ga u 25 (6 * c + 0))) 25 1 (ga u 25 (6 * c + 1))) 25 2 (ga u 25 (6 * c + 2))) 25 3 (ga u 25 (6 * c + 3))) 25 4 (ga u 25 (6 * c + 4))))) C dX8_comeBack_35 13 0 rfl rfl (4) (by decide) (by unfold vp_in; decide) (ms_25 K h (sa (sa (sa (sa u 25 0 (ga u 25 (6 * c + 0))) 25 1 (ga u 25 (6 * c + 1))) 25 2 (ga u 25 (6 * c + 2))) 25 3 (ga u 25 (6 * c + 3))) 4 (ga u 25 (6 * c + 4))) ?_
              refine V_iinc (lv' := [(1, .int 5), (0, .ref (h 0))]) C dX8_comeBack_36 (j := 0) rfl (by decide) (by decide) rfl ?_
              refine V_goto (tgt := 11) C dX8_comeBack_39 (by decide) ?_
              refine V_iload_n C dX8_comeBack_11 rfl 0 rfl ?_
              refine V_iconst (v := 5) C dX8_comeBack_12 (by decide) ?_
              refine V_icmp_ge (tgt := 42) C dX8_comeBack_13 (by decide) (fun zh13 => ?_) (fun zh13 => ?_)
              · refine V_aload_n C dX8_comeBack_42 rfl 1 rfl ?_
                refine V_aload_n C dX8_comeBack_43 rfl 1 rfl ?_
                refine V_get (v := .ref (h 26)) C dX8_comeBack_44 hi8 0 rfl rfl 25 (by decide) (List.mem_of_getElem? (i := 2) rfl) rfl rfl ?_
                refine V_bipush (v := 6) C dX8_comeBack_47 (by decide) ?_
                refine V_aload_n C dX8_comeBack_49 rfl 1 rfl ?_
                refine V_get (v := .int (gi u 26)) C dX8_comeBack_50 hi8 0 rfl rfl 26 (by decide) (List.mem_of_getElem? (i := 1) rfl) rfl rfl ?_
                refine V_imul C dX8_comeBack_53 ?_
                refine V_iconst (v := 5) C dX8_comeBack_54 (by decide) ?_
                refine V_iadd C dX8_comeBack_55 ?_
                refine V_ialdn (v := (ga u 25 (6 * c + 5))) C dX8_comeBack_56 13 0 rfl rfl (6 * c + 5) (ix6 c hc 5 5 rfl (by omega)).1 ((ix6 c hc 5 5 rfl (by omega)).2) (by first | rfl | (simp (disch := omega) only [ga_sa_ne, ga_sa_eq, ga_si, ga_sb, ga_sz, ga_sl])) ?_
                refine V_put (ws' := (mw K h (si (sa (sa (sa (sa (sa u 25 0 (ga u 25 (6 * c + 0))) 25 1 (ga u 25 (6 * c + 1))) 25 2 (ga u 25 (6 * c + 2))) 25 3 (ga u 25 (6 * c + 3))) 25 4 (ga u 25 (6 * c + 4))) 27 (ga u 25 (6 * c + 5))))) C dX8_comeBack_57 hi8 tyX8_ok nmX8 0 rfl rfl 27 (by decide) (List.mem_of_getElem? (i := 3) rfl) rfl rfl rfl rfl rfl (Nat.le_of_ble_eq_true rfl) (ms_27 K h (sa (sa (sa (sa (sa u 25 0 (ga u 25 (6 * c + 0))) 25 1 (ga u 25 (6 * c + 1))) 25 2 (ga u 25 (6 * c + 2))) 25 3 (ga u 25 (6 * c + 3))) 25 4 (ga u 25 (6 * c + 4))) (ga u 25 (6 * c + 5))) ?_
                refine V_aload_n C dX8_comeBack_60 rfl 1 rfl ?_
                refine V_dup C dX8_comeBack_61 rfl ?_
                refine V_get (v := .int (gi u 26)) C dX8_comeBack_62 hi8 0 rfl rfl 26 (by decide) (List.mem_of_getElem? (i := 1) rfl) rfl rfl ?_
                refine V_iconst (v := 1) C dX8_comeBack_65 (by decide) ?_
                refine V_isub C dX8_comeBack_66 ?_
                refine V_put (ws' := (mw K h (si (si (sa (sa (sa (sa (sa u 25 0 (ga u 25 (6 * c + 0))) 25 1 (ga u 25 (6 * c + 1))) 25 2 (ga u 25 (6 * c + 2))) 25 3 (ga u 25 (6 * c + 3))) 25 4 (ga u 25 (6 * c + 4))) 27 (ga u 25 (6 * c + 5))) 26 ((gi u 26) - 1)))) C dX8_comeBack_67 hi8 tyX8_ok nmX8 0 rfl rfl 26 (by decide) (List.mem_of_getElem? (i := 1) rfl) rfl rfl rfl rfl rfl (Nat.le_of_ble_eq_true rfl) (ms_26 K h (si (sa (sa (sa (sa (sa u 25 0 (ga u 25 (6 * c + 0))) 25 1 (ga u 25 (6 * c + 1))) 25 2 (ga u 25 (6 * c + 2))) 25 3 (ga u 25 (6 * c + 3))) 25 4 (ga u 25 (6 * c + 4))) 27 (ga u 25 (6 * c + 5))) ((gi u 26) - 1)) ?_
                refine V_aload_n C dX8_comeBack_70 rfl 1 rfl ?_
                refine V_get (v := .ref (h 26)) C dX8_comeBack_71 hi8 0 rfl rfl 25 (by decide) (List.mem_of_getElem? (i := 2) rfl) rfl rfl ?_
                refine V_iconst (v := 0) C dX8_comeBack_74 (by decide) ?_
                refine V_ialdn (v := (ga u 25 (6 * c + 0))) C dX8_comeBack_75 13 0 rfl rfl (0) (by decide) (by unfold vp_in; decide) (by first | rfl | (simp (disch := omega) only [ga_sa_ne, ga_sa_eq, ga_si, ga_sb, ga_sz, ga_sl])) ?_
                refine V_aload_n C dX8_comeBack_76 rfl 1 rfl ?_
                refine V_get (v := .ref (h 26)) C dX8_comeBack_77 hi8 0 rfl rfl 25 (by decide) (List.mem_of_getElem? (i := 2) rfl) rfl rfl ?_
                refine V_iconst (v := 1) C dX8_comeBack_80 (by decide) ?_
                refine V_ialdn (v := (ga u 25 (6 * c + 1))) C dX8_comeBack_81 13 0 rfl rfl (1) (by decide) (by unfold vp_in; decide) (by first | rfl | (simp (disch := omega) only [ga_sa_ne, ga_sa_eq, ga_si, ga_sb, ga_sz, ga_sl])) ?_
                refine V_iadd C dX8_comeBack_82 ?_
                rw [hB, hS, nI_add]
                refine V_istore_n (lv' := [(1, .int (nI (B + S))), (0, .ref (h 0))]) C dX8_comeBack_83 rfl (by decide) rfl ?_
                refine V_ws (ws' := mw K h (mBk0 u c)) (by unfold mBk0; rw [hB, hS]) ?_
                refine V_aload_n C dX8_comeBack_84 rfl 1 rfl ?_
                refine V_get (v := .int (gi u 22)) C dX8_comeBack_85 hi8 0 rfl rfl 22 (by decide) (List.mem_of_getElem? (i := 4) rfl) rfl rfl ?_
                refine V_iload_n C dX8_comeBack_88 rfl 0 rfl ?_
                rw [hH]
                refine V_icmp_le (tgt := 97) C dX8_comeBack_89 (by decide) (fun zh89 => ?_) (fun zh89 => ?_)
                · have zt : ¬ B + S < H := fun q => absurd zh89 (nI_ge q (by omega))
                  refine V_ws (ws' := mw K h (mBk1 (mBk0 u c) H (B + S))) (by unfold mBk1; simp only [zt, if_true, if_false]) ?_
                  have zL1 : gi (mBk1 (mBk0 u c) H (B + S)) 21 = nI L := by unfold mBk1; simp only [zt, if_true, if_false]; exact hL
                  have zB1 : ga (mBk1 (mBk0 u c) H (B + S)) 25 0 = nI B := by unfold mBk1; simp only [zt, if_true, if_false]; exact hB
                  have zF1 : gi (mBk1 (mBk0 u c) H (B + S)) 24 = gi u 24 := by unfold mBk1; simp only [zt, if_true, if_false]; rfl
                  have zH1 : gi (mBk1 (mBk0 u c) H (B + S)) 22 = nI (min H (B + S)) := by unfold mBk1; simp only [zt, if_true, if_false]; rw [Nat.min_eq_left (by omega)]; exact hH
                  refine V_aload_n C dX8_comeBack_97 rfl 1 rfl ?_
                  refine V_get (v := .int (gi (mBk1 (mBk0 u c) H (B + S)) 21)) C dX8_comeBack_98 hi8 0 rfl rfl 21 (by decide) (List.mem_of_getElem? (i := 5) rfl) rfl rfl ?_
                  refine V_aload_n C dX8_comeBack_101 rfl 1 rfl ?_
                  refine V_get (v := .ref (h 26)) C dX8_comeBack_102 hi8 0 rfl rfl 25 (by decide) (List.mem_of_getElem? (i := 2) rfl) rfl rfl ?_
                  refine V_iconst (v := 0) C dX8_comeBack_105 (by decide) ?_
                  refine V_ialdn (v := (ga (mBk1 (mBk0 u c) H (B + S)) 25 0)) C dX8_comeBack_106 13 0 rfl rfl (0) (by decide) (by unfold vp_in; decide) rfl ?_
                  rw [zL1, zB1]
                  refine V_icmp_le (tgt := 140) C dX8_comeBack_107 (by decide) (fun zh107 => ?_) (fun zh107 => ?_)
                  · have zl : ¬ B < L := fun q => absurd zh107 (nI_ge q (by omega))
                    refine V_ws (ws' := mw K h (mBk2 (mBk1 (mBk0 u c) H (B + S)) L B)) (by unfold mBk2; simp only [zl, if_true, if_false]) ?_
                    have zL2 : gi (mBk2 (mBk1 (mBk0 u c) H (B + S)) L B) 21 = nI (min L B) := by unfold mBk2; simp only [zl, if_true, if_false]; rw [Nat.min_eq_left (by omega)]; exact zL1
                    have zH2 : gi (mBk2 (mBk1 (mBk0 u c) H (B + S)) L B) 22 = nI (min H (B + S)) := by unfold mBk2; simp only [zl, if_true, if_false]; exact zH1
                    refine V_aload_n C dX8_comeBack_140 rfl 1 rfl ?_
                    refine V_iload_n C dX8_comeBack_141 rfl 0 rfl ?_
                    refine V_callvV C dX8_comeBack_142 0 rfl rfl (c_X8_reach l D K h (mBk2 (mBk1 (mBk0 u c) H (B + S)) L B) (min H (B + S)) (B + S) (min L B) zH2 zL2 (by omega) (by omega) (by omega)) gX8_comeBack_X8_reach rfl 1 rfl (by decide +kernel) (by decide) ⟨Nat.le_of_ble_eq_true rfl, Nat.le_of_ble_eq_true rfl⟩ rfl (Nat.le_of_ble_eq_true rfl) (det1 ?_)
                    refine V_ws (ws' := mw K h (mBack u c B S H L)) rfl ?_
                    refine V_iconst (v := (-1)) C dX8_comeBack_145 (by decide) ?_
                    exact E (-1) (mBack u c B S H L) _ _ dX8_comeBack_146 rfl ⟨by first | rfl | (simp (decide := true) [b2i, gi_si, ga_si, gz_si, gl_si, gb_si, mPl_si, mGet_si, mNat_si, mSlot_si, mBy_si, mThr, zh4, zh89, Int32.not_lt.mpr zh89, zh107, Int32.not_lt.mpr zh107]; done) | (simp (decide := true) [b2i, gi_si, ga_si, gz_si, gl_si, gb_si, mPl_si, mGet_si, mNat_si, mSlot_si, mBy_si, mThr, zh4, zh89, Int32.not_lt.mpr zh89, zh107, Int32.not_lt.mpr zh107]; rfl) | (simp_all (decide := true) [b2i, gi_si, ga_si, gz_si, gl_si, gb_si, mPl_si, mGet_si, mNat_si, mSlot_si, mBy_si, mThr]; done), by first | rfl | (simp (decide := true) [b2i, gi_si, ga_si, gz_si, gl_si, gb_si, mPl_si, mGet_si, mNat_si, mSlot_si, mBy_si, mThr, zh4, zh89, Int32.not_lt.mpr zh89, zh107, Int32.not_lt.mpr zh107]; done) | (simp (decide := true) [b2i, gi_si, ga_si, gz_si, gl_si, gb_si, mPl_si, mGet_si, mNat_si, mSlot_si, mBy_si, mThr, zh4, zh89, Int32.not_lt.mpr zh89, zh107, Int32.not_lt.mpr zh107]; rfl) | (simp_all (decide := true) [b2i, gi_si, ga_si, gz_si, gl_si, gb_si, mPl_si, mGet_si, mNat_si, mSlot_si, mBy_si, mThr]; done)⟩
                  · refine V_aload_n C dX8_comeBack_110 rfl 1 rfl ?_
                    refine V_aload_n C dX8_comeBack_111 rfl 1 rfl ?_
                    refine V_get (v := .int (gi (mBk1 (mBk0 u c) H (B + S)) 24)) C dX8_comeBack_112 hi8 0 rfl rfl 24 (by decide) (List.mem_of_getElem? (i := 6) rfl) rfl rfl ?_
                    refine V_aload_n C dX8_comeBack_115 rfl 1 rfl ?_
                    refine V_get (v := .int (gi (mBk1 (mBk0 u c) H (B + S)) 21)) C dX8_comeBack_116 hi8 0 rfl rfl 21 (by decide) (List.mem_of_getElem? (i := 5) rfl) rfl rfl ?_
                    rw [zL1, zF1]
                    refine V_iadd C dX8_comeBack_119 ?_
                    refine V_aload_n C dX8_comeBack_120 rfl 1 rfl ?_
                    refine V_get (v := .ref (h 26)) C dX8_comeBack_121 hi8 0 rfl rfl 25 (by decide) (List.mem_of_getElem? (i := 2) rfl) rfl rfl ?_
                    refine V_iconst (v := 0) C dX8_comeBack_124 (by decide) ?_
                    refine V_ialdn (v := (ga (mBk1 (mBk0 u c) H (B + S)) 25 0)) C dX8_comeBack_125 13 0 rfl rfl (0) (by decide) (by unfold vp_in; decide) rfl ?_
                    rw [zB1]
                    refine V_isub C dX8_comeBack_126 ?_
                    refine V_put (ws' := (mw K h (si (mBk1 (mBk0 u c) H (B + S)) 24 (((gi u 24) + (nI L)) - (nI B))))) C dX8_comeBack_127 hi8 tyX8_ok nmX8 0 rfl rfl 24 (by decide) (List.mem_of_getElem? (i := 6) rfl) rfl rfl rfl rfl rfl (Nat.le_of_ble_eq_true rfl) (ms_24 K h (mBk1 (mBk0 u c) H (B + S)) (((gi u 24) + (nI L)) - (nI B))) ?_
                    refine V_aload_n C dX8_comeBack_130 rfl 1 rfl ?_
                    refine V_aload_n C dX8_comeBack_131 rfl 1 rfl ?_
                    refine V_get (v := .ref (h 26)) C dX8_comeBack_132 hi8 0 rfl rfl 25 (by decide) (List.mem_of_getElem? (i := 2) rfl) rfl rfl ?_
                    refine V_iconst (v := 0) C dX8_comeBack_135 (by decide) ?_
                    refine V_ialdn (v := (ga (mBk1 (mBk0 u c) H (B + S)) 25 0)) C dX8_comeBack_136 13 0 rfl rfl (0) (by decide) (by unfold vp_in; decide) (by first | rfl | (simp (disch := omega) only [ga_sa_ne, ga_sa_eq, ga_si, ga_sb, ga_sz, ga_sl])) ?_
                    rw [zB1]
                    refine V_put (ws' := (mw K h (si (si (mBk1 (mBk0 u c) H (B + S)) 24 (((gi u 24) + (nI L)) - (nI B))) 21 (nI B)))) C dX8_comeBack_137 hi8 tyX8_ok nmX8 0 rfl rfl 21 (by decide) (List.mem_of_getElem? (i := 5) rfl) rfl rfl rfl rfl rfl (Nat.le_of_ble_eq_true rfl) (ms_21 K h (si (mBk1 (mBk0 u c) H (B + S)) 24 (((gi u 24) + (nI L)) - (nI B))) (nI B)) ?_
                    have zl : B < L := (Nat.lt_or_ge B L).elim id (fun q => absurd (nI_le q (by omega)) zh107)
                    refine V_ws (ws' := mw K h (mBk2 (mBk1 (mBk0 u c) H (B + S)) L B)) (by unfold mBk2; simp only [zl, if_true, if_false]; rw [zF1]) ?_
                    have zL2 : gi (mBk2 (mBk1 (mBk0 u c) H (B + S)) L B) 21 = nI (min L B) := by unfold mBk2; simp only [zl, if_true, if_false]; rw [Nat.min_eq_right (by omega)]; rfl
                    have zH2 : gi (mBk2 (mBk1 (mBk0 u c) H (B + S)) L B) 22 = nI (min H (B + S)) := by unfold mBk2; simp only [zl, if_true, if_false]; exact zH1
                    refine V_aload_n C dX8_comeBack_140 rfl 1 rfl ?_
                    refine V_iload_n C dX8_comeBack_141 rfl 0 rfl ?_
                    refine V_callvV C dX8_comeBack_142 0 rfl rfl (c_X8_reach l D K h (mBk2 (mBk1 (mBk0 u c) H (B + S)) L B) (min H (B + S)) (B + S) (min L B) zH2 zL2 (by omega) (by omega) (by omega)) gX8_comeBack_X8_reach rfl 1 rfl (by decide +kernel) (by decide) ⟨Nat.le_of_ble_eq_true rfl, Nat.le_of_ble_eq_true rfl⟩ rfl (Nat.le_of_ble_eq_true rfl) (det1 ?_)
                    refine V_ws (ws' := mw K h (mBack u c B S H L)) rfl ?_
                    refine V_iconst (v := (-1)) C dX8_comeBack_145 (by decide) ?_
                    exact E (-1) (mBack u c B S H L) _ _ dX8_comeBack_146 rfl ⟨by first | rfl | (simp (decide := true) [b2i, gi_si, ga_si, gz_si, gl_si, gb_si, mPl_si, mGet_si, mNat_si, mSlot_si, mBy_si, mThr, zh4, zh89, Int32.not_lt.mpr zh89, zh107, Int32.not_le.mp zh107]; done) | (simp (decide := true) [b2i, gi_si, ga_si, gz_si, gl_si, gb_si, mPl_si, mGet_si, mNat_si, mSlot_si, mBy_si, mThr, zh4, zh89, Int32.not_lt.mpr zh89, zh107, Int32.not_le.mp zh107]; rfl) | (simp_all (decide := true) [b2i, gi_si, ga_si, gz_si, gl_si, gb_si, mPl_si, mGet_si, mNat_si, mSlot_si, mBy_si, mThr]; done), by first | rfl | (simp (decide := true) [b2i, gi_si, ga_si, gz_si, gl_si, gb_si, mPl_si, mGet_si, mNat_si, mSlot_si, mBy_si, mThr, zh4, zh89, Int32.not_lt.mpr zh89, zh107, Int32.not_le.mp zh107]; done) | (simp (decide := true) [b2i, gi_si, ga_si, gz_si, gl_si, gb_si, mPl_si, mGet_si, mNat_si, mSlot_si, mBy_si, mThr, zh4, zh89, Int32.not_lt.mpr zh89, zh107, Int32.not_le.mp zh107]; rfl) | (simp_all (decide := true) [b2i, gi_si, ga_si, gz_si, gl_si, gb_si, mPl_si, mGet_si, mNat_si, mSlot_si, mBy_si, mThr]; done)⟩
                · refine V_aload_n C dX8_comeBack_92 rfl 1 rfl ?_
                  refine V_iload_n C dX8_comeBack_93 rfl 0 rfl ?_
                  refine V_put (ws' := (mw K h (si (mBk0 u c) 22 (nI (B + S))))) C dX8_comeBack_94 hi8 tyX8_ok nmX8 0 rfl rfl 22 (by decide) (List.mem_of_getElem? (i := 4) rfl) rfl rfl rfl rfl rfl (Nat.le_of_ble_eq_true rfl) (ms_22 K h (mBk0 u c) (nI (B + S))) ?_
                  have zt : B + S < H := (Nat.lt_or_ge (B + S) H).elim id (fun q => absurd (nI_le q (by omega)) zh89)
                  refine V_ws (ws' := mw K h (mBk1 (mBk0 u c) H (B + S))) (by unfold mBk1; simp only [zt, if_true, if_false]) ?_
                  have zL1 : gi (mBk1 (mBk0 u c) H (B + S)) 21 = nI L := by unfold mBk1; simp only [zt, if_true, if_false]; exact hL
                  have zB1 : ga (mBk1 (mBk0 u c) H (B + S)) 25 0 = nI B := by unfold mBk1; simp only [zt, if_true, if_false]; exact hB
                  have zF1 : gi (mBk1 (mBk0 u c) H (B + S)) 24 = gi u 24 := by unfold mBk1; simp only [zt, if_true, if_false]; rfl
                  have zH1 : gi (mBk1 (mBk0 u c) H (B + S)) 22 = nI (min H (B + S)) := by unfold mBk1; simp only [zt, if_true, if_false]; rw [Nat.min_eq_right (by omega)]; rfl
                  refine V_aload_n C dX8_comeBack_97 rfl 1 rfl ?_
                  refine V_get (v := .int (gi (mBk1 (mBk0 u c) H (B + S)) 21)) C dX8_comeBack_98 hi8 0 rfl rfl 21 (by decide) (List.mem_of_getElem? (i := 5) rfl) rfl rfl ?_
                  refine V_aload_n C dX8_comeBack_101 rfl 1 rfl ?_
                  refine V_get (v := .ref (h 26)) C dX8_comeBack_102 hi8 0 rfl rfl 25 (by decide) (List.mem_of_getElem? (i := 2) rfl) rfl rfl ?_
                  refine V_iconst (v := 0) C dX8_comeBack_105 (by decide) ?_
                  refine V_ialdn (v := (ga (mBk1 (mBk0 u c) H (B + S)) 25 0)) C dX8_comeBack_106 13 0 rfl rfl (0) (by decide) (by unfold vp_in; decide) rfl ?_
                  rw [zL1, zB1]
                  refine V_icmp_le (tgt := 140) C dX8_comeBack_107 (by decide) (fun zh107 => ?_) (fun zh107 => ?_)
                  · have zl : ¬ B < L := fun q => absurd zh107 (nI_ge q (by omega))
                    refine V_ws (ws' := mw K h (mBk2 (mBk1 (mBk0 u c) H (B + S)) L B)) (by unfold mBk2; simp only [zl, if_true, if_false]) ?_
                    have zL2 : gi (mBk2 (mBk1 (mBk0 u c) H (B + S)) L B) 21 = nI (min L B) := by unfold mBk2; simp only [zl, if_true, if_false]; rw [Nat.min_eq_left (by omega)]; exact zL1
                    have zH2 : gi (mBk2 (mBk1 (mBk0 u c) H (B + S)) L B) 22 = nI (min H (B + S)) := by unfold mBk2; simp only [zl, if_true, if_false]; exact zH1
                    refine V_aload_n C dX8_comeBack_140 rfl 1 rfl ?_
                    refine V_iload_n C dX8_comeBack_141 rfl 0 rfl ?_
                    refine V_callvV C dX8_comeBack_142 0 rfl rfl (c_X8_reach l D K h (mBk2 (mBk1 (mBk0 u c) H (B + S)) L B) (min H (B + S)) (B + S) (min L B) zH2 zL2 (by omega) (by omega) (by omega)) gX8_comeBack_X8_reach rfl 1 rfl (by decide +kernel) (by decide) ⟨Nat.le_of_ble_eq_true rfl, Nat.le_of_ble_eq_true rfl⟩ rfl (Nat.le_of_ble_eq_true rfl) (det1 ?_)
                    refine V_ws (ws' := mw K h (mBack u c B S H L)) rfl ?_
                    refine V_iconst (v := (-1)) C dX8_comeBack_145 (by decide) ?_
                    exact E (-1) (mBack u c B S H L) _ _ dX8_comeBack_146 rfl ⟨by first | rfl | (simp (decide := true) [b2i, gi_si, ga_si, gz_si, gl_si, gb_si, mPl_si, mGet_si, mNat_si, mSlot_si, mBy_si, mThr, zh4, zh89, Int32.not_le.mp zh89, zh107, Int32.not_lt.mpr zh107]; done) | (simp (decide := true) [b2i, gi_si, ga_si, gz_si, gl_si, gb_si, mPl_si, mGet_si, mNat_si, mSlot_si, mBy_si, mThr, zh4, zh89, Int32.not_le.mp zh89, zh107, Int32.not_lt.mpr zh107]; rfl) | (simp_all (decide := true) [b2i, gi_si, ga_si, gz_si, gl_si, gb_si, mPl_si, mGet_si, mNat_si, mSlot_si, mBy_si, mThr]; done), by first | rfl | (simp (decide := true) [b2i, gi_si, ga_si, gz_si, gl_si, gb_si, mPl_si, mGet_si, mNat_si, mSlot_si, mBy_si, mThr, zh4, zh89, Int32.not_le.mp zh89, zh107, Int32.not_lt.mpr zh107]; done) | (simp (decide := true) [b2i, gi_si, ga_si, gz_si, gl_si, gb_si, mPl_si, mGet_si, mNat_si, mSlot_si, mBy_si, mThr, zh4, zh89, Int32.not_le.mp zh89, zh107, Int32.not_lt.mpr zh107]; rfl) | (simp_all (decide := true) [b2i, gi_si, ga_si, gz_si, gl_si, gb_si, mPl_si, mGet_si, mNat_si, mSlot_si, mBy_si, mThr]; done)⟩
                  · refine V_aload_n C dX8_comeBack_110 rfl 1 rfl ?_
                    refine V_aload_n C dX8_comeBack_111 rfl 1 rfl ?_
                    refine V_get (v := .int (gi (mBk1 (mBk0 u c) H (B + S)) 24)) C dX8_comeBack_112 hi8 0 rfl rfl 24 (by decide) (List.mem_of_getElem? (i := 6) rfl) rfl rfl ?_
                    refine V_aload_n C dX8_comeBack_115 rfl 1 rfl ?_
                    refine V_get (v := .int (gi (mBk1 (mBk0 u c) H (B + S)) 21)) C dX8_comeBack_116 hi8 0 rfl rfl 21 (by decide) (List.mem_of_getElem? (i := 5) rfl) rfl rfl ?_
                    rw [zL1, zF1]
                    refine V_iadd C dX8_comeBack_119 ?_
                    refine V_aload_n C dX8_comeBack_120 rfl 1 rfl ?_
                    refine V_get (v := .ref (h 26)) C dX8_comeBack_121 hi8 0 rfl rfl 25 (by decide) (List.mem_of_getElem? (i := 2) rfl) rfl rfl ?_
                    refine V_iconst (v := 0) C dX8_comeBack_124 (by decide) ?_
                    refine V_ialdn (v := (ga (mBk1 (mBk0 u c) H (B + S)) 25 0)) C dX8_comeBack_125 13 0 rfl rfl (0) (by decide) (by unfold vp_in; decide) rfl ?_
                    rw [zB1]
                    refine V_isub C dX8_comeBack_126 ?_
                    refine V_put (ws' := (mw K h (si (mBk1 (mBk0 u c) H (B + S)) 24 (((gi u 24) + (nI L)) - (nI B))))) C dX8_comeBack_127 hi8 tyX8_ok nmX8 0 rfl rfl 24 (by decide) (List.mem_of_getElem? (i := 6) rfl) rfl rfl rfl rfl rfl (Nat.le_of_ble_eq_true rfl) (ms_24 K h (mBk1 (mBk0 u c) H (B + S)) (((gi u 24) + (nI L)) - (nI B))) ?_
                    refine V_aload_n C dX8_comeBack_130 rfl 1 rfl ?_
                    refine V_aload_n C dX8_comeBack_131 rfl 1 rfl ?_
                    refine V_get (v := .ref (h 26)) C dX8_comeBack_132 hi8 0 rfl rfl 25 (by decide) (List.mem_of_getElem? (i := 2) rfl) rfl rfl ?_
                    refine V_iconst (v := 0) C dX8_comeBack_135 (by decide) ?_
                    refine V_ialdn (v := (ga (mBk1 (mBk0 u c) H (B + S)) 25 0)) C dX8_comeBack_136 13 0 rfl rfl (0) (by decide) (by unfold vp_in; decide) (by first | rfl | (simp (disch := omega) only [ga_sa_ne, ga_sa_eq, ga_si, ga_sb, ga_sz, ga_sl])) ?_
                    rw [zB1]
                    refine V_put (ws' := (mw K h (si (si (mBk1 (mBk0 u c) H (B + S)) 24 (((gi u 24) + (nI L)) - (nI B))) 21 (nI B)))) C dX8_comeBack_137 hi8 tyX8_ok nmX8 0 rfl rfl 21 (by decide) (List.mem_of_getElem? (i := 5) rfl) rfl rfl rfl rfl rfl (Nat.le_of_ble_eq_true rfl) (ms_21 K h (si (mBk1 (mBk0 u c) H (B + S)) 24 (((gi u 24) + (nI L)) - (nI B))) (nI B)) ?_
                    have zl : B < L := (Nat.lt_or_ge B L).elim id (fun q => absurd (nI_le q (by omega)) zh107)
                    refine V_ws (ws' := mw K h (mBk2 (mBk1 (mBk0 u c) H (B + S)) L B)) (by unfold mBk2; simp only [zl, if_true, if_false]; rw [zF1]) ?_
                    have zL2 : gi (mBk2 (mBk1 (mBk0 u c) H (B + S)) L B) 21 = nI (min L B) := by unfold mBk2; simp only [zl, if_true, if_false]; rw [Nat.min_eq_right (by omega)]; rfl
                    have zH2 : gi (mBk2 (mBk1 (mBk0 u c) H (B + S)) L B) 22 = nI (min H (B + S)) := by unfold mBk2; simp only [zl, if_true, if_false]; exact zH1
                    refine V_aload_n C dX8_comeBack_140 rfl 1 rfl ?_
                    refine V_iload_n C dX8_comeBack_141 rfl 0 rfl ?_
                    refine V_callvV C dX8_comeBack_142 0 rfl rfl (c_X8_reach l D K h (mBk2 (mBk1 (mBk0 u c) H (B + S)) L B) (min H (B + S)) (B + S) (min L B) zH2 zL2 (by omega) (by omega) (by omega)) gX8_comeBack_X8_reach rfl 1 rfl (by decide +kernel) (by decide) ⟨Nat.le_of_ble_eq_true rfl, Nat.le_of_ble_eq_true rfl⟩ rfl (Nat.le_of_ble_eq_true rfl) (det1 ?_)
                    refine V_ws (ws' := mw K h (mBack u c B S H L)) rfl ?_
                    refine V_iconst (v := (-1)) C dX8_comeBack_145 (by decide) ?_
                    exact E (-1) (mBack u c B S H L) _ _ dX8_comeBack_146 rfl ⟨by first | rfl | (simp (decide := true) [b2i, gi_si, ga_si, gz_si, gl_si, gb_si, mPl_si, mGet_si, mNat_si, mSlot_si, mBy_si, mThr, zh4, zh89, Int32.not_le.mp zh89, zh107, Int32.not_le.mp zh107]; done) | (simp (decide := true) [b2i, gi_si, ga_si, gz_si, gl_si, gb_si, mPl_si, mGet_si, mNat_si, mSlot_si, mBy_si, mThr, zh4, zh89, Int32.not_le.mp zh89, zh107, Int32.not_le.mp zh107]; rfl) | (simp_all (decide := true) [b2i, gi_si, ga_si, gz_si, gl_si, gb_si, mPl_si, mGet_si, mNat_si, mSlot_si, mBy_si, mThr]; done), by first | rfl | (simp (decide := true) [b2i, gi_si, ga_si, gz_si, gl_si, gb_si, mPl_si, mGet_si, mNat_si, mSlot_si, mBy_si, mThr, zh4, zh89, Int32.not_le.mp zh89, zh107, Int32.not_le.mp zh107]; done) | (simp (decide := true) [b2i, gi_si, ga_si, gz_si, gl_si, gb_si, mPl_si, mGet_si, mNat_si, mSlot_si, mBy_si, mThr, zh4, zh89, Int32.not_le.mp zh89, zh107, Int32.not_le.mp zh107]; rfl) | (simp_all (decide := true) [b2i, gi_si, ga_si, gz_si, gl_si, gb_si, mPl_si, mGet_si, mNat_si, mSlot_si, mBy_si, mThr]; done)⟩
              · exact absurd zh13 (by decide)
  · refine V_iconst (v := 0) C dX8_comeBack_7 (by decide) ?_
    exact E 0 u _ _ dX8_comeBack_8 rfl ⟨by first | rfl | (simp (decide := true) [b2i, gi_si, ga_si, gz_si, gl_si, gb_si, mPl_si, mGet_si, mNat_si, mSlot_si, mBy_si, mThr, zh4]; done) | (simp (decide := true) [b2i, gi_si, ga_si, gz_si, gl_si, gb_si, mPl_si, mGet_si, mNat_si, mSlot_si, mBy_si, mThr, zh4]; rfl) | (simp_all (decide := true) [b2i, gi_si, ga_si, gz_si, gl_si, gb_si, mPl_si, mGet_si, mNat_si, mSlot_si, mBy_si, mThr]; done), by first | rfl | (simp (decide := true) [b2i, gi_si, ga_si, gz_si, gl_si, gb_si, mPl_si, mGet_si, mNat_si, mSlot_si, mBy_si, mThr, zh4]; done) | (simp (decide := true) [b2i, gi_si, ga_si, gz_si, gl_si, gb_si, mPl_si, mGet_si, mNat_si, mSlot_si, mBy_si, mThr, zh4]; rfl) | (simp_all (decide := true) [b2i, gi_si, ga_si, gz_si, gl_si, gb_si, mPl_si, mGet_si, mNat_si, mSlot_si, mBy_si, mThr]; done)⟩

theorem ix3 {x : Int32} (n : Nat) (hx : x = nI n) (k : Int32) (k' : Nat) (hk : k = nI k') (h : 3 * n + k' < 240) : (3 * x + k).toNatClampNeg = 3 * n + k' ∧ vp_in (3 * x + k) 240 := by
  have e : (3 * x + k) = nI (3 * n + k') := by
    rw [hx, hk, show (3 : Int32) = nI 3 from rfl, pk_mul, nI_add]
  rw [e]
  exact ⟨nI_clamp (by omega), vp_in_nI h (by omega)⟩
theorem ix30 {x : Int32} (n : Nat) (hx : x = nI n) (h : 3 * n < 240) : (3 * x).toNatClampNeg = 3 * n ∧ vp_in (3 * x) 240 := by
  have e : (3 * x) = nI (3 * n) := by
    rw [hx, show (3 : Int32) = nI 3 from rfl, pk_mul]
  rw [e]
  exact ⟨nI_clamp (by omega), vp_in_nI h (by omega)⟩
def mIns (u : MS) (n : Nat) (o q a b c : Int32) (s : Bool) : MS := si (sz (sa (sa (sa (sa (sa (si u 0 0) 1 n o) 2 n q) 3 (3 * n) a) 3 (3 * n + 1) b) 3 (3 * n + 2) c) 4 n s) 5 (gi u 5 + 1)
def mBad (o q : Int32) : Bool := mOut o 0 20 || mOut q 0 15
set_option maxHeartbeats 4000000 in
set_option maxRecDepth 100000 in
theorem c_X8_instruction (l : Launch) (D : va_G) (K : Nat → ClassId) (h : Nat → Nat) (u : MS) (xo : Int32) (xq : Int32) (xa : Int32) (xb : Int32) (xc : Int32) (xs : Bool) (n : Nat) (hn : gi u 5 = nI n) (hn2 : n ≤ 40) : vMi l D vwCl (tys0 K) yX8_instruction wsX8_instruction ({ frames := 1, cells := 0, slots := 0, locals := 22 } : Room) [.ref (h 0), .int xo, .int xq, .int xa, .int xb, .int xc, .int (b2i xs)] (mw K h u) (mw K h) (fun r9 u9 => r9 = (if (mBad xo xq || (!mBad xo xq && decide (gi u 5 = 40))) = true then 0 else gi u 5 + 1) ∧ u9 = (if (mBad xo xq || (!mBad xo xq && decide (gi u 5 = 40))) = true then si u 0 (mThr (mBad xo xq) (!mBad xo xq && decide (gi u 5 = 40))) else mIns u n xo xq xa xb xc xs)) := by
  refine vMi_of (cc := cX8_instruction) (nL := 8) (rt := .int) (by decide) rfl (Nat.le_of_ble_eq_true rfl) ?_
  intro X C E
  show V X 0 0 (mw K h u) 0 [(0, .ref (h 0)), (1, .int xo), (2, .int xq), (3, .int xa), (4, .int xb), (5, .int xc), (6, .int (b2i xs))] []
  have hi8 : ∀ w ∈ wsX80, w ∈ wsX8_instruction := fun _ h => List.mem_cons_of_mem _ (List.mem_append_right _ h)
  suffices zj25 : ∀ xbad : Bool, xbad = (mBad xo xq) → V X 0 0 (mw K h u) 25 [(0, .ref (h 0)), (1, .int xo), (2, .int xq), (3, .int xa), (4, .int xb), (5, .int xc), (6, .int (b2i xs))] [.int (b2i xbad)] by
    refine V_iload_n C dX8_instruction_0 rfl 1 rfl ?_
    refine V_iconst (v := 0) C dX8_instruction_1 (by decide) ?_
    refine V_bipush (v := 20) C dX8_instruction_2 (by decide) ?_
    refine V_calliS C dX8_instruction_4 (c_X8_out l D K (mw K h u) xo 0 20) gX8_instruction_X8_out rfl 3 rfl (by decide +kernel) (by decide) ⟨Nat.le_of_ble_eq_true rfl, Nat.le_of_ble_eq_true rfl⟩ rfl (Nat.le_of_ble_eq_true rfl) (det0 ?_)
    refine V_ifz_ne (tgt := 20) C dX8_instruction_7 (by decide) (fun zh7 => ?_) (fun zh7 => ?_)
    · refine V_iconst (v := 1) C dX8_instruction_20 (by decide) ?_
      refine V_goto (tgt := 25) C dX8_instruction_21 (by decide) ?_
      refine V_sub [0, 1, 2, 3, 4, 5, 6] rfl ?_
      exact zj25 true (by simp [mBad, zh7])
    · refine V_iload_n C dX8_instruction_10 rfl 2 rfl ?_
      refine V_iconst (v := 0) C dX8_instruction_11 (by decide) ?_
      refine V_bipush (v := 15) C dX8_instruction_12 (by decide) ?_
      refine V_calliS C dX8_instruction_14 (c_X8_out l D K (mw K h u) xq 0 15) gX8_instruction_X8_out rfl 3 rfl (by decide +kernel) (by decide) ⟨Nat.le_of_ble_eq_true rfl, Nat.le_of_ble_eq_true rfl⟩ rfl (Nat.le_of_ble_eq_true rfl) (det0 ?_)
      refine V_ifz_eq (tgt := 24) C dX8_instruction_17 (by decide) (fun zh17 => ?_) (fun zh17 => ?_)
      · refine V_iconst (v := 0) C dX8_instruction_24 (by decide) ?_
        refine V_sub [0, 1, 2, 3, 4, 5, 6] rfl ?_
        exact zj25 false (by simp [mBad, zh7, zh17])
      · refine V_iconst (v := 1) C dX8_instruction_20 (by decide) ?_
        refine V_goto (tgt := 25) C dX8_instruction_21 (by decide) ?_
        refine V_sub [0, 1, 2, 3, 4, 5, 6] rfl ?_
        exact zj25 true (by simp [mBad, zh7, zh17])
  intro xbad e_xbad
  refine V_istore (lv' := [(7, .int (b2i xbad)), (0, .ref (h 0)), (1, .int xo), (2, .int xq), (3, .int xa), (4, .int xb), (5, .int xc), (6, .int (b2i xs))]) C dX8_instruction_25 (by decide) rfl ?_
  refine V_aload_n C dX8_instruction_27 rfl 1 rfl ?_
  refine V_iload C dX8_instruction_28 0 rfl ?_
  suffices zj49 : ∀ xfull : Bool, xfull = (!xbad && decide (gi u 5 = 40)) → V X 0 0 (mw K h u) 49 [(7, .int (b2i xbad)), (0, .ref (h 0)), (1, .int xo), (2, .int xq), (3, .int xa), (4, .int xb), (5, .int xc), (6, .int (b2i xs))] [.int (b2i xfull), .int (b2i xbad), .ref (h 0)] by
    refine V_iload C dX8_instruction_30 0 rfl ?_
    refine V_ifz_ne (tgt := 48) C dX8_instruction_32 (by decide) (fun zh32 => ?_) (fun zh32 => ?_)
    · refine V_iconst (v := 0) C dX8_instruction_48 (by decide) ?_
      refine V_sub [0, 1, 2, 3, 4, 5, 6, 7] rfl ?_
      exact zj49 false (by first | rfl | (simp (decide := true) [b2i, gi_si, ga_si, gz_si, gl_si, gb_si, mPl_si, mGet_si, mNat_si, mSlot_si, mBy_si, mThr, zh32]; done) | (simp (decide := true) [b2i, gi_si, ga_si, gz_si, gl_si, gb_si, mPl_si, mGet_si, mNat_si, mSlot_si, mBy_si, mThr, zh32]; rfl) | (simp_all (decide := true) [b2i, gi_si, ga_si, gz_si, gl_si, gb_si, mPl_si, mGet_si, mNat_si, mSlot_si, mBy_si, mThr]; done))
    · refine V_aload_n C dX8_instruction_35 rfl 1 rfl ?_
      refine V_get (v := .int (gi u 5)) C dX8_instruction_36 hi8 0 rfl rfl 5 (by decide) (List.mem_of_getElem? (i := 1) rfl) rfl rfl ?_
      refine V_bipush (v := 40) C dX8_instruction_39 (by decide) ?_
      refine V_icmp_ne (tgt := 48) C dX8_instruction_41 (by decide) (fun zh41 => ?_) (fun zh41 => ?_)
      · refine V_iconst (v := 0) C dX8_instruction_48 (by decide) ?_
        refine V_sub [0, 1, 2, 3, 4, 5, 6, 7] rfl ?_
        exact zj49 false (by first | rfl | (simp (decide := true) [b2i, gi_si, ga_si, gz_si, gl_si, gb_si, mPl_si, mGet_si, mNat_si, mSlot_si, mBy_si, mThr, zh32, zh41]; done) | (simp (decide := true) [b2i, gi_si, ga_si, gz_si, gl_si, gb_si, mPl_si, mGet_si, mNat_si, mSlot_si, mBy_si, mThr, zh32, zh41]; rfl) | (simp_all (decide := true) [b2i, gi_si, ga_si, gz_si, gl_si, gb_si, mPl_si, mGet_si, mNat_si, mSlot_si, mBy_si, mThr]; done))
      · refine V_iconst (v := 1) C dX8_instruction_44 (by decide) ?_
        refine V_goto (tgt := 49) C dX8_instruction_45 (by decide) ?_
        refine V_sub [0, 1, 2, 3, 4, 5, 6, 7] rfl ?_
        exact zj49 true (by first | rfl | (simp (decide := true) [b2i, gi_si, ga_si, gz_si, gl_si, gb_si, mPl_si, mGet_si, mNat_si, mSlot_si, mBy_si, mThr, zh32, zh41]; done) | (simp (decide := true) [b2i, gi_si, ga_si, gz_si, gl_si, gb_si, mPl_si, mGet_si, mNat_si, mSlot_si, mBy_si, mThr, zh32, zh41]; rfl) | (simp_all (decide := true) [b2i, gi_si, ga_si, gz_si, gl_si, gb_si, mPl_si, mGet_si, mNat_si, mSlot_si, mBy_si, mThr]; done))
  intro xfull e_xfull
  refine V_calliV C dX8_instruction_49 0 rfl rfl (c_X8_throwing l D K h u xbad xfull ) gX8_instruction_X8_throwing rfl 2 rfl (by decide +kernel) (by decide) ⟨Nat.le_of_ble_eq_true rfl, Nat.le_of_ble_eq_true rfl⟩ rfl (Nat.le_of_ble_eq_true rfl) (det2 ?_)
  refine V_ifz_eq (tgt := 57) C dX8_instruction_52 (by decide) (fun zh52 => ?_) (fun zh52 => ?_)
  · have zb := Bool.or_eq_false_iff.mp zh52
    refine V_ws (ws' := mw K h (si u 0 0)) (by rw [zb.1, zb.2]; rfl) ?_
    refine V_aload_n C dX8_instruction_57 rfl 1 rfl ?_
    refine V_get (v := .ref (h 2)) C dX8_instruction_58 hi8 0 rfl rfl 1 (by decide) (List.mem_of_getElem? (i := 2) rfl) rfl rfl ?_
    refine V_aload_n C dX8_instruction_61 rfl 1 rfl ?_
    refine V_get (v := .int (gi u 5)) C dX8_instruction_62 hi8 0 rfl rfl 5 (by decide) (List.mem_of_getElem? (i := 1) rfl) rfl rfl ?_
    refine V_iload_n C dX8_instruction_65 rfl 2 rfl ?_
    refine V_iastn (ws' := (mw K h (sa (si u 0 0) 1 (n) xo))) C dX8_instruction_66 1 0 rfl rfl (n) (by rw [hn]; exact nI_clamp (by omega)) (by rw [hn]; exact vp_in_nI (by omega) (by omega)) (ms_1 K h (si u 0 0) (n) xo) ?_
    refine V_aload_n C dX8_instruction_67 rfl 1 rfl ?_
    refine V_get (v := .ref (h 3)) C dX8_instruction_68 hi8 0 rfl rfl 2 (by decide) (List.mem_of_getElem? (i := 3) rfl) rfl rfl ?_
    refine V_aload_n C dX8_instruction_71 rfl 1 rfl ?_
    refine V_get (v := .int (gi u 5)) C dX8_instruction_72 hi8 0 rfl rfl 5 (by decide) (List.mem_of_getElem? (i := 1) rfl) rfl rfl ?_
    refine V_iload_n C dX8_instruction_75 rfl 3 rfl ?_
    refine V_iastn (ws' := (mw K h (sa (sa (si u 0 0) 1 (n) xo) 2 (n) xq))) C dX8_instruction_76 2 0 rfl rfl (n) (by rw [hn]; exact nI_clamp (by omega)) (by rw [hn]; exact vp_in_nI (by omega) (by omega)) (ms_2 K h (sa (si u 0 0) 1 (n) xo) (n) xq) ?_
    refine V_aload_n C dX8_instruction_77 rfl 1 rfl ?_
    refine V_get (v := .ref (h 4)) C dX8_instruction_78 hi8 0 rfl rfl 3 (by decide) (List.mem_of_getElem? (i := 4) rfl) rfl rfl ?_
    refine V_iconst (v := 3) C dX8_instruction_81 (by decide) ?_
    refine V_aload_n C dX8_instruction_82 rfl 1 rfl ?_
    refine V_get (v := .int (gi u 5)) C dX8_instruction_83 hi8 0 rfl rfl 5 (by decide) (List.mem_of_getElem? (i := 1) rfl) rfl rfl ?_
    refine V_imul C dX8_instruction_86 ?_
    refine V_iload_n C dX8_instruction_87 rfl 4 rfl ?_
    refine V_iastn (ws' := (mw K h (sa (sa (sa (si u 0 0) 1 (n) xo) 2 (n) xq) 3 (3 * n) xa))) C dX8_instruction_88 3 0 rfl rfl (3 * n) (ix30 n hn (by omega)).1 ((ix30 n hn (by omega)).2) (ms_3 K h (sa (sa (si u 0 0) 1 (n) xo) 2 (n) xq) (3 * n) xa) ?_
    refine V_aload_n C dX8_instruction_89 rfl 1 rfl ?_
    refine V_get (v := .ref (h 4)) C dX8_instruction_90 hi8 0 rfl rfl 3 (by decide) (List.mem_of_getElem? (i := 4) rfl) rfl rfl ?_
    refine V_iconst (v := 3) C dX8_instruction_93 (by decide) ?_
    refine V_aload_n C dX8_instruction_94 rfl 1 rfl ?_
    refine V_get (v := .int (gi u 5)) C dX8_instruction_95 hi8 0 rfl rfl 5 (by decide) (List.mem_of_getElem? (i := 1) rfl) rfl rfl ?_
    refine V_imul C dX8_instruction_98 ?_
    refine V_iconst (v := 1) C dX8_instruction_99 (by decide) ?_
    refine V_iadd C dX8_instruction_100 ?_
    refine V_iload C dX8_instruction_101 5 rfl ?_
    refine V_iastn (ws' := (mw K h (sa (sa (sa (sa (si u 0 0) 1 (n) xo) 2 (n) xq) 3 (3 * n) xa) 3 (3 * n + 1) xb))) C dX8_instruction_103 3 0 rfl rfl (3 * n + 1) (ix3 n hn 1 1 rfl (by omega)).1 ((ix3 n hn 1 1 rfl (by omega)).2) (ms_3 K h (sa (sa (sa (si u 0 0) 1 (n) xo) 2 (n) xq) 3 (3 * n) xa) (3 * n + 1) xb) ?_
    refine V_aload_n C dX8_instruction_104 rfl 1 rfl ?_
    refine V_get (v := .ref (h 4)) C dX8_instruction_105 hi8 0 rfl rfl 3 (by decide) (List.mem_of_getElem? (i := 4) rfl) rfl rfl ?_
    refine V_iconst (v := 3) C dX8_instruction_108 (by decide) ?_
    refine V_aload_n C dX8_instruction_109 rfl 1 rfl ?_
    refine V_get (v := .int (gi u 5)) C dX8_instruction_110 hi8 0 rfl rfl 5 (by decide) (List.mem_of_getElem? (i := 1) rfl) rfl rfl ?_
    refine V_imul C dX8_instruction_113 ?_
    refine V_iconst (v := 2) C dX8_instruction_114 (by decide) ?_
    refine V_iadd C dX8_instruction_115 ?_
    refine V_iload C dX8_instruction_116 6 rfl ?_
    refine V_iastn (ws' := (mw K h (sa (sa (sa (sa (sa (si u 0 0) 1 (n) xo) 2 (n) xq) 3 (3 * n) xa) 3 (3 * n + 1) xb) 3 (3 * n + 2) xc))) C dX8_instruction_118 3 0 rfl rfl (3 * n + 2) (ix3 n hn 2 2 rfl (by omega)).1 ((ix3 n hn 2 2 rfl (by omega)).2) (ms_3 K h (sa (sa (sa (sa (si u 0 0) 1 (n) xo) 2 (n) xq) 3 (3 * n) xa) 3 (3 * n + 1) xb) (3 * n + 2) xc) ?_
    refine V_aload_n C dX8_instruction_119 rfl 1 rfl ?_
    refine V_get (v := .ref (h 5)) C dX8_instruction_120 hi8 0 rfl rfl 4 (by decide) (List.mem_of_getElem? (i := 5) rfl) rfl rfl ?_
    refine V_aload_n C dX8_instruction_123 rfl 1 rfl ?_
    refine V_get (v := .int (gi u 5)) C dX8_instruction_124 hi8 0 rfl rfl 5 (by decide) (List.mem_of_getElem? (i := 1) rfl) rfl rfl ?_
    refine V_iload C dX8_instruction_127 7 rfl ?_
    refine V_zastn (ws' := (mw K h (sz (sa (sa (sa (sa (sa (si u 0 0) 1 (n) xo) 2 (n) xq) 3 (3 * n) xa) 3 (3 * n + 1) xb) 3 (3 * n + 2) xc) 4 (n) xs))) C dX8_instruction_129 4 2 rfl rfl (n) (by rw [hn]; exact nI_clamp (by omega)) (by rw [hn]; exact vp_in_nI (by omega) (by omega)) (ms_4 K h (sa (sa (sa (sa (sa (si u 0 0) 1 (n) xo) 2 (n) xq) 3 (3 * n) xa) 3 (3 * n + 1) xb) 3 (3 * n + 2) xc) (n) xs) ?_
    refine V_aload_n C dX8_instruction_130 rfl 1 rfl ?_
    refine V_dup C dX8_instruction_131 rfl ?_
    refine V_get (v := .int (gi u 5)) C dX8_instruction_132 hi8 0 rfl rfl 5 (by decide) (List.mem_of_getElem? (i := 1) rfl) rfl rfl ?_
    refine V_iconst (v := 1) C dX8_instruction_135 (by decide) ?_
    refine V_iadd C dX8_instruction_136 ?_
    refine V_put (ws' := (mw K h (si (sz (sa (sa (sa (sa (sa (si u 0 0) 1 (n) xo) 2 (n) xq) 3 (3 * n) xa) 3 (3 * n + 1) xb) 3 (3 * n + 2) xc) 4 (n) xs) 5 ((gi u 5) + 1)))) C dX8_instruction_137 hi8 tyX8_ok nmX8 0 rfl rfl 5 (by decide) (List.mem_of_getElem? (i := 1) rfl) rfl rfl rfl rfl rfl (Nat.le_of_ble_eq_true rfl) (ms_5 K h (sz (sa (sa (sa (sa (sa (si u 0 0) 1 (n) xo) 2 (n) xq) 3 (3 * n) xa) 3 (3 * n + 1) xb) 3 (3 * n + 2) xc) 4 (n) xs) ((gi u 5) + 1)) ?_
    refine V_aload_n C dX8_instruction_140 rfl 1 rfl ?_
    refine V_get (v := .int ((gi u 5) + 1)) C dX8_instruction_141 hi8 0 rfl rfl 5 (by decide) (List.mem_of_getElem? (i := 1) rfl) rfl rfl ?_
    exact E ((gi u 5) + 1) (si (sz (sa (sa (sa (sa (sa (si u 0 0) 1 (n) xo) 2 (n) xq) 3 (3 * n) xa) 3 (3 * n + 1) xb) 3 (3 * n + 2) xc) 4 (n) xs) 5 ((gi u 5) + 1)) _ _ dX8_instruction_144 rfl ⟨by rw [← e_xbad, ← e_xfull, zb.1, zb.2]; rfl, by rw [← e_xbad, ← e_xfull, zb.1, zb.2]; rfl⟩
  · refine V_iconst (v := 0) C dX8_instruction_55 (by decide) ?_
    exact E 0 (si u 0 (mThr xbad xfull)) _ _ dX8_instruction_56 rfl ⟨by rw [← e_xbad, ← e_xfull, if_pos zh52], by rw [← e_xbad, ← e_xfull, if_pos zh52]⟩

