def dRunL (Now : CS → I6) : Nat → CS → Int32 × CS
  | 0, u => (5, u)
  | f + 1, u => if (dStep u (Now u)).1 = -1 then dRunL Now f (dStep u (Now u)).2 else dStep u (Now u)
/-- a state in which a step can be done -/
def dGood (b : Bool) (c j : Nat) (v : CS) (I : I6) : Prop := cC v < 41 ∧ cS v = b ∧ dPre v I ∧ ∃ i9 ai : Nat, (cP v)[i9]? = some (ai, I) ∧ lAt (cI v c) (cQ v j) (cI v 4) = some ai
set_option maxHeartbeats 4000000 in
set_option maxRecDepth 100000 in
theorem c_X7_run_true (l : Launch) (hlf : l.stackTraces = false) (D : va_G) (K : Nat → ClassId) (G : gE) (tb : Nat → Nat) (ga9 : gAll G tb) (gx : gXc G) (h : Nat → Nat) (u : CS) (xb : Int32) (hC : cC u < 41) (hsw : cS u = true) (Now : CS → I6) (J : CS → Prop) (hJ : ∀ v, J v → dGood true 7 0 v (Now v) ∧ ((dStep v (Now v)).1 = -1 → J (dStep v (Now v)).2)) (hu : mOut xb 1 500 = false → ¬ cI u 7 = 0 → cE u = false → J u) : xMi l D vwCl (tys0 K) G yX7_run wsX7_run ({ frames := 6, cells := 1, slots := 6, locals := 140 } : Room) [.ref (h 0), .int xb] (cw K h u) (cw K h) (fun r9 u9 => (mOut xb 1 500 = false ∧ ¬ cI u 7 = 0 ∧ cE u = false) ∧ r9 = (dRunL Now (tn xb) u).1 ∧ u9 = (dRunL Now (tn xb) u).2) (fun E9 u9 => (E9 = "java/lang/IllegalArgumentException" ∧ mOut xb 1 500 = true ∧ u9 = u) ∨ (E9 = "java/lang/IllegalStateException" ∧ mOut xb 1 500 = false ∧ (cI u 7 = 0 ∨ cE u = true) ∧ u9 = u)) := by
  refine xMi_of (cc := cX7_run) (nL := 4) (rt := .int) (by decide) rfl rfl (Nat.le_of_ble_eq_true rfl) gx hlf (by decide) ?_
  intro X C hg E Th
  show V X 0 0 (cw K h u) 0 [(0, .ref (h 0)), (1, .int xb)] []
  have go := ga9.1
  have gn := ga9.2.1
  have gt := ga9.2.2
  have hi7 : ∀ w ∈ wsX70, w ∈ wsX7_run := fun _ h => List.mem_cons_of_mem _ (List.mem_append_left _ (List.mem_append_left _ (List.mem_append_left _ (List.mem_append_left _ (List.mem_append_left _ (List.mem_append_left _ (List.mem_append_left _ (List.mem_append_left _ (List.mem_append_right _ h)))))))))
  have hi4 : ∀ w ∈ wsX40, w ∈ wsX7_run := fun _ h => List.mem_cons_of_mem _ (List.mem_append_left _ (List.mem_append_left _ (List.mem_append_left _ (List.mem_append_left _ (List.mem_append_left _ (List.mem_append_left _ (List.mem_append_left _ (List.mem_append_right _ h))))))))
  refine V_iload_n C dX7_run_0 rfl 1 rfl ?_
  refine V_iconst (v := 1) C dX7_run_1 (by decide) ?_
  refine V_icmp_lt (tgt := 12) C dX7_run_2 (by decide) (fun zh2 => ?_) (fun zh2 => ?_)
  · exact Th u _ _ _ 49 100 53 "java/lang/IllegalArgumentException" "no such budget" dX7_run_12 dX7_run_15 dX7_run_16 dX7_run_18 dX7_run_21 (by decide) (by decide) (List.mem_of_getElem? (i := 1) rfl) (List.mem_of_getElem? (i := 2) rfl) (fun _ h => List.mem_cons_of_mem _ (List.mem_append_left _ (List.mem_append_right _ h))) rfl (Or.inl ⟨rfl, decide_eq_true (Decidable.byContradiction (fun q => by have a1 := Int32.le_iff_toInt_le.mp (Int32.not_lt.mp (fun z => q (Or.inl z))); have a2 := Int32.le_iff_toInt_le.mp (Int32.not_lt.mp (fun z => q (Or.inr z))); have q_0 := Int32.lt_iff_toInt_lt.mp zh2; have l_0 : (1 : Int32).toInt = 1 := (by decide); have l_1 : (500 : Int32).toInt = 500 := (by decide); omega)), rfl⟩)
  · refine V_iload_n C dX7_run_5 rfl 1 rfl ?_
    refine V_sipush (v := 500) C dX7_run_6 (by decide) ?_
    refine V_icmp_le (tgt := 22) C dX7_run_9 (by decide) (fun zh9 => ?_) (fun zh9 => ?_)
    · refine V_aload_n C dX7_run_22 rfl 0 rfl ?_
      refine V_get (v := .ref (h 18)) C dX7_run_23 hi7 0 (cw_a rfl) rfl 5 (by decide) (List.mem_of_getElem? (i := 5) rfl) rfl (by show some (Value.ref _) = _; rw [show cS u = true from hsw]; rfl) ?_
      refine V_calliV C dX7_run_26 18 (cw_a rfl) rfl (c_X4_size l D K (cw K h u) 18 (h 18) (h 19) (cI u 7) (cw_a rfl)) gX7_run_X4_size rfl 0 rfl (by decide +kernel) (by decide) ⟨Nat.le_of_ble_eq_true rfl, Nat.le_of_ble_eq_true rfl⟩ rfl (Nat.le_of_ble_eq_true rfl) (det0 ?_)
      refine V_if_eq (tgt := 39) C dX7_run_29 (by decide) (fun zh29 => ?_) (fun zh29 => ?_)
      · exact Th u _ _ _ 62 106 66 "java/lang/IllegalStateException" "there is nothing to run" dX7_run_39 dX7_run_42 dX7_run_43 dX7_run_45 dX7_run_48 (by decide) (by decide) (List.mem_of_getElem? (i := 3) rfl) (List.mem_of_getElem? (i := 4) rfl) (fun _ h => List.mem_cons_of_mem _ (List.mem_append_right _ h)) rfl (Or.inr ⟨rfl, decide_eq_false (fun q => by rcases q with q | q <;> have a1 := Int32.lt_iff_toInt_lt.mp q <;> (have q_0 := Int32.le_iff_toInt_le.mp (Int32.not_lt.mp zh2); have q_1 := Int32.le_iff_toInt_le.mp zh9; have l_0 : (1 : Int32).toInt = 1 := (by decide); have l_1 : (500 : Int32).toInt = 500 := (by decide); omega)), Or.inl zh29, rfl⟩)
      · refine V_aload_n C dX7_run_32 rfl 0 rfl ?_
        refine V_get (v := .int (b2i (cE u))) C dX7_run_33 hi7 0 (cw_a rfl) rfl 7 (by decide) (List.mem_of_getElem? (i := 6) rfl) rfl rfl ?_
        refine V_ifz_eq (tgt := 49) C dX7_run_36 (by decide) (fun zh36 => ?_) (fun zh36 => ?_)
        · refine V_iconst (v := 0) C dX7_run_49 (by decide) ?_
          refine V_istore_n (lv' := [(2, .int 0), (0, .ref (h 0)), (1, .int xb)]) C dX7_run_50 rfl (by decide) rfl ?_
          have zb1 := mOut_f (show mOut xb 1 500 = false from decide_eq_false (fun q => by rcases q with q | q <;> have a1 := Int32.lt_iff_toInt_lt.mp q <;> (have q_0 := Int32.le_iff_toInt_le.mp (Int32.not_lt.mp zh2); have q_1 := Int32.le_iff_toInt_le.mp zh9; have l_0 : (1 : Int32).toInt = 1 := (by decide); have l_1 : (500 : Int32).toInt = 500 := (by decide); omega)))
          have z1 : (1 : Int32).toInt = 1 := by decide
          have z5 : (500 : Int32).toInt = 500 := by decide
          have zB : xb = nI (tn xb) := nI_tn (by omega)
          have zB2 : tn xb ≤ 500 := by have := tn_toInt (x := xb) (by omega); omega
          have zJ0 : J u := hu (decide_eq_false (fun q => by rcases q with q | q <;> have a1 := Int32.lt_iff_toInt_lt.mp q <;> (have q_0 := Int32.le_iff_toInt_le.mp (Int32.not_lt.mp zh2); have q_1 := Int32.le_iff_toInt_le.mp zh9; have l_0 : (1 : Int32).toInt = 1 := (by decide); have l_1 : (500 : Int32).toInt = 500 := (by decide); omega))) zh29 zh36
          have zl : ∀ (f j : Nat) (v : CS), j + f = tn xb → J v → dRunL Now f v = dRunL Now (tn xb) u → V X 0 0 (cw K h v) 51 [(2, .int (nI j)), (0, .ref (h 0)), (1, .int xb)] [] := by
            intro f
            induction f with
            | zero =>
              intro j v hj hv hF
              have zJ := hJ v hv
              obtain ⟨i9, ai, zI, zA⟩ := zJ.1.2.2.2
              refine V_iload_n C dX7_run_51 rfl 0 rfl ?_
              refine V_iload_n C dX7_run_52 rfl 2 rfl ?_
              refine V_icmp_ge (tgt := 74) C dX7_run_53 (by decide) (fun zh53 => ?_) (fun zh53 => ?_)
              · refine V_iconst (v := 5) C dX7_run_74 (by decide) ?_
                exact V_widen (Nat.zero_le _) (Nat.zero_le _) (E 5 v _ _ dX7_run_75 rfl ⟨⟨decide_eq_false (fun q => by rcases q with q | q <;> have a1 := Int32.lt_iff_toInt_lt.mp q <;> (have q_0 := Int32.le_iff_toInt_le.mp (Int32.not_lt.mp zh2); have q_1 := Int32.le_iff_toInt_le.mp zh9; have l_0 : (1 : Int32).toInt = 1 := (by decide); have l_1 : (500 : Int32).toInt = 500 := (by decide); omega)), zh29, zh36⟩, congrArg Prod.fst hF, congrArg Prod.snd hF⟩)
              · exact absurd (by rw [zB, show j = tn xb by omega]; exact Int32.le_refl _) zh53
            | succ f ih =>
              intro j v hj hv hF
              have zJ := hJ v hv
              obtain ⟨i9, ai, zI, zA⟩ := zJ.1.2.2.2
              refine V_iload_n C dX7_run_51 rfl 0 rfl ?_
              refine V_iload_n C dX7_run_52 rfl 2 rfl ?_
              refine V_icmp_ge (tgt := 74) C dX7_run_53 (by decide) (fun zh53 => ?_) (fun zh53 => ?_)
              · exact absurd (Int32.not_lt.mpr zh53) (fun q => q (by rw [zB]; exact nI_lt (by omega) (by omega)))
              · refine V_aload_n C dX7_run_56 rfl 1 rfl ?_
                refine V_gcalliV C go hg dX7_run_57 0 (cw_a rfl) rfl (c_X7_step_true l D K G tb ga9 h v zJ.1.1 zJ.1.2.1 i9 ai (Now v) zI zA zJ.1.2.2.1) gX7_run_X7_step rfl 0 rfl (by decide +kernel) (by decide) ⟨Nat.le_of_ble_eq_true rfl, Nat.le_of_ble_eq_true rfl⟩ rfl (Nat.le_of_ble_eq_true rfl) (det2 ?_)
                refine V_istore_n (lv' := [(3, .int (dStep v (Now v)).1), (2, .int (nI j)), (0, .ref (h 0)), (1, .int xb)]) C dX7_run_60 rfl (by decide) rfl ?_
                refine V_iload_n C dX7_run_61 rfl 0 rfl ?_
                refine V_iconst (v := (-1)) C dX7_run_62 (by decide) ?_
                refine V_icmp_eq (tgt := 68) C dX7_run_63 (by decide) (fun zh63 => ?_) (fun zh63 => ?_)
                · refine V_iinc (lv' := [(2, .int (nI (j + 1))), (3, .int (dStep v (Now v)).1), (0, .ref (h 0)), (1, .int xb)]) C dX7_run_68 (j := 1) rfl (nI_1 _) (by decide) rfl ?_
                  refine V_goto (tgt := 51) C dX7_run_71 (by decide) ?_
                  rw [dRunL, if_pos zh63] at hF
                  exact V_sub [0, 2, 3] rfl (ih (j + 1) _ (by omega) (zJ.2 zh63) hF)
                · refine V_iload_n C dX7_run_66 rfl 0 rfl ?_
                  exact V_widen (Nat.zero_le _) (Nat.zero_le _) (E (dStep v (Now v)).1 (dStep v (Now v)).2 _ _ dX7_run_67 rfl ⟨⟨decide_eq_false (fun q => by rcases q with q | q <;> have a1 := Int32.lt_iff_toInt_lt.mp q <;> (have q_0 := Int32.le_iff_toInt_le.mp (Int32.not_lt.mp zh2); have q_1 := Int32.le_iff_toInt_le.mp zh9; have l_0 : (1 : Int32).toInt = 1 := (by decide); have l_1 : (500 : Int32).toInt = 500 := (by decide); omega)), zh29, zh36⟩, by rw [dRunL, if_neg zh63] at hF; exact congrArg Prod.fst hF, by rw [dRunL, if_neg zh63] at hF; exact congrArg Prod.snd hF⟩)
          exact V_sub [0, 1, 2] rfl (zl (tn xb) 0 u (by omega) zJ0 rfl)
        · exact Th u _ _ _ 62 106 66 "java/lang/IllegalStateException" "there is nothing to run" dX7_run_39 dX7_run_42 dX7_run_43 dX7_run_45 dX7_run_48 (by decide) (by decide) (List.mem_of_getElem? (i := 3) rfl) (List.mem_of_getElem? (i := 4) rfl) (fun _ h => List.mem_cons_of_mem _ (List.mem_append_right _ h)) rfl (Or.inr ⟨rfl, decide_eq_false (fun q => by rcases q with q | q <;> have a1 := Int32.lt_iff_toInt_lt.mp q <;> (have q_0 := Int32.le_iff_toInt_le.mp (Int32.not_lt.mp zh2); have q_1 := Int32.le_iff_toInt_le.mp zh9; have l_0 : (1 : Int32).toInt = 1 := (by decide); have l_1 : (500 : Int32).toInt = 500 := (by decide); omega)), Or.inr zh36, rfl⟩)
    · exact Th u _ _ _ 49 100 53 "java/lang/IllegalArgumentException" "no such budget" dX7_run_12 dX7_run_15 dX7_run_16 dX7_run_18 dX7_run_21 (by decide) (by decide) (List.mem_of_getElem? (i := 1) rfl) (List.mem_of_getElem? (i := 2) rfl) (fun _ h => List.mem_cons_of_mem _ (List.mem_append_left _ (List.mem_append_right _ h))) rfl (Or.inl ⟨rfl, decide_eq_true (Decidable.byContradiction (fun q => by have a1 := Int32.le_iff_toInt_le.mp (Int32.not_lt.mp (fun z => q (Or.inl z))); have a2 := Int32.le_iff_toInt_le.mp (Int32.not_lt.mp (fun z => q (Or.inr z))); have q_0 := Int32.le_iff_toInt_le.mp (Int32.not_lt.mp zh2); have q_1 := Int32.lt_iff_toInt_lt.mp (Int32.not_le.mp zh9); have l_0 : (1 : Int32).toInt = 1 := (by decide); have l_1 : (500 : Int32).toInt = 500 := (by decide); omega)), rfl⟩)

set_option maxHeartbeats 4000000 in
set_option maxRecDepth 100000 in
theorem c_X7_run_false (l : Launch) (hlf : l.stackTraces = false) (D : va_G) (K : Nat → ClassId) (G : gE) (tb : Nat → Nat) (ga9 : gAll G tb) (gx : gXc G) (h : Nat → Nat) (u : CS) (xb : Int32) (hC : cC u < 41) (hsw : cS u = false) (Now : CS → I6) (J : CS → Prop) (hJ : ∀ v, J v → dGood false 8 1 v (Now v) ∧ ((dStep v (Now v)).1 = -1 → J (dStep v (Now v)).2)) (hu : mOut xb 1 500 = false → ¬ cI u 8 = 0 → cE u = false → J u) : xMi l D vwCl (tys0 K) G yX7_run wsX7_run ({ frames := 6, cells := 1, slots := 6, locals := 140 } : Room) [.ref (h 0), .int xb] (cw K h u) (cw K h) (fun r9 u9 => (mOut xb 1 500 = false ∧ ¬ cI u 8 = 0 ∧ cE u = false) ∧ r9 = (dRunL Now (tn xb) u).1 ∧ u9 = (dRunL Now (tn xb) u).2) (fun E9 u9 => (E9 = "java/lang/IllegalArgumentException" ∧ mOut xb 1 500 = true ∧ u9 = u) ∨ (E9 = "java/lang/IllegalStateException" ∧ mOut xb 1 500 = false ∧ (cI u 8 = 0 ∨ cE u = true) ∧ u9 = u)) := by
  refine xMi_of (cc := cX7_run) (nL := 4) (rt := .int) (by decide) rfl rfl (Nat.le_of_ble_eq_true rfl) gx hlf (by decide) ?_
  intro X C hg E Th
  show V X 0 0 (cw K h u) 0 [(0, .ref (h 0)), (1, .int xb)] []
  have go := ga9.1
  have gn := ga9.2.1
  have gt := ga9.2.2
  have hi7 : ∀ w ∈ wsX70, w ∈ wsX7_run := fun _ h => List.mem_cons_of_mem _ (List.mem_append_left _ (List.mem_append_left _ (List.mem_append_left _ (List.mem_append_left _ (List.mem_append_left _ (List.mem_append_left _ (List.mem_append_left _ (List.mem_append_left _ (List.mem_append_right _ h)))))))))
  have hi4 : ∀ w ∈ wsX40, w ∈ wsX7_run := fun _ h => List.mem_cons_of_mem _ (List.mem_append_left _ (List.mem_append_left _ (List.mem_append_left _ (List.mem_append_left _ (List.mem_append_left _ (List.mem_append_left _ (List.mem_append_left _ (List.mem_append_right _ h))))))))
  refine V_iload_n C dX7_run_0 rfl 1 rfl ?_
  refine V_iconst (v := 1) C dX7_run_1 (by decide) ?_
  refine V_icmp_lt (tgt := 12) C dX7_run_2 (by decide) (fun zh2 => ?_) (fun zh2 => ?_)
  · exact Th u _ _ _ 49 100 53 "java/lang/IllegalArgumentException" "no such budget" dX7_run_12 dX7_run_15 dX7_run_16 dX7_run_18 dX7_run_21 (by decide) (by decide) (List.mem_of_getElem? (i := 1) rfl) (List.mem_of_getElem? (i := 2) rfl) (fun _ h => List.mem_cons_of_mem _ (List.mem_append_left _ (List.mem_append_right _ h))) rfl (Or.inl ⟨rfl, decide_eq_true (Decidable.byContradiction (fun q => by have a1 := Int32.le_iff_toInt_le.mp (Int32.not_lt.mp (fun z => q (Or.inl z))); have a2 := Int32.le_iff_toInt_le.mp (Int32.not_lt.mp (fun z => q (Or.inr z))); have q_0 := Int32.lt_iff_toInt_lt.mp zh2; have l_0 : (1 : Int32).toInt = 1 := (by decide); have l_1 : (500 : Int32).toInt = 500 := (by decide); omega)), rfl⟩)
  · refine V_iload_n C dX7_run_5 rfl 1 rfl ?_
    refine V_sipush (v := 500) C dX7_run_6 (by decide) ?_
    refine V_icmp_le (tgt := 22) C dX7_run_9 (by decide) (fun zh9 => ?_) (fun zh9 => ?_)
    · refine V_aload_n C dX7_run_22 rfl 0 rfl ?_
      refine V_get (v := .ref (h 20)) C dX7_run_23 hi7 0 (cw_a rfl) rfl 5 (by decide) (List.mem_of_getElem? (i := 5) rfl) rfl (by show some (Value.ref _) = _; rw [show cS u = false from hsw]; rfl) ?_
      refine V_calliV C dX7_run_26 20 (cw_a rfl) rfl (c_X4_size l D K (cw K h u) 20 (h 20) (h 21) (cI u 8) (cw_a rfl)) gX7_run_X4_size rfl 0 rfl (by decide +kernel) (by decide) ⟨Nat.le_of_ble_eq_true rfl, Nat.le_of_ble_eq_true rfl⟩ rfl (Nat.le_of_ble_eq_true rfl) (det0 ?_)
      refine V_if_eq (tgt := 39) C dX7_run_29 (by decide) (fun zh29 => ?_) (fun zh29 => ?_)
      · exact Th u _ _ _ 62 106 66 "java/lang/IllegalStateException" "there is nothing to run" dX7_run_39 dX7_run_42 dX7_run_43 dX7_run_45 dX7_run_48 (by decide) (by decide) (List.mem_of_getElem? (i := 3) rfl) (List.mem_of_getElem? (i := 4) rfl) (fun _ h => List.mem_cons_of_mem _ (List.mem_append_right _ h)) rfl (Or.inr ⟨rfl, decide_eq_false (fun q => by rcases q with q | q <;> have a1 := Int32.lt_iff_toInt_lt.mp q <;> (have q_0 := Int32.le_iff_toInt_le.mp (Int32.not_lt.mp zh2); have q_1 := Int32.le_iff_toInt_le.mp zh9; have l_0 : (1 : Int32).toInt = 1 := (by decide); have l_1 : (500 : Int32).toInt = 500 := (by decide); omega)), Or.inl zh29, rfl⟩)
      · refine V_aload_n C dX7_run_32 rfl 0 rfl ?_
        refine V_get (v := .int (b2i (cE u))) C dX7_run_33 hi7 0 (cw_a rfl) rfl 7 (by decide) (List.mem_of_getElem? (i := 6) rfl) rfl rfl ?_
        refine V_ifz_eq (tgt := 49) C dX7_run_36 (by decide) (fun zh36 => ?_) (fun zh36 => ?_)
        · refine V_iconst (v := 0) C dX7_run_49 (by decide) ?_
          refine V_istore_n (lv' := [(2, .int 0), (0, .ref (h 0)), (1, .int xb)]) C dX7_run_50 rfl (by decide) rfl ?_
          have zb1 := mOut_f (show mOut xb 1 500 = false from decide_eq_false (fun q => by rcases q with q | q <;> have a1 := Int32.lt_iff_toInt_lt.mp q <;> (have q_0 := Int32.le_iff_toInt_le.mp (Int32.not_lt.mp zh2); have q_1 := Int32.le_iff_toInt_le.mp zh9; have l_0 : (1 : Int32).toInt = 1 := (by decide); have l_1 : (500 : Int32).toInt = 500 := (by decide); omega)))
          have z1 : (1 : Int32).toInt = 1 := by decide
          have z5 : (500 : Int32).toInt = 500 := by decide
          have zB : xb = nI (tn xb) := nI_tn (by omega)
          have zB2 : tn xb ≤ 500 := by have := tn_toInt (x := xb) (by omega); omega
          have zJ0 : J u := hu (decide_eq_false (fun q => by rcases q with q | q <;> have a1 := Int32.lt_iff_toInt_lt.mp q <;> (have q_0 := Int32.le_iff_toInt_le.mp (Int32.not_lt.mp zh2); have q_1 := Int32.le_iff_toInt_le.mp zh9; have l_0 : (1 : Int32).toInt = 1 := (by decide); have l_1 : (500 : Int32).toInt = 500 := (by decide); omega))) zh29 zh36
          have zl : ∀ (f j : Nat) (v : CS), j + f = tn xb → J v → dRunL Now f v = dRunL Now (tn xb) u → V X 0 0 (cw K h v) 51 [(2, .int (nI j)), (0, .ref (h 0)), (1, .int xb)] [] := by
            intro f
            induction f with
            | zero =>
              intro j v hj hv hF
              have zJ := hJ v hv
              obtain ⟨i9, ai, zI, zA⟩ := zJ.1.2.2.2
              refine V_iload_n C dX7_run_51 rfl 0 rfl ?_
              refine V_iload_n C dX7_run_52 rfl 2 rfl ?_
              refine V_icmp_ge (tgt := 74) C dX7_run_53 (by decide) (fun zh53 => ?_) (fun zh53 => ?_)
              · refine V_iconst (v := 5) C dX7_run_74 (by decide) ?_
                exact V_widen (Nat.zero_le _) (Nat.zero_le _) (E 5 v _ _ dX7_run_75 rfl ⟨⟨decide_eq_false (fun q => by rcases q with q | q <;> have a1 := Int32.lt_iff_toInt_lt.mp q <;> (have q_0 := Int32.le_iff_toInt_le.mp (Int32.not_lt.mp zh2); have q_1 := Int32.le_iff_toInt_le.mp zh9; have l_0 : (1 : Int32).toInt = 1 := (by decide); have l_1 : (500 : Int32).toInt = 500 := (by decide); omega)), zh29, zh36⟩, congrArg Prod.fst hF, congrArg Prod.snd hF⟩)
              · exact absurd (by rw [zB, show j = tn xb by omega]; exact Int32.le_refl _) zh53
            | succ f ih =>
              intro j v hj hv hF
              have zJ := hJ v hv
              obtain ⟨i9, ai, zI, zA⟩ := zJ.1.2.2.2
              refine V_iload_n C dX7_run_51 rfl 0 rfl ?_
              refine V_iload_n C dX7_run_52 rfl 2 rfl ?_
              refine V_icmp_ge (tgt := 74) C dX7_run_53 (by decide) (fun zh53 => ?_) (fun zh53 => ?_)
              · exact absurd (Int32.not_lt.mpr zh53) (fun q => q (by rw [zB]; exact nI_lt (by omega) (by omega)))
              · refine V_aload_n C dX7_run_56 rfl 1 rfl ?_
                refine V_gcalliV C go hg dX7_run_57 0 (cw_a rfl) rfl (c_X7_step_false l D K G tb ga9 h v zJ.1.1 zJ.1.2.1 i9 ai (Now v) zI zA zJ.1.2.2.1) gX7_run_X7_step rfl 0 rfl (by decide +kernel) (by decide) ⟨Nat.le_of_ble_eq_true rfl, Nat.le_of_ble_eq_true rfl⟩ rfl (Nat.le_of_ble_eq_true rfl) (det2 ?_)
                refine V_istore_n (lv' := [(3, .int (dStep v (Now v)).1), (2, .int (nI j)), (0, .ref (h 0)), (1, .int xb)]) C dX7_run_60 rfl (by decide) rfl ?_
                refine V_iload_n C dX7_run_61 rfl 0 rfl ?_
                refine V_iconst (v := (-1)) C dX7_run_62 (by decide) ?_
                refine V_icmp_eq (tgt := 68) C dX7_run_63 (by decide) (fun zh63 => ?_) (fun zh63 => ?_)
                · refine V_iinc (lv' := [(2, .int (nI (j + 1))), (3, .int (dStep v (Now v)).1), (0, .ref (h 0)), (1, .int xb)]) C dX7_run_68 (j := 1) rfl (nI_1 _) (by decide) rfl ?_
                  refine V_goto (tgt := 51) C dX7_run_71 (by decide) ?_
                  rw [dRunL, if_pos zh63] at hF
                  exact V_sub [0, 2, 3] rfl (ih (j + 1) _ (by omega) (zJ.2 zh63) hF)
                · refine V_iload_n C dX7_run_66 rfl 0 rfl ?_
                  exact V_widen (Nat.zero_le _) (Nat.zero_le _) (E (dStep v (Now v)).1 (dStep v (Now v)).2 _ _ dX7_run_67 rfl ⟨⟨decide_eq_false (fun q => by rcases q with q | q <;> have a1 := Int32.lt_iff_toInt_lt.mp q <;> (have q_0 := Int32.le_iff_toInt_le.mp (Int32.not_lt.mp zh2); have q_1 := Int32.le_iff_toInt_le.mp zh9; have l_0 : (1 : Int32).toInt = 1 := (by decide); have l_1 : (500 : Int32).toInt = 500 := (by decide); omega)), zh29, zh36⟩, by rw [dRunL, if_neg zh63] at hF; exact congrArg Prod.fst hF, by rw [dRunL, if_neg zh63] at hF; exact congrArg Prod.snd hF⟩)
          exact V_sub [0, 1, 2] rfl (zl (tn xb) 0 u (by omega) zJ0 rfl)
        · exact Th u _ _ _ 62 106 66 "java/lang/IllegalStateException" "there is nothing to run" dX7_run_39 dX7_run_42 dX7_run_43 dX7_run_45 dX7_run_48 (by decide) (by decide) (List.mem_of_getElem? (i := 3) rfl) (List.mem_of_getElem? (i := 4) rfl) (fun _ h => List.mem_cons_of_mem _ (List.mem_append_right _ h)) rfl (Or.inr ⟨rfl, decide_eq_false (fun q => by rcases q with q | q <;> have a1 := Int32.lt_iff_toInt_lt.mp q <;> (have q_0 := Int32.le_iff_toInt_le.mp (Int32.not_lt.mp zh2); have q_1 := Int32.le_iff_toInt_le.mp zh9; have l_0 : (1 : Int32).toInt = 1 := (by decide); have l_1 : (500 : Int32).toInt = 500 := (by decide); omega)), Or.inr zh36, rfl⟩)
    · exact Th u _ _ _ 49 100 53 "java/lang/IllegalArgumentException" "no such budget" dX7_run_12 dX7_run_15 dX7_run_16 dX7_run_18 dX7_run_21 (by decide) (by decide) (List.mem_of_getElem? (i := 1) rfl) (List.mem_of_getElem? (i := 2) rfl) (fun _ h => List.mem_cons_of_mem _ (List.mem_append_left _ (List.mem_append_right _ h))) rfl (Or.inl ⟨rfl, decide_eq_true (Decidable.byContradiction (fun q => by have a1 := Int32.le_iff_toInt_le.mp (Int32.not_lt.mp (fun z => q (Or.inl z))); have a2 := Int32.le_iff_toInt_le.mp (Int32.not_lt.mp (fun z => q (Or.inr z))); have q_0 := Int32.le_iff_toInt_le.mp (Int32.not_lt.mp zh2); have q_1 := Int32.lt_iff_toInt_lt.mp (Int32.not_le.mp zh9); have l_0 : (1 : Int32).toInt = 1 := (by decide); have l_1 : (500 : Int32).toInt = 500 := (by decide); omega)), rfl⟩)

