set_option maxHeartbeats 4000000 in
set_option maxRecDepth 100000 in
theorem c_X7_take_true (l : Launch) (hlf : l.stackTraces = false) (D : va_G) (K : Nat → ClassId) (G : gE) (tb : Nat → Nat) (ga9 : gAll G tb) (gx : gXc G) (h : Nat → Nat) (u : CS)  (hC : cC u < 41) (hsw : cS u = true) (n : Nat) (hn : cI u 8 = nI n) (hn40 : n ≤ 40) (ad pI : Nat → Nat) (II : Nat → I6) (hf : ∀ i, i < n → cQ u 1 i = some (ad i)) (hI : ∀ i, i < n → (cP u)[pI i]? = some (ad i, II i)) : xMi l D vwCl (tys0 K) G yX7_take wsX7_take ({ frames := 6, cells := 1, slots := 6, locals := 132 } : Room) [.ref (h 0)] (cw K h u) (cw K h) (fun r9 u9 => (iO (nInsp n II) = 0) ∧ r9 = iA (nInsp n II) ∧ u9 = (dNew (tI (tS (tN u (nInsp n II)) false) 7 0))) (fun E9 u9 => E9 = "java/lang/IllegalArgumentException" ∧ ¬ iO (nInsp n II) = 0 ∧ u9 = tI (tN u (nInsp n II)) 8 0) := by
  refine xMi_of (cc := cX7_take) (nL := 2) (rt := .int) (by decide) rfl rfl (Nat.le_of_ble_eq_true rfl) gx hlf (by decide) ?_
  intro X C hg E Th
  show V X 0 0 (cw K h u) 0 [(0, .ref (h 0))] []
  have go := ga9.1
  have gn := ga9.2.1
  have gt := ga9.2.2
  have hi7 : ∀ w ∈ wsX70, w ∈ wsX7_take := fun _ h => List.mem_cons_of_mem _ (List.mem_append_left _ (List.mem_append_left _ (List.mem_append_left _ (List.mem_append_left _ (List.mem_append_left _ (List.mem_append_left _ (List.mem_append_left _ (List.mem_append_left _ (List.mem_append_right _ h)))))))))
  have hi2 : ∀ w ∈ wsX20, w ∈ wsX7_take := fun _ h => List.mem_cons_of_mem _ (List.mem_append_left _ (List.mem_append_left _ (List.mem_append_left _ (List.mem_append_left _ (List.mem_append_left _ (List.mem_append_left _ (List.mem_append_left _ (List.mem_append_right _ h))))))))
  have hi4 : ∀ w ∈ wsX40, w ∈ wsX7_take := fun _ h => List.mem_cons_of_mem _ (List.mem_append_left _ (List.mem_append_left _ (List.mem_append_left _ (List.mem_append_left _ (List.mem_append_left _ (List.mem_append_left _ (List.mem_append_right _ h)))))))
  refine V_aload_n C dX7_take_0 rfl 0 rfl ?_
  refine V_get (v := .ref (h 1)) C dX7_take_1 hi7 0 (cw_a rfl) rfl 0 (by decide) (List.mem_of_getElem? (i := 3) rfl) rfl rfl ?_
  refine V_aload_n C dX7_take_4 rfl 0 rfl ?_
  refine V_get (v := .ref (h 20)) C dX7_take_5 hi7 0 (cw_a rfl) rfl 4 (by decide) (List.mem_of_getElem? (i := 4) rfl) rfl (by show some (Value.ref _) = _; rw [show cS u = true from hsw]; rfl) ?_
  refine V_gcallvV C go hg dX7_take_8 1 (cw_a rfl) rfl (c_X2_inspect l D K G tb ga9 (cw K h u) 1 (h 1) (cN u) (cw_a rfl) 20 21 (h 20) (h 21) n (cQ u 1) (by rw [← hn]; exact cw_a rfl) (cw_a rfl) hn40 ad (fun i => 63 + pI i) II hf (fun i hi => cw_p (hI i hi))) gX7_take_X2_inspect rfl 1 rfl (by decide +kernel) (by decide) ⟨Nat.le_of_ble_eq_true rfl, Nat.le_of_ble_eq_true rfl⟩ rfl (Nat.le_of_ble_eq_true rfl) (detv ?_)
  refine V_ws (ws' := (cw K h (tN u (nInsp n II)))) (cw_sa (by decide) rfl rfl rfl) ?_
  refine V_aload_n C dX7_take_11 rfl 0 rfl ?_
  refine V_get (v := .ref (h 1)) C dX7_take_12 hi7 0 (cw_a rfl) rfl 0 (by decide) (List.mem_of_getElem? (i := 3) rfl) rfl rfl ?_
  refine V_getN (v := .int (iO (nInsp n II))) C gn hg dX7_take_15 hi2 1 (cw_a rfl) rfl 0 (by decide) (List.mem_of_getElem? (i := 1) rfl) rfl rfl ?_
  refine V_if_eq (tgt := 38) C dX7_take_18 (by decide) (fun zh18 => ?_) (fun zh18 => ?_)
  · refine V_aload_n C dX7_take_38 rfl 0 rfl ?_
    refine V_get (v := .ref (h 18)) C dX7_take_39 hi7 0 (cw_a rfl) rfl 5 (by decide) (List.mem_of_getElem? (i := 5) rfl) rfl (by show some (Value.ref _) = _; rw [show cS (tN u (nInsp n II)) = true from hsw]; rfl) ?_
    refine V_astore_n (lv' := [(1, .ref (h 18)), (0, .ref (h 0))]) C dX7_take_42 rfl (by decide) rfl ?_
    refine V_aload_n C dX7_take_43 rfl 1 rfl ?_
    refine V_aload_n C dX7_take_44 rfl 1 rfl ?_
    refine V_get (v := .ref (h 20)) C dX7_take_45 hi7 0 (cw_a rfl) rfl 4 (by decide) (List.mem_of_getElem? (i := 4) rfl) rfl (by show some (Value.ref _) = _; rw [show cS (tN u (nInsp n II)) = true from hsw]; rfl) ?_
    refine V_put (ws' := _) C dX7_take_48 hi7 tyX7_ok nmX7 0 (cw_a rfl) rfl 5 (by decide) (List.mem_of_getElem? (i := 5) rfl) rfl rfl rfl rfl rfl (Nat.le_of_ble_eq_true rfl) rfl ?_
    refine V_aload_n C dX7_take_51 rfl 1 rfl ?_
    refine V_aload_n C dX7_take_52 rfl 0 rfl ?_
    refine V_put (ws' := cw K h (tS (tN u (nInsp n II)) false)) C dX7_take_53 hi7 tyX7_ok nmX7 0 (ws_at (cw_a rfl)) rfl 4 (by decide) (List.mem_of_getElem? (i := 4) rfl) rfl rfl rfl rfl rfl (Nat.le_of_ble_eq_true rfl) (by rw [List.set_set]; exact cw_sa (by decide) rfl rfl rfl) ?_
    refine V_aload_n C dX7_take_56 rfl 1 rfl ?_
    refine V_get (v := .ref (h 18)) C dX7_take_57 hi7 0 (cw_a rfl) rfl 4 (by decide) (List.mem_of_getElem? (i := 4) rfl) rfl (by show some (Value.ref _) = _; rw [show cS (tS (tN u (nInsp n II)) false) = false from rfl]; rfl) ?_
    refine V_callvV C dX7_take_60 18 (cw_a rfl) rfl (c_X4_clear l D K (cw K h (tS (tN u (nInsp n II)) false)) 18 (h 18) (h 19) (cI (tS (tN u (nInsp n II)) false) 7) (cw_a rfl)) gX7_take_X4_clear rfl 0 rfl (by decide +kernel) (by decide) ⟨Nat.le_of_ble_eq_true rfl, Nat.le_of_ble_eq_true rfl⟩ rfl (Nat.le_of_ble_eq_true rfl) (detv ?_)
    refine V_ws (ws' := (cw K h (tI (tS (tN u (nInsp n II)) false) 7 0))) (cw_sa (by decide) rfl rfl rfl) ?_
    refine V_aload_n C dX7_take_63 rfl 1 rfl ?_
    refine V_gcallvV C go hg dX7_take_64 0 (cw_a rfl) rfl (c_X7_beginAnew l D K G tb ga9 h (tI (tS (tN u (nInsp n II)) false) 7 0)  hC) gX7_take_X7_beginAnew rfl 0 rfl (by decide +kernel) (by decide) ⟨Nat.le_of_ble_eq_true rfl, Nat.le_of_ble_eq_true rfl⟩ rfl (Nat.le_of_ble_eq_true rfl) (det1 ?_)
    refine V_aload_n C dX7_take_67 rfl 1 rfl ?_
    refine V_get (v := .ref (h 1)) C dX7_take_68 hi7 0 (cw_a rfl) rfl 0 (by decide) (List.mem_of_getElem? (i := 3) rfl) rfl rfl ?_
    refine V_getN (v := .int (iA (cN (dNew (tI (tS (tN u (nInsp n II)) false) 7 0))))) C gn hg dX7_take_71 hi2 1 (cw_a rfl) rfl 2 (by decide) (List.mem_of_getElem? (i := 3) rfl) rfl rfl ?_
    exact V_widen (Nat.zero_le _) (Nat.zero_le _) (E (iA (cN (dNew (tI (tS (tN u (nInsp n II)) false) 7 0)))) (dNew (tI (tS (tN u (nInsp n II)) false) 7 0)) _ _ dX7_take_74 rfl ⟨zh18, rfl, rfl⟩)
  · refine V_aload_n C dX7_take_21 rfl 0 rfl ?_
    refine V_get (v := .ref (h 20)) C dX7_take_22 hi7 0 (cw_a rfl) rfl 4 (by decide) (List.mem_of_getElem? (i := 4) rfl) rfl (by show some (Value.ref _) = _; rw [show cS (tN u (nInsp n II)) = true from hsw]; rfl) ?_
    refine V_callvV C dX7_take_25 20 (cw_a rfl) rfl (c_X4_clear l D K (cw K h (tN u (nInsp n II))) 20 (h 20) (h 21) (cI u 8) (cw_a rfl)) gX7_take_X4_clear rfl 0 rfl (by decide +kernel) (by decide) ⟨Nat.le_of_ble_eq_true rfl, Nat.le_of_ble_eq_true rfl⟩ rfl (Nat.le_of_ble_eq_true rfl) (detv ?_)
    refine V_ws (ws' := (cw K h (tI (tN u (nInsp n II)) 8 0))) (cw_sa (by decide) rfl rfl rfl) ?_
    exact Th (tI (tN u (nInsp n II)) 8 0) _ _ _ 49 87 53 "java/lang/IllegalArgumentException" "the draft has a fault or is empty" dX7_take_28 dX7_take_31 dX7_take_32 dX7_take_34 dX7_take_37 (by decide) (by decide) (List.mem_of_getElem? (i := 1) rfl) (List.mem_of_getElem? (i := 2) rfl) (fun _ h => List.mem_cons_of_mem _ (List.mem_append_right _ h)) rfl (⟨rfl, zh18, rfl⟩)

set_option maxHeartbeats 4000000 in
set_option maxRecDepth 100000 in
theorem c_X7_take_false (l : Launch) (hlf : l.stackTraces = false) (D : va_G) (K : Nat → ClassId) (G : gE) (tb : Nat → Nat) (ga9 : gAll G tb) (gx : gXc G) (h : Nat → Nat) (u : CS)  (hC : cC u < 41) (hsw : cS u = false) (n : Nat) (hn : cI u 7 = nI n) (hn40 : n ≤ 40) (ad pI : Nat → Nat) (II : Nat → I6) (hf : ∀ i, i < n → cQ u 0 i = some (ad i)) (hI : ∀ i, i < n → (cP u)[pI i]? = some (ad i, II i)) : xMi l D vwCl (tys0 K) G yX7_take wsX7_take ({ frames := 6, cells := 1, slots := 6, locals := 132 } : Room) [.ref (h 0)] (cw K h u) (cw K h) (fun r9 u9 => (iO (nInsp n II) = 0) ∧ r9 = iA (nInsp n II) ∧ u9 = (dNew (tI (tS (tN u (nInsp n II)) true) 8 0))) (fun E9 u9 => E9 = "java/lang/IllegalArgumentException" ∧ ¬ iO (nInsp n II) = 0 ∧ u9 = tI (tN u (nInsp n II)) 7 0) := by
  refine xMi_of (cc := cX7_take) (nL := 2) (rt := .int) (by decide) rfl rfl (Nat.le_of_ble_eq_true rfl) gx hlf (by decide) ?_
  intro X C hg E Th
  show V X 0 0 (cw K h u) 0 [(0, .ref (h 0))] []
  have go := ga9.1
  have gn := ga9.2.1
  have gt := ga9.2.2
  have hi7 : ∀ w ∈ wsX70, w ∈ wsX7_take := fun _ h => List.mem_cons_of_mem _ (List.mem_append_left _ (List.mem_append_left _ (List.mem_append_left _ (List.mem_append_left _ (List.mem_append_left _ (List.mem_append_left _ (List.mem_append_left _ (List.mem_append_left _ (List.mem_append_right _ h)))))))))
  have hi2 : ∀ w ∈ wsX20, w ∈ wsX7_take := fun _ h => List.mem_cons_of_mem _ (List.mem_append_left _ (List.mem_append_left _ (List.mem_append_left _ (List.mem_append_left _ (List.mem_append_left _ (List.mem_append_left _ (List.mem_append_left _ (List.mem_append_right _ h))))))))
  have hi4 : ∀ w ∈ wsX40, w ∈ wsX7_take := fun _ h => List.mem_cons_of_mem _ (List.mem_append_left _ (List.mem_append_left _ (List.mem_append_left _ (List.mem_append_left _ (List.mem_append_left _ (List.mem_append_left _ (List.mem_append_right _ h)))))))
  refine V_aload_n C dX7_take_0 rfl 0 rfl ?_
  refine V_get (v := .ref (h 1)) C dX7_take_1 hi7 0 (cw_a rfl) rfl 0 (by decide) (List.mem_of_getElem? (i := 3) rfl) rfl rfl ?_
  refine V_aload_n C dX7_take_4 rfl 0 rfl ?_
  refine V_get (v := .ref (h 18)) C dX7_take_5 hi7 0 (cw_a rfl) rfl 4 (by decide) (List.mem_of_getElem? (i := 4) rfl) rfl (by show some (Value.ref _) = _; rw [show cS u = false from hsw]; rfl) ?_
  refine V_gcallvV C go hg dX7_take_8 1 (cw_a rfl) rfl (c_X2_inspect l D K G tb ga9 (cw K h u) 1 (h 1) (cN u) (cw_a rfl) 18 19 (h 18) (h 19) n (cQ u 0) (by rw [← hn]; exact cw_a rfl) (cw_a rfl) hn40 ad (fun i => 63 + pI i) II hf (fun i hi => cw_p (hI i hi))) gX7_take_X2_inspect rfl 1 rfl (by decide +kernel) (by decide) ⟨Nat.le_of_ble_eq_true rfl, Nat.le_of_ble_eq_true rfl⟩ rfl (Nat.le_of_ble_eq_true rfl) (detv ?_)
  refine V_ws (ws' := (cw K h (tN u (nInsp n II)))) (cw_sa (by decide) rfl rfl rfl) ?_
  refine V_aload_n C dX7_take_11 rfl 0 rfl ?_
  refine V_get (v := .ref (h 1)) C dX7_take_12 hi7 0 (cw_a rfl) rfl 0 (by decide) (List.mem_of_getElem? (i := 3) rfl) rfl rfl ?_
  refine V_getN (v := .int (iO (nInsp n II))) C gn hg dX7_take_15 hi2 1 (cw_a rfl) rfl 0 (by decide) (List.mem_of_getElem? (i := 1) rfl) rfl rfl ?_
  refine V_if_eq (tgt := 38) C dX7_take_18 (by decide) (fun zh18 => ?_) (fun zh18 => ?_)
  · refine V_aload_n C dX7_take_38 rfl 0 rfl ?_
    refine V_get (v := .ref (h 20)) C dX7_take_39 hi7 0 (cw_a rfl) rfl 5 (by decide) (List.mem_of_getElem? (i := 5) rfl) rfl (by show some (Value.ref _) = _; rw [show cS (tN u (nInsp n II)) = false from hsw]; rfl) ?_
    refine V_astore_n (lv' := [(1, .ref (h 20)), (0, .ref (h 0))]) C dX7_take_42 rfl (by decide) rfl ?_
    refine V_aload_n C dX7_take_43 rfl 1 rfl ?_
    refine V_aload_n C dX7_take_44 rfl 1 rfl ?_
    refine V_get (v := .ref (h 18)) C dX7_take_45 hi7 0 (cw_a rfl) rfl 4 (by decide) (List.mem_of_getElem? (i := 4) rfl) rfl (by show some (Value.ref _) = _; rw [show cS (tN u (nInsp n II)) = false from hsw]; rfl) ?_
    refine V_put (ws' := _) C dX7_take_48 hi7 tyX7_ok nmX7 0 (cw_a rfl) rfl 5 (by decide) (List.mem_of_getElem? (i := 5) rfl) rfl rfl rfl rfl rfl (Nat.le_of_ble_eq_true rfl) rfl ?_
    refine V_aload_n C dX7_take_51 rfl 1 rfl ?_
    refine V_aload_n C dX7_take_52 rfl 0 rfl ?_
    refine V_put (ws' := cw K h (tS (tN u (nInsp n II)) true)) C dX7_take_53 hi7 tyX7_ok nmX7 0 (ws_at (cw_a rfl)) rfl 4 (by decide) (List.mem_of_getElem? (i := 4) rfl) rfl rfl rfl rfl rfl (Nat.le_of_ble_eq_true rfl) (by rw [List.set_set]; exact cw_sa (by decide) rfl rfl rfl) ?_
    refine V_aload_n C dX7_take_56 rfl 1 rfl ?_
    refine V_get (v := .ref (h 20)) C dX7_take_57 hi7 0 (cw_a rfl) rfl 4 (by decide) (List.mem_of_getElem? (i := 4) rfl) rfl (by show some (Value.ref _) = _; rw [show cS (tS (tN u (nInsp n II)) true) = true from rfl]; rfl) ?_
    refine V_callvV C dX7_take_60 20 (cw_a rfl) rfl (c_X4_clear l D K (cw K h (tS (tN u (nInsp n II)) true)) 20 (h 20) (h 21) (cI (tS (tN u (nInsp n II)) true) 8) (cw_a rfl)) gX7_take_X4_clear rfl 0 rfl (by decide +kernel) (by decide) ⟨Nat.le_of_ble_eq_true rfl, Nat.le_of_ble_eq_true rfl⟩ rfl (Nat.le_of_ble_eq_true rfl) (detv ?_)
    refine V_ws (ws' := (cw K h (tI (tS (tN u (nInsp n II)) true) 8 0))) (cw_sa (by decide) rfl rfl rfl) ?_
    refine V_aload_n C dX7_take_63 rfl 1 rfl ?_
    refine V_gcallvV C go hg dX7_take_64 0 (cw_a rfl) rfl (c_X7_beginAnew l D K G tb ga9 h (tI (tS (tN u (nInsp n II)) true) 8 0)  hC) gX7_take_X7_beginAnew rfl 0 rfl (by decide +kernel) (by decide) ⟨Nat.le_of_ble_eq_true rfl, Nat.le_of_ble_eq_true rfl⟩ rfl (Nat.le_of_ble_eq_true rfl) (det1 ?_)
    refine V_aload_n C dX7_take_67 rfl 1 rfl ?_
    refine V_get (v := .ref (h 1)) C dX7_take_68 hi7 0 (cw_a rfl) rfl 0 (by decide) (List.mem_of_getElem? (i := 3) rfl) rfl rfl ?_
    refine V_getN (v := .int (iA (cN (dNew (tI (tS (tN u (nInsp n II)) true) 8 0))))) C gn hg dX7_take_71 hi2 1 (cw_a rfl) rfl 2 (by decide) (List.mem_of_getElem? (i := 3) rfl) rfl rfl ?_
    exact V_widen (Nat.zero_le _) (Nat.zero_le _) (E (iA (cN (dNew (tI (tS (tN u (nInsp n II)) true) 8 0)))) (dNew (tI (tS (tN u (nInsp n II)) true) 8 0)) _ _ dX7_take_74 rfl ⟨zh18, rfl, rfl⟩)
  · refine V_aload_n C dX7_take_21 rfl 0 rfl ?_
    refine V_get (v := .ref (h 18)) C dX7_take_22 hi7 0 (cw_a rfl) rfl 4 (by decide) (List.mem_of_getElem? (i := 4) rfl) rfl (by show some (Value.ref _) = _; rw [show cS (tN u (nInsp n II)) = false from hsw]; rfl) ?_
    refine V_callvV C dX7_take_25 18 (cw_a rfl) rfl (c_X4_clear l D K (cw K h (tN u (nInsp n II))) 18 (h 18) (h 19) (cI u 7) (cw_a rfl)) gX7_take_X4_clear rfl 0 rfl (by decide +kernel) (by decide) ⟨Nat.le_of_ble_eq_true rfl, Nat.le_of_ble_eq_true rfl⟩ rfl (Nat.le_of_ble_eq_true rfl) (detv ?_)
    refine V_ws (ws' := (cw K h (tI (tN u (nInsp n II)) 7 0))) (cw_sa (by decide) rfl rfl rfl) ?_
    exact Th (tI (tN u (nInsp n II)) 7 0) _ _ _ 49 87 53 "java/lang/IllegalArgumentException" "the draft has a fault or is empty" dX7_take_28 dX7_take_31 dX7_take_32 dX7_take_34 dX7_take_37 (by decide) (by decide) (List.mem_of_getElem? (i := 1) rfl) (List.mem_of_getElem? (i := 2) rfl) (fun _ h => List.mem_cons_of_mem _ (List.mem_append_right _ h)) rfl (⟨rfl, zh18, rfl⟩)

