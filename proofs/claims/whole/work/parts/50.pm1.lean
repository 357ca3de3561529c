def dMis (u : CS) (k n : Int32) : Bool := decide (k = 1 ∨ k = 2) && !rHas u n
def dMiss (u : CS) (I : I6) : Bool := dMis u (kd 0 (iO I)) (iA I) || dMis u (kd 1 (iO I)) (iB I) || dMis u (kd 2 (iO I)) (iC I)
def dRes (o : Int32) (r s : Int64) : Int64 := if o = 2 then r + s else if o = 3 then r - s else if o = 4 then r * s else r &&& s
def dHol (u : CS) (I : I6) : Bool := if iO I = 6 then decide (rVal u (iB I) < rVal u (iC I)) else decide (rVal u (iB I) = rVal u (iC I))
def dKn (u : CS) (I : I6) : Bool := !rNat u (iB I) && !rNat u (iC I)
def dCmp (u : CS) (I : I6) : CS := tZ (tZ u (pWr (cZ u 4) (iA I) (cF u (cC u) 4) (dKn u I && dHol u I))) (pWr (pWr (cZ u 4) (iA I) (cF u (cC u) 4) (dKn u I && dHol u I)) (iA I + 1) (cF u (cC u) 4) (dKn u I && !dHol u I))
def dCalc (u : CS) (I : I6) : CS := rWr u (iA I) (dRes (iO I) (rVal u (iB I)) (rVal u (iC I))) (rNat u (iB I) || rNat u (iC I))
def dLoad (u : CS) (I : I6) : Int32 × CS := if rNat u (iB I) = true then (3, u) else if cHas 32 (rVal u (iB I)) = false then (2, u) else (-1, rWr u (iA I) (cVal 32 (cL u 0) (rVal u (iB I))) (decide (iO I = 12) && cNat 32 (cZ u 0) (rVal u (iB I))))
def dAdv (u : CS) (I : I6) : CS := if rNat u (iB I) = true ∨ cHas 32 (rVal u (iB I)) = false then rWr u (iA I) 0 true else rWr u (iA I) (cVal 32 (cL u 0) (rVal u (iB I))) false
def dSto (u : CS) (I : I6) : Int32 × CS := if rNat u (iA I) = true ∨ (iO I = 10 ∧ rNat u (iB I) = true) then (3, u) else if cHas 32 (rVal u (iA I)) = false then (2, u) else (-1, tL u 0 (cWv 32 (cL u 0) (rVal u (iA I)) (rVal u (iB I))) (cWn 32 (cZ u 0) (rVal u (iA I)) (rNat u (iB I))))
def dTu0 (u : CS) : CS := if 0 < cI u 5 then tI u 5 (cI u 5 - 1) else tI u 6 (cI u 6 - 1)
def dTurn (u : CS) (t : Int32) : CS := if ¬ 0 < cI u 5 ∧ ¬ 0 < cI u 6 then tI u 4 (cI u 4 + 1) else tI (tZ (rRot (dTu0 u)) (pWr (cZ u 4) 8 (cF (rRot (dTu0 u)) (cC u) 4) (decide (0 < cI u 5)))) 4 (if 0 < cI u 5 ∨ 1 < cI u 6 then t else cI u 4 + 1)
def dNew (u : CS) : CS := tI (tI (tE (tI (tZ (rCl u) (zGn (cZ u 4) 0 16)) 4 0) false) 5 0) 6 0
set_option maxHeartbeats 4000000 in
set_option maxRecDepth 100000 in
theorem c_X7_finish (l : Launch) (D : va_G) (K : Nat → ClassId) (G : gE) (tb : Nat → Nat) (ga9 : gAll G tb) (h : Nat → Nat) (u : CS)   : gMi l D vwCl (tys0 K) G yX7_finish wsX7_finish ({ frames := 0, cells := 0, slots := 0, locals := 0 } : Room) [.ref (h 0)] (cw K h u) (cw K h) (fun r9 u9 => r9 = 0 ∧ u9 = tE u true) := by
  refine gMi_of (cc := cX7_finish) (nL := 1) (rt := .int) (by decide) rfl (Nat.le_of_ble_eq_true rfl) ?_
  intro X C hg E
  show V X 0 0 (cw K h u) 0 [(0, .ref (h 0))] []
  have go := ga9.1
  have gn := ga9.2.1
  have gt := ga9.2.2
  have hi7 : ∀ w ∈ wsX70, w ∈ wsX7_finish := fun _ h => List.mem_cons_of_mem _ (List.mem_append_right _ h)
  refine V_aload_n C dX7_finish_0 rfl 0 rfl ?_
  refine V_iconst (v := 1) C dX7_finish_1 (by decide) ?_
  refine V_put (ws' := (cw K h (tE u true))) C dX7_finish_2 hi7 tyX7_ok nmX7 0 (cw_a rfl) rfl 7 (by decide) (List.mem_of_getElem? (i := 1) rfl) rfl rfl rfl rfl rfl (Nat.le_of_ble_eq_true rfl) (cw_sa (by decide) rfl rfl rfl) ?_
  refine V_iconst (v := 0) C dX7_finish_5 (by decide) ?_
  exact E 0 (tE u true) _ _ dX7_finish_6 rfl ⟨by rfl, rfl⟩

set_option maxHeartbeats 4000000 in
set_option maxRecDepth 100000 in
theorem c_X7_goOnAt (l : Launch) (D : va_G) (K : Nat → ClassId) (G : gE) (tb : Nat → Nat) (ga9 : gAll G tb) (h : Nat → Nat) (u : CS) (xt : Int32)  : gMi l D vwCl (tys0 K) G yX7_goOnAt wsX7_goOnAt ({ frames := 0, cells := 0, slots := 0, locals := 0 } : Room) [.ref (h 0), .int xt] (cw K h u) (cw K h) (fun r9 u9 => r9 = -1 ∧ u9 = tI u 4 xt) := by
  refine gMi_of (cc := cX7_goOnAt) (nL := 2) (rt := .int) (by decide) rfl (Nat.le_of_ble_eq_true rfl) ?_
  intro X C hg E
  show V X 0 0 (cw K h u) 0 [(0, .ref (h 0)), (1, .int xt)] []
  have go := ga9.1
  have gn := ga9.2.1
  have gt := ga9.2.2
  have hi7 : ∀ w ∈ wsX70, w ∈ wsX7_goOnAt := fun _ h => List.mem_cons_of_mem _ (List.mem_append_right _ h)
  refine V_aload_n C dX7_goOnAt_0 rfl 0 rfl ?_
  refine V_iload_n C dX7_goOnAt_1 rfl 1 rfl ?_
  refine V_put (ws' := (cw K h (tI u 4 xt))) C dX7_goOnAt_2 hi7 tyX7_ok nmX7 0 (cw_a rfl) rfl 6 (by decide) (List.mem_of_getElem? (i := 1) rfl) rfl rfl rfl rfl rfl (Nat.le_of_ble_eq_true rfl) (cw_sa (by decide) rfl rfl rfl) ?_
  refine V_iconst (v := (-1)) C dX7_goOnAt_5 (by decide) ?_
  exact E (-1) (tI u 4 xt) _ _ dX7_goOnAt_6 rfl ⟨by rfl, rfl⟩

set_option maxHeartbeats 4000000 in
set_option maxRecDepth 100000 in
theorem c_X7_isMissing (l : Launch) (D : va_G) (K : Nat → ClassId) (G : gE) (tb : Nat → Nat) (ga9 : gAll G tb) (h : Nat → Nat) (u : CS) (xk : Int32) (xn : Int32) (hC : cC u < 41) : gMi l D vwCl (tys0 K) G yX7_isMissing wsX7_isMissing ({ frames := 1, cells := 0, slots := 0, locals := 21 } : Room) [.ref (h 0), .int xk, .int xn] (cw K h u) (cw K h) (fun r9 u9 => r9 = b2i (dMis u xk xn) ∧ u9 = u) := by
  refine gMi_of (cc := cX7_isMissing) (nL := 3) (rt := .boolean) (by decide) rfl (Nat.le_of_ble_eq_true rfl) ?_
  intro X C hg E
  show V X 0 0 (cw K h u) 0 [(0, .ref (h 0)), (1, .int xk), (2, .int xn)] []
  have go := ga9.1
  have gn := ga9.2.1
  have gt := ga9.2.2
  have hi7 : ∀ w ∈ wsX70, w ∈ wsX7_isMissing := fun _ h => List.mem_cons_of_mem _ (List.mem_append_left _ (List.mem_append_left _ (List.mem_append_right _ h)))
  refine V_iload_n C dX7_isMissing_0 rfl 1 rfl ?_
  refine V_iconst (v := 1) C dX7_isMissing_1 (by decide) ?_
  refine V_icmp_eq (tgt := 10) C dX7_isMissing_2 (by decide) (fun zh2 => ?_) (fun zh2 => ?_)
  · refine V_aload_n C dX7_isMissing_10 rfl 0 rfl ?_
    refine V_get (v := .ref (h 2)) C dX7_isMissing_11 hi7 0 (cw_a rfl) rfl 1 (by decide) (List.mem_of_getElem? (i := 1) rfl) rfl rfl ?_
    refine V_iload_n C dX7_isMissing_14 rfl 2 rfl ?_
    refine V_gcalliV C go hg dX7_isMissing_15 2 (cw_a rfl) rfl (c_X6_has l D K G tb ga9 h u xn hC) gX7_isMissing_X6_has rfl 1 rfl (by decide +kernel) (by decide) ⟨Nat.le_of_ble_eq_true rfl, Nat.le_of_ble_eq_true rfl⟩ rfl (Nat.le_of_ble_eq_true rfl) (det2 ?_)
    refine V_ifz_ne (tgt := 25) C dX7_isMissing_18 (by decide) (fun zh18 => ?_) (fun zh18 => ?_)
    · refine V_iconst (v := 0) C dX7_isMissing_25 (by decide) ?_
      exact E 0 u _ _ dX7_isMissing_26 rfl ⟨by simp (decide := true) [dMis, b2i, zh2, zh18], rfl⟩
    · refine V_iconst (v := 1) C dX7_isMissing_21 (by decide) ?_
      refine V_goto (tgt := 26) C dX7_isMissing_22 (by decide) ?_
      exact E 1 u _ _ dX7_isMissing_26 rfl ⟨by simp (decide := true) [dMis, b2i, zh2, zh18], rfl⟩
  · refine V_iload_n C dX7_isMissing_5 rfl 1 rfl ?_
    refine V_iconst (v := 2) C dX7_isMissing_6 (by decide) ?_
    refine V_icmp_ne (tgt := 25) C dX7_isMissing_7 (by decide) (fun zh7 => ?_) (fun zh7 => ?_)
    · refine V_iconst (v := 0) C dX7_isMissing_25 (by decide) ?_
      exact E 0 u _ _ dX7_isMissing_26 rfl ⟨by simp (decide := true) [dMis, b2i, zh2, zh7], rfl⟩
    · refine V_aload_n C dX7_isMissing_10 rfl 0 rfl ?_
      refine V_get (v := .ref (h 2)) C dX7_isMissing_11 hi7 0 (cw_a rfl) rfl 1 (by decide) (List.mem_of_getElem? (i := 1) rfl) rfl rfl ?_
      refine V_iload_n C dX7_isMissing_14 rfl 2 rfl ?_
      refine V_gcalliV C go hg dX7_isMissing_15 2 (cw_a rfl) rfl (c_X6_has l D K G tb ga9 h u xn hC) gX7_isMissing_X6_has rfl 1 rfl (by decide +kernel) (by decide) ⟨Nat.le_of_ble_eq_true rfl, Nat.le_of_ble_eq_true rfl⟩ rfl (Nat.le_of_ble_eq_true rfl) (det2 ?_)
      refine V_ifz_ne (tgt := 25) C dX7_isMissing_18 (by decide) (fun zh18 => ?_) (fun zh18 => ?_)
      · refine V_iconst (v := 0) C dX7_isMissing_25 (by decide) ?_
        exact E 0 u _ _ dX7_isMissing_26 rfl ⟨by simp (decide := true) [dMis, b2i, zh2, zh7, zh18], rfl⟩
      · refine V_iconst (v := 1) C dX7_isMissing_21 (by decide) ?_
        refine V_goto (tgt := 26) C dX7_isMissing_22 (by decide) ?_
        exact E 1 u _ _ dX7_isMissing_26 rfl ⟨by simp (decide := true) [dMis, b2i, zh2, zh7, zh18], rfl⟩

set_option maxHeartbeats 4000000 in
set_option maxRecDepth 100000 in
theorem c_X7_namesMissingRegister (l : Launch) (D : va_G) (K : Nat → ClassId) (G : gE) (tb : Nat → Nat) (ga9 : gAll G tb) (h : Nat → Nat) (u : CS) (i9 ai : Nat) (I : I6) (hI : (cP u)[i9]? = some (ai, I)) (hC : cC u < 41) : gMi l D vwCl (tys0 K) G yX7_namesMissingRegister wsX7_namesMissingRegister ({ frames := 2, cells := 0, slots := 0, locals := 43 } : Room) [.ref (h 0), .ref ai] (cw K h u) (cw K h) (fun r9 u9 => r9 = b2i (dMiss u I) ∧ u9 = u) := by
  refine gMi_of (cc := cX7_namesMissingRegister) (nL := 2) (rt := .boolean) (by decide) rfl (Nat.le_of_ble_eq_true rfl) ?_
  intro X C hg E
  show V X 0 0 (cw K h u) 0 [(0, .ref (h 0)), (1, .ref ai)] []
  have go := ga9.1
  have gn := ga9.2.1
  have gt := ga9.2.2
  have hi7 : ∀ w ∈ wsX70, w ∈ wsX7_namesMissingRegister := fun _ h => List.mem_cons_of_mem _ (List.mem_append_left _ (List.mem_append_left _ (List.mem_append_right _ h)))
  have hi3 : ∀ w ∈ wsX30, w ∈ wsX7_namesMissingRegister := fun _ h => List.mem_cons_of_mem _ (List.mem_append_left _ (List.mem_append_left _ (List.mem_append_left _ (List.mem_append_right _ h))))
  refine V_aload_n C dX7_namesMissingRegister_0 rfl 0 rfl ?_
  refine V_aload_n C dX7_namesMissingRegister_1 rfl 1 rfl ?_
  refine V_gcalliV C go hg dX7_namesMissingRegister_2 (63 + i9) (cw_p (x := (ai, I)) hI) rfl (c_X3_kindOfA l D K G tb ga9 (cw K h u) (63 + i9) ai I (cw_p (x := (ai, I)) hI)) gX7_namesMissingRegister_X3_kindOfA rfl 0 rfl (by decide +kernel) (by decide) ⟨Nat.le_of_ble_eq_true rfl, Nat.le_of_ble_eq_true rfl⟩ rfl (Nat.le_of_ble_eq_true rfl) (det0 ?_)
  refine V_aload_n C dX7_namesMissingRegister_5 rfl 1 rfl ?_
  refine V_getN (v := .int (iA I)) C gn hg dX7_namesMissingRegister_6 hi3 (63 + i9) (cw_p (x := (ai, I)) hI) rfl 2 (by decide) (List.mem_of_getElem? (i := 28) rfl) rfl rfl ?_
  refine V_gcalliV C go hg dX7_namesMissingRegister_9 0 (cw_a rfl) rfl (c_X7_isMissing l D K G tb ga9 h u (kd 0 (iO I)) (iA I) hC) gX7_namesMissingRegister_X7_isMissing rfl 2 rfl (by decide +kernel) (by decide) ⟨Nat.le_of_ble_eq_true rfl, Nat.le_of_ble_eq_true rfl⟩ rfl (Nat.le_of_ble_eq_true rfl) (det2 ?_)
  refine V_ifz_ne (tgt := 45) C dX7_namesMissingRegister_12 (by decide) (fun zh12 => ?_) (fun zh12 => ?_)
  · refine V_iconst (v := 1) C dX7_namesMissingRegister_45 (by decide) ?_
    refine V_goto (tgt := 50) C dX7_namesMissingRegister_46 (by decide) ?_
    exact E 1 u _ _ dX7_namesMissingRegister_50 rfl ⟨by simp (decide := true) [dMiss, b2i, zh12], rfl⟩
  · refine V_aload_n C dX7_namesMissingRegister_15 rfl 0 rfl ?_
    refine V_aload_n C dX7_namesMissingRegister_16 rfl 1 rfl ?_
    refine V_gcalliV C go hg dX7_namesMissingRegister_17 (63 + i9) (cw_p (x := (ai, I)) hI) rfl (c_X3_kindOfB l D K G tb ga9 (cw K h u) (63 + i9) ai I (cw_p (x := (ai, I)) hI)) gX7_namesMissingRegister_X3_kindOfB rfl 0 rfl (by decide +kernel) (by decide) ⟨Nat.le_of_ble_eq_true rfl, Nat.le_of_ble_eq_true rfl⟩ rfl (Nat.le_of_ble_eq_true rfl) (det0 ?_)
    refine V_aload_n C dX7_namesMissingRegister_20 rfl 1 rfl ?_
    refine V_getN (v := .int (iB I)) C gn hg dX7_namesMissingRegister_21 hi3 (63 + i9) (cw_p (x := (ai, I)) hI) rfl 3 (by decide) (List.mem_of_getElem? (i := 30) rfl) rfl rfl ?_
    refine V_gcalliV C go hg dX7_namesMissingRegister_24 0 (cw_a rfl) rfl (c_X7_isMissing l D K G tb ga9 h u (kd 1 (iO I)) (iB I) hC) gX7_namesMissingRegister_X7_isMissing rfl 2 rfl (by decide +kernel) (by decide) ⟨Nat.le_of_ble_eq_true rfl, Nat.le_of_ble_eq_true rfl⟩ rfl (Nat.le_of_ble_eq_true rfl) (det2 ?_)
    refine V_ifz_ne (tgt := 45) C dX7_namesMissingRegister_27 (by decide) (fun zh27 => ?_) (fun zh27 => ?_)
    · refine V_iconst (v := 1) C dX7_namesMissingRegister_45 (by decide) ?_
      refine V_goto (tgt := 50) C dX7_namesMissingRegister_46 (by decide) ?_
      exact E 1 u _ _ dX7_namesMissingRegister_50 rfl ⟨by simp (decide := true) [dMiss, b2i, zh12, zh27], rfl⟩
    · refine V_aload_n C dX7_namesMissingRegister_30 rfl 0 rfl ?_
      refine V_aload_n C dX7_namesMissingRegister_31 rfl 1 rfl ?_
      refine V_gcalliV C go hg dX7_namesMissingRegister_32 (63 + i9) (cw_p (x := (ai, I)) hI) rfl (c_X3_kindOfC l D K G tb ga9 (cw K h u) (63 + i9) ai I (cw_p (x := (ai, I)) hI)) gX7_namesMissingRegister_X3_kindOfC rfl 0 rfl (by decide +kernel) (by decide) ⟨Nat.le_of_ble_eq_true rfl, Nat.le_of_ble_eq_true rfl⟩ rfl (Nat.le_of_ble_eq_true rfl) (det0 ?_)
      refine V_aload_n C dX7_namesMissingRegister_35 rfl 1 rfl ?_
      refine V_getN (v := .int (iC I)) C gn hg dX7_namesMissingRegister_36 hi3 (63 + i9) (cw_p (x := (ai, I)) hI) rfl 4 (by decide) (List.mem_of_getElem? (i := 32) rfl) rfl rfl ?_
      refine V_gcalliV C go hg dX7_namesMissingRegister_39 0 (cw_a rfl) rfl (c_X7_isMissing l D K G tb ga9 h u (kd 2 (iO I)) (iC I) hC) gX7_namesMissingRegister_X7_isMissing rfl 2 rfl (by decide +kernel) (by decide) ⟨Nat.le_of_ble_eq_true rfl, Nat.le_of_ble_eq_true rfl⟩ rfl (Nat.le_of_ble_eq_true rfl) (det2 ?_)
      refine V_ifz_eq (tgt := 49) C dX7_namesMissingRegister_42 (by decide) (fun zh42 => ?_) (fun zh42 => ?_)
      · refine V_iconst (v := 0) C dX7_namesMissingRegister_49 (by decide) ?_
        exact E 0 u _ _ dX7_namesMissingRegister_50 rfl ⟨by simp (decide := true) [dMiss, b2i, zh12, zh27, zh42], rfl⟩
      · refine V_iconst (v := 1) C dX7_namesMissingRegister_45 (by decide) ?_
        refine V_goto (tgt := 50) C dX7_namesMissingRegister_46 (by decide) ?_
        exact E 1 u _ _ dX7_namesMissingRegister_50 rfl ⟨by simp (decide := true) [dMiss, b2i, zh12, zh27, zh42], rfl⟩

set_option maxHeartbeats 4000000 in
set_option maxRecDepth 100000 in
theorem c_X7_result (l : Launch) (D : va_G) (K : Nat → ClassId) (w0 : va_W) (xo : Int32) (xr xs : Int64) : vMl l D vwCl (tys0 K) yX7_result wsX7_result ({ frames := 0, cells := 0, slots := 0, locals := 0 } : Room) [.int xo, .long xr, .long xs] w0 (fun _ : Unit => w0) (fun r _ => r = dRes xo xr xs) := by
  refine vMl_of (cc := cX7_result) (nL := 5) (by decide) rfl (Nat.le_of_ble_eq_true rfl) ?_
  intro X C E
  show V X 0 0 w0 0 [(0, .int xo), (1, .long xr), (3, .long xs)] []
  refine V_iload_n C dX7_result_0 rfl 0 rfl ?_
  by_cases zs1_2 : xo = 2
  · refine V_tab C dX7_result_1 28 (Or.inl (by rw [zs1_2]; exact ⟨by decide, by decide, _, rfl, by decide⟩)) ?_
    refine V_lload_n C dX7_result_28 rfl 1 rfl ?_
    refine V_lload_n C dX7_result_29 rfl 2 rfl ?_
    refine V_ladd C dX7_result_30 ?_
    exact E (xr + xs) () _ _ dX7_result_31 (by simp (decide := true) [dRes, zs1_2])
  by_cases zs1_3 : xo = 3
  · refine V_tab C dX7_result_1 32 (Or.inl (by rw [zs1_3]; exact ⟨by decide, by decide, _, rfl, by decide⟩)) ?_
    refine V_lload_n C dX7_result_32 rfl 1 rfl ?_
    refine V_lload_n C dX7_result_33 rfl 2 rfl ?_
    refine V_lsub C dX7_result_34 ?_
    exact E (xr - xs) () _ _ dX7_result_35 (by simp (decide := true) [dRes, zs1_3])
  by_cases zs1_4 : xo = 4
  · refine V_tab C dX7_result_1 36 (Or.inl (by rw [zs1_4]; exact ⟨by decide, by decide, _, rfl, by decide⟩)) ?_
    refine V_lload_n C dX7_result_36 rfl 1 rfl ?_
    refine V_lload_n C dX7_result_37 rfl 2 rfl ?_
    refine V_lmul C dX7_result_38 ?_
    exact E (xr * xs) () _ _ dX7_result_39 (by simp (decide := true) [dRes, zs1_4])
  refine V_tab C dX7_result_1 40 (Or.inr ⟨by have q_0 := i32ne (c := 2) 2 (by decide) zs1_2; have q_1 := i32ne (c := 3) 3 (by decide) zs1_3; have q_2 := i32ne (c := 4) 4 (by decide) zs1_4; omega, by decide⟩) ?_
  refine V_lload_n C dX7_result_40 rfl 1 rfl ?_
  refine V_lload_n C dX7_result_41 rfl 2 rfl ?_
  refine V_land C dX7_result_42 ?_
  exact E (xr &&& xs) () _ _ dX7_result_43 (by simp (decide := true) [dRes, zs1_2, zs1_3, zs1_4])
set_option maxHeartbeats 4000000 in
set_option maxRecDepth 100000 in
theorem c_X7_calculate (l : Launch) (D : va_G) (K : Nat → ClassId) (G : gE) (tb : Nat → Nat) (ga9 : gAll G tb) (h : Nat → Nat) (u : CS) (i9 ai : Nat) (I : I6) (hI : (cP u)[i9]? = some (ai, I)) (hC : cC u < 41) : gMi l D vwCl (tys0 K) G yX7_calculate wsX7_calculate ({ frames := 3, cells := 0, slots := 0, locals := 71 } : Room) [.ref (h 0), .ref ai] (cw K h u) (cw K h) (fun r9 u9 => r9 = -1 ∧ u9 = dCalc u I) := by
  refine gMi_of (cc := cX7_calculate) (nL := 7) (rt := .int) (by decide) rfl (Nat.le_of_ble_eq_true rfl) ?_
  intro X C hg E
  show V X 0 0 (cw K h u) 0 [(0, .ref (h 0)), (1, .ref ai)] []
  have go := ga9.1
  have gn := ga9.2.1
  have gt := ga9.2.2
  have hi7 : ∀ w ∈ wsX70, w ∈ wsX7_calculate := fun _ h => List.mem_cons_of_mem _ (List.mem_append_left _ (List.mem_append_left _ (List.mem_append_left _ (List.mem_append_left _ (List.mem_append_right _ h)))))
  have hi3 : ∀ w ∈ wsX30, w ∈ wsX7_calculate := fun _ h => List.mem_cons_of_mem _ (List.mem_append_left _ (List.mem_append_left _ (List.mem_append_left _ (List.mem_append_right _ h))))
  refine V_aload_n C dX7_calculate_0 rfl 0 rfl ?_
  refine V_get (v := .ref (h 2)) C dX7_calculate_1 hi7 0 (cw_a rfl) rfl 1 (by decide) (List.mem_of_getElem? (i := 1) rfl) rfl rfl ?_
  refine V_aload_n C dX7_calculate_4 rfl 1 rfl ?_
  refine V_getN (v := .int (iB I)) C gn hg dX7_calculate_5 hi3 (63 + i9) (cw_p (x := (ai, I)) hI) rfl 3 (by decide) (List.mem_of_getElem? (i := 30) rfl) rfl rfl ?_
  refine V_gcalllV C go hg dX7_calculate_8 2 (cw_a rfl) rfl (c_X6_valueOf l D K G tb ga9 h u (iB I) hC) gX7_calculate_X6_valueOf rfl 1 rfl (by decide +kernel) (by decide) ⟨Nat.le_of_ble_eq_true rfl, Nat.le_of_ble_eq_true rfl⟩ rfl (Nat.le_of_ble_eq_true rfl) (det2 ?_)
  refine V_lstore_n (lv' := [(2, .long (rVal u (iB I))), (0, .ref (h 0)), (1, .ref ai)]) C dX7_calculate_11 rfl (by decide) rfl ?_
  refine V_aload_n C dX7_calculate_12 rfl 1 rfl ?_
  refine V_get (v := .ref (h 2)) C dX7_calculate_13 hi7 0 (cw_a rfl) rfl 1 (by decide) (List.mem_of_getElem? (i := 1) rfl) rfl rfl ?_
  refine V_aload_n C dX7_calculate_16 rfl 2 rfl ?_
  refine V_getN (v := .int (iC I)) C gn hg dX7_calculate_17 hi3 (63 + i9) (cw_p (x := (ai, I)) hI) rfl 4 (by decide) (List.mem_of_getElem? (i := 32) rfl) rfl rfl ?_
  refine V_gcalllV C go hg dX7_calculate_20 2 (cw_a rfl) rfl (c_X6_valueOf l D K G tb ga9 h u (iC I) hC) gX7_calculate_X6_valueOf rfl 1 rfl (by decide +kernel) (by decide) ⟨Nat.le_of_ble_eq_true rfl, Nat.le_of_ble_eq_true rfl⟩ rfl (Nat.le_of_ble_eq_true rfl) (det2 ?_)
  refine V_lstore (lv' := [(4, .long (rVal u (iC I))), (2, .long (rVal u (iB I))), (0, .ref (h 0)), (1, .ref ai)]) C dX7_calculate_23 (by decide) rfl ?_
  suffices zj58 : ∀ xn : Bool, xn = (rNat u (iB I) || rNat u (iC I)) → V X 0 0 (cw K h u) 58 [(4, .long (rVal u (iC I))), (2, .long (rVal u (iB I))), (0, .ref (h 0)), (1, .ref ai)] [.int (b2i xn)] by
    refine V_aload_n C dX7_calculate_25 rfl 2 rfl ?_
    refine V_get (v := .ref (h 2)) C dX7_calculate_26 hi7 0 (cw_a rfl) rfl 1 (by decide) (List.mem_of_getElem? (i := 1) rfl) rfl rfl ?_
    refine V_aload_n C dX7_calculate_29 rfl 3 rfl ?_
    refine V_getN (v := .int (iB I)) C gn hg dX7_calculate_30 hi3 (63 + i9) (cw_p (x := (ai, I)) hI) rfl 3 (by decide) (List.mem_of_getElem? (i := 30) rfl) rfl rfl ?_
    refine V_gcalliV C go hg dX7_calculate_33 2 (cw_a rfl) rfl (c_X6_natOf l D K G tb ga9 h u (iB I) hC) gX7_calculate_X6_natOf rfl 1 rfl (by decide +kernel) (by decide) ⟨Nat.le_of_ble_eq_true rfl, Nat.le_of_ble_eq_true rfl⟩ rfl (Nat.le_of_ble_eq_true rfl) (det2 ?_)
    refine V_ifz_ne (tgt := 53) C dX7_calculate_36 (by decide) (fun zh36 => ?_) (fun zh36 => ?_)
    · refine V_iconst (v := 1) C dX7_calculate_53 (by decide) ?_
      refine V_goto (tgt := 58) C dX7_calculate_54 (by decide) ?_
      refine V_sub [0, 1, 2, 3] rfl ?_
      exact zj58 true (by first | rfl | (simp (decide := true) [b2i, gi_si, zh36]; done) | (simp (decide := true) [b2i, gi_si, zh36]; rfl) | (simp_all (decide := true) [b2i, gi_si]; done))
    · refine V_aload_n C dX7_calculate_39 rfl 2 rfl ?_
      refine V_get (v := .ref (h 2)) C dX7_calculate_40 hi7 0 (cw_a rfl) rfl 1 (by decide) (List.mem_of_getElem? (i := 1) rfl) rfl rfl ?_
      refine V_aload_n C dX7_calculate_43 rfl 3 rfl ?_
      refine V_getN (v := .int (iC I)) C gn hg dX7_calculate_44 hi3 (63 + i9) (cw_p (x := (ai, I)) hI) rfl 4 (by decide) (List.mem_of_getElem? (i := 32) rfl) rfl rfl ?_
      refine V_gcalliV C go hg dX7_calculate_47 2 (cw_a rfl) rfl (c_X6_natOf l D K G tb ga9 h u (iC I) hC) gX7_calculate_X6_natOf rfl 1 rfl (by decide +kernel) (by decide) ⟨Nat.le_of_ble_eq_true rfl, Nat.le_of_ble_eq_true rfl⟩ rfl (Nat.le_of_ble_eq_true rfl) (det2 ?_)
      refine V_ifz_eq (tgt := 57) C dX7_calculate_50 (by decide) (fun zh50 => ?_) (fun zh50 => ?_)
      · refine V_iconst (v := 0) C dX7_calculate_57 (by decide) ?_
        refine V_sub [0, 1, 2, 3] rfl ?_
        exact zj58 false (by first | rfl | (simp (decide := true) [b2i, gi_si, zh36, zh50]; done) | (simp (decide := true) [b2i, gi_si, zh36, zh50]; rfl) | (simp_all (decide := true) [b2i, gi_si]; done))
      · refine V_iconst (v := 1) C dX7_calculate_53 (by decide) ?_
        refine V_goto (tgt := 58) C dX7_calculate_54 (by decide) ?_
        refine V_sub [0, 1, 2, 3] rfl ?_
        exact zj58 true (by first | rfl | (simp (decide := true) [b2i, gi_si, zh36, zh50]; done) | (simp (decide := true) [b2i, gi_si, zh36, zh50]; rfl) | (simp_all (decide := true) [b2i, gi_si]; done))
  intro xn e_xn
  refine V_istore (lv' := [(6, .int (b2i xn)), (4, .long (rVal u (iC I))), (2, .long (rVal u (iB I))), (0, .ref (h 0)), (1, .ref ai)]) C dX7_calculate_58 (by decide) rfl ?_
  refine V_aload_n C dX7_calculate_60 rfl 3 rfl ?_
  refine V_get (v := .ref (h 2)) C dX7_calculate_61 hi7 0 (cw_a rfl) rfl 1 (by decide) (List.mem_of_getElem? (i := 1) rfl) rfl rfl ?_
  refine V_aload_n C dX7_calculate_64 rfl 4 rfl ?_
  refine V_getN (v := .int (iA I)) C gn hg dX7_calculate_65 hi3 (63 + i9) (cw_p (x := (ai, I)) hI) rfl 2 (by decide) (List.mem_of_getElem? (i := 28) rfl) rfl rfl ?_
  refine V_aload_n C dX7_calculate_68 rfl 4 rfl ?_
  refine V_getN (v := .int (iO I)) C gn hg dX7_calculate_69 hi3 (63 + i9) (cw_p (x := (ai, I)) hI) rfl 0 (by decide) (List.mem_of_getElem? (i := 25) rfl) rfl rfl ?_
  refine V_lload_n C dX7_calculate_72 rfl 2 rfl ?_
  refine V_lload C dX7_calculate_73 1 rfl ?_
  refine V_calllS C dX7_calculate_75 (c_X7_result l D K (cw K h u) (iO I) (rVal u (iB I)) (rVal u (iC I))) gX7_calculate_X7_result rfl 3 rfl (by decide +kernel) (by decide) ⟨Nat.le_of_ble_eq_true rfl, Nat.le_of_ble_eq_true rfl⟩ rfl (Nat.le_of_ble_eq_true rfl) (det0 ?_)
  refine V_iload C dX7_calculate_78 0 rfl ?_
  refine V_gcallvV C go hg dX7_calculate_80 2 (cw_a rfl) rfl (c_X6_write l D K G tb ga9 h u (iA I) (dRes (iO I) (rVal u (iB I)) (rVal u (iC I))) xn hC) gX7_calculate_X6_write rfl 3 rfl (by decide +kernel) (by decide) ⟨Nat.le_of_ble_eq_true rfl, Nat.le_of_ble_eq_true rfl⟩ rfl (Nat.le_of_ble_eq_true rfl) (det1 ?_)
  refine V_iconst (v := (-1)) C dX7_calculate_83 (by decide) ?_
  exact E (-1) (rWr u (iA I) (dRes (iO I) (rVal u (iB I)) (rVal u (iC I))) xn) _ _ dX7_calculate_84 rfl ⟨rfl, by unfold dCalc; rw [← e_xn]⟩

set_option maxHeartbeats 4000000 in
set_option maxRecDepth 100000 in
theorem c_X7_compare (l : Launch) (D : va_G) (K : Nat → ClassId) (G : gE) (tb : Nat → Nat) (ga9 : gAll G tb) (h : Nat → Nat) (u : CS) (i9 ai : Nat) (I : I6) (hI : (cP u)[i9]? = some (ai, I)) (hC : cC u < 41) : gMi l D vwCl (tys0 K) G yX7_compare wsX7_compare ({ frames := 3, cells := 0, slots := 0, locals := 65 } : Room) [.ref (h 0), .ref ai] (cw K h u) (cw K h) (fun r9 u9 => r9 = -1 ∧ u9 = dCmp u I) := by
  refine gMi_of (cc := cX7_compare) (nL := 9) (rt := .int) (by decide) rfl (Nat.le_of_ble_eq_true rfl) ?_
  intro X C hg E
  show V X 0 0 (cw K h u) 0 [(0, .ref (h 0)), (1, .ref ai)] []
  have go := ga9.1
  have gn := ga9.2.1
  have gt := ga9.2.2
  have hi7 : ∀ w ∈ wsX70, w ∈ wsX7_compare := fun _ h => List.mem_cons_of_mem _ (List.mem_append_left _ (List.mem_append_left _ (List.mem_append_left _ (List.mem_append_left _ (List.mem_append_left _ (List.mem_append_right _ h))))))
  have hi3 : ∀ w ∈ wsX30, w ∈ wsX7_compare := fun _ h => List.mem_cons_of_mem _ (List.mem_append_left _ (List.mem_append_left _ (List.mem_append_left _ (List.mem_append_left _ (List.mem_append_right _ h)))))
  have hi6 : ∀ w ∈ wsX60, w ∈ wsX7_compare := fun _ h => List.mem_cons_of_mem _ (List.mem_append_left _ (List.mem_append_left _ (List.mem_append_left _ (List.mem_append_right _ h))))
  have hi1 : ∀ w ∈ wsX10, w ∈ wsX7_compare := fun _ h => List.mem_cons_of_mem _ (List.mem_append_left _ (List.mem_append_left _ (List.mem_append_right _ h)))
  refine V_aload_n C dX7_compare_0 rfl 0 rfl ?_
  refine V_get (v := .ref (h 2)) C dX7_compare_1 hi7 0 (cw_a rfl) rfl 1 (by decide) (List.mem_of_getElem? (i := 1) rfl) rfl rfl ?_
  refine V_aload_n C dX7_compare_4 rfl 1 rfl ?_
  refine V_getN (v := .int (iB I)) C gn hg dX7_compare_5 hi3 (63 + i9) (cw_p (x := (ai, I)) hI) rfl 3 (by decide) (List.mem_of_getElem? (i := 30) rfl) rfl rfl ?_
  refine V_gcalllV C go hg dX7_compare_8 2 (cw_a rfl) rfl (c_X6_valueOf l D K G tb ga9 h u (iB I) hC) gX7_compare_X6_valueOf rfl 1 rfl (by decide +kernel) (by decide) ⟨Nat.le_of_ble_eq_true rfl, Nat.le_of_ble_eq_true rfl⟩ rfl (Nat.le_of_ble_eq_true rfl) (det2 ?_)
  refine V_lstore_n (lv' := [(2, .long (rVal u (iB I))), (0, .ref (h 0)), (1, .ref ai)]) C dX7_compare_11 rfl (by decide) rfl ?_
  refine V_aload_n C dX7_compare_12 rfl 1 rfl ?_
  refine V_get (v := .ref (h 2)) C dX7_compare_13 hi7 0 (cw_a rfl) rfl 1 (by decide) (List.mem_of_getElem? (i := 1) rfl) rfl rfl ?_
  refine V_aload_n C dX7_compare_16 rfl 2 rfl ?_
  refine V_getN (v := .int (iC I)) C gn hg dX7_compare_17 hi3 (63 + i9) (cw_p (x := (ai, I)) hI) rfl 4 (by decide) (List.mem_of_getElem? (i := 32) rfl) rfl rfl ?_
  refine V_gcalllV C go hg dX7_compare_20 2 (cw_a rfl) rfl (c_X6_valueOf l D K G tb ga9 h u (iC I) hC) gX7_compare_X6_valueOf rfl 1 rfl (by decide +kernel) (by decide) ⟨Nat.le_of_ble_eq_true rfl, Nat.le_of_ble_eq_true rfl⟩ rfl (Nat.le_of_ble_eq_true rfl) (det2 ?_)
  refine V_lstore (lv' := [(4, .long (rVal u (iC I))), (2, .long (rVal u (iB I))), (0, .ref (h 0)), (1, .ref ai)]) C dX7_compare_23 (by decide) rfl ?_
  suffices zj58 : ∀ xk : Bool, xk = (dKn u I) → V X 0 0 (cw K h u) 58 [(4, .long (rVal u (iC I))), (2, .long (rVal u (iB I))), (0, .ref (h 0)), (1, .ref ai)] [.int (b2i xk)] by
    refine V_aload_n C dX7_compare_25 rfl 2 rfl ?_
    refine V_get (v := .ref (h 2)) C dX7_compare_26 hi7 0 (cw_a rfl) rfl 1 (by decide) (List.mem_of_getElem? (i := 1) rfl) rfl rfl ?_
    refine V_aload_n C dX7_compare_29 rfl 3 rfl ?_
    refine V_getN (v := .int (iB I)) C gn hg dX7_compare_30 hi3 (63 + i9) (cw_p (x := (ai, I)) hI) rfl 3 (by decide) (List.mem_of_getElem? (i := 30) rfl) rfl rfl ?_
    refine V_gcalliV C go hg dX7_compare_33 2 (cw_a rfl) rfl (c_X6_natOf l D K G tb ga9 h u (iB I) hC) gX7_compare_X6_natOf rfl 1 rfl (by decide +kernel) (by decide) ⟨Nat.le_of_ble_eq_true rfl, Nat.le_of_ble_eq_true rfl⟩ rfl (Nat.le_of_ble_eq_true rfl) (det2 ?_)
    refine V_ifz_ne (tgt := 57) C dX7_compare_36 (by decide) (fun zh36 => ?_) (fun zh36 => ?_)
    · refine V_iconst (v := 0) C dX7_compare_57 (by decide) ?_
      refine V_sub [0, 1, 2, 3] rfl ?_
      exact zj58 false (by simp [dKn, zh36])
    · refine V_aload_n C dX7_compare_39 rfl 2 rfl ?_
      refine V_get (v := .ref (h 2)) C dX7_compare_40 hi7 0 (cw_a rfl) rfl 1 (by decide) (List.mem_of_getElem? (i := 1) rfl) rfl rfl ?_
      refine V_aload_n C dX7_compare_43 rfl 3 rfl ?_
      refine V_getN (v := .int (iC I)) C gn hg dX7_compare_44 hi3 (63 + i9) (cw_p (x := (ai, I)) hI) rfl 4 (by decide) (List.mem_of_getElem? (i := 32) rfl) rfl rfl ?_
      refine V_gcalliV C go hg dX7_compare_47 2 (cw_a rfl) rfl (c_X6_natOf l D K G tb ga9 h u (iC I) hC) gX7_compare_X6_natOf rfl 1 rfl (by decide +kernel) (by decide) ⟨Nat.le_of_ble_eq_true rfl, Nat.le_of_ble_eq_true rfl⟩ rfl (Nat.le_of_ble_eq_true rfl) (det2 ?_)
      refine V_ifz_ne (tgt := 57) C dX7_compare_50 (by decide) (fun zh50 => ?_) (fun zh50 => ?_)
      · refine V_iconst (v := 0) C dX7_compare_57 (by decide) ?_
        refine V_sub [0, 1, 2, 3] rfl ?_
        exact zj58 false (by simp [dKn, zh36, zh50])
      · refine V_iconst (v := 1) C dX7_compare_53 (by decide) ?_
        refine V_goto (tgt := 58) C dX7_compare_54 (by decide) ?_
        refine V_sub [0, 1, 2, 3] rfl ?_
        exact zj58 true (by simp [dKn, zh36, zh50])
  intro xk e_xk
  refine V_istore (lv' := [(6, .int (b2i xk)), (4, .long (rVal u (iC I))), (2, .long (rVal u (iB I))), (0, .ref (h 0)), (1, .ref ai)]) C dX7_compare_58 (by decide) rfl ?_
  suffices zj96 : ∀ xg : Bool, xg = (dHol u I) → V X 0 0 (cw K h u) 96 [(6, .int (b2i xk)), (4, .long (rVal u (iC I))), (2, .long (rVal u (iB I))), (0, .ref (h 0)), (1, .ref ai)] [.int (b2i xg)] by
    refine V_aload_n C dX7_compare_60 rfl 4 rfl ?_
    refine V_getN (v := .int (iO I)) C gn hg dX7_compare_61 hi3 (63 + i9) (cw_p (x := (ai, I)) hI) rfl 0 (by decide) (List.mem_of_getElem? (i := 25) rfl) rfl rfl ?_
    refine V_bipush (v := 6) C dX7_compare_64 (by decide) ?_
    refine V_icmp_ne (tgt := 84) C dX7_compare_66 (by decide) (fun zh66 => ?_) (fun zh66 => ?_)
    · refine V_lload_n C dX7_compare_84 rfl 2 rfl ?_
      refine V_lload C dX7_compare_85 1 rfl ?_
      refine V_lcmp C dX7_compare_87 ?_
      refine V_lc_ne (tgt := 95) C dX7_compare_88 (by decide) (fun zh88 => ?_) (fun zh88 => ?_)
      · refine V_iconst (v := 0) C dX7_compare_95 (by decide) ?_
        refine V_sub [0, 1, 2, 3, 4] rfl ?_
        exact zj96 false (by simp (decide := true) [dHol, zh66, zh88])
      · refine V_iconst (v := 1) C dX7_compare_91 (by decide) ?_
        refine V_goto (tgt := 96) C dX7_compare_92 (by decide) ?_
        refine V_sub [0, 1, 2, 3, 4] rfl ?_
        exact zj96 true (by simp (decide := true) [dHol, zh66, zh88])
    · refine V_lload_n C dX7_compare_69 rfl 2 rfl ?_
      refine V_lload C dX7_compare_70 1 rfl ?_
      refine V_lcmp C dX7_compare_72 ?_
      refine V_lc_ge (tgt := 80) C dX7_compare_73 (by decide) (fun zh73 => ?_) (fun zh73 => ?_)
      · refine V_iconst (v := 0) C dX7_compare_80 (by decide) ?_
        refine V_goto (tgt := 96) C dX7_compare_81 (by decide) ?_
        refine V_sub [0, 1, 2, 3, 4] rfl ?_
        exact zj96 false (by simp (decide := true) [dHol, zh66, zh73, Int64.not_lt.mpr zh73])
      · refine V_iconst (v := 1) C dX7_compare_76 (by decide) ?_
        refine V_goto (tgt := 96) C dX7_compare_77 (by decide) ?_
        refine V_sub [0, 1, 2, 3, 4] rfl ?_
        exact zj96 true (by simp (decide := true) [dHol, zh66, zh73, Int64.not_le.mp zh73])
  intro xg e_xg
  refine V_istore (lv' := [(7, .int (b2i xg)), (6, .int (b2i xk)), (4, .long (rVal u (iC I))), (2, .long (rVal u (iB I))), (0, .ref (h 0)), (1, .ref ai)]) C dX7_compare_96 (by decide) rfl ?_
  refine V_aload_n C dX7_compare_98 rfl 4 rfl ?_
  refine V_get (v := .ref (h 2)) C dX7_compare_99 hi7 0 (cw_a rfl) rfl 1 (by decide) (List.mem_of_getElem? (i := 1) rfl) rfl rfl ?_
  refine V_getN (v := .ref (h (22 + (cC u)))) C gn hg dX7_compare_102 hi6 2 (cw_a rfl) rfl 4 (by decide) (List.mem_of_getElem? (i := 17) rfl) rfl rfl ?_
  refine V_getN (v := .int (cF u (cC u) 4)) C gn hg dX7_compare_105 hi1 (22 + (cC u)) (cw_f hC) rfl 4 (by decide) (List.mem_of_getElem? (i := 14) rfl) rfl rfl ?_
  refine V_istore (lv' := [(8, .int (cF u (cC u) 4)), (7, .int (b2i xg)), (6, .int (b2i xk)), (4, .long (rVal u (iC I))), (2, .long (rVal u (iB I))), (0, .ref (h 0)), (1, .ref ai)]) C dX7_compare_108 (by decide) rfl ?_
  refine V_aload_n C dX7_compare_110 rfl 5 rfl ?_
  refine V_get (v := .ref (h 3)) C dX7_compare_111 hi7 0 (cw_a rfl) rfl 2 (by decide) (List.mem_of_getElem? (i := 2) rfl) rfl rfl ?_
  refine V_aload_n C dX7_compare_114 rfl 6 rfl ?_
  refine V_getN (v := .int (iA I)) C gn hg dX7_compare_115 hi3 (63 + i9) (cw_p (x := (ai, I)) hI) rfl 2 (by decide) (List.mem_of_getElem? (i := 28) rfl) rfl rfl ?_
  refine V_iload C dX7_compare_118 0 rfl ?_
  suffices zj135 : ∀ xv : Bool, xv = (xk && xg) → V X 0 0 (cw K h u) 135 [(8, .int (cF u (cC u) 4)), (7, .int (b2i xg)), (6, .int (b2i xk)), (4, .long (rVal u (iC I))), (2, .long (rVal u (iB I))), (0, .ref (h 0)), (1, .ref ai)] [.int (b2i xv), .int (cF u (cC u) 4), .int (iA I), .ref (h 3)] by
    refine V_iload C dX7_compare_120 2 rfl ?_
    refine V_ifz_eq (tgt := 134) C dX7_compare_122 (by decide) (fun zh122 => ?_) (fun zh122 => ?_)
    · refine V_iconst (v := 0) C dX7_compare_134 (by decide) ?_
      refine V_sub [0, 1, 2, 3, 4, 5, 6] rfl ?_
      exact zj135 false (by first | rfl | (simp (decide := true) [b2i, gi_si, zh122]; done) | (simp (decide := true) [b2i, gi_si, zh122]; rfl) | (simp_all (decide := true) [b2i, gi_si]; done))
    · refine V_iload C dX7_compare_125 1 rfl ?_
      refine V_ifz_eq (tgt := 134) C dX7_compare_127 (by decide) (fun zh127 => ?_) (fun zh127 => ?_)
      · refine V_iconst (v := 0) C dX7_compare_134 (by decide) ?_
        refine V_sub [0, 1, 2, 3, 4, 5, 6] rfl ?_
        exact zj135 false (by first | rfl | (simp (decide := true) [b2i, gi_si, zh122, zh127]; done) | (simp (decide := true) [b2i, gi_si, zh122, zh127]; rfl) | (simp_all (decide := true) [b2i, gi_si]; done))
      · refine V_iconst (v := 1) C dX7_compare_130 (by decide) ?_
        refine V_goto (tgt := 135) C dX7_compare_131 (by decide) ?_
        refine V_sub [0, 1, 2, 3, 4, 5, 6] rfl ?_
        exact zj135 true (by first | rfl | (simp (decide := true) [b2i, gi_si, zh122, zh127]; done) | (simp (decide := true) [b2i, gi_si, zh122, zh127]; rfl) | (simp_all (decide := true) [b2i, gi_si]; done))
  intro xv e_xv
  refine V_callvV C dX7_compare_135 3 (cw_a rfl) rfl (c_X5_write l D K (cw K h u) 3 4 (h 3) (h 4) (cZ u 4) (cw_a rfl) (cw_a rfl) (iA I) (cF u (cC u) 4) xv) gX7_compare_X5_write rfl 3 rfl (by decide +kernel) (by decide) ⟨Nat.le_of_ble_eq_true rfl, Nat.le_of_ble_eq_true rfl⟩ rfl (Nat.le_of_ble_eq_true rfl) (detv ?_)
  refine V_ws (cw_Z K h u (pWr (cZ u 4) (iA I) (cF u (cC u) 4) xv)) ?_
  refine V_aload_n C dX7_compare_138 rfl 5 rfl ?_
  refine V_get (v := .ref (h 3)) C dX7_compare_139 hi7 0 (cw_a rfl) rfl 2 (by decide) (List.mem_of_getElem? (i := 2) rfl) rfl rfl ?_
  refine V_aload_n C dX7_compare_142 rfl 6 rfl ?_
  refine V_getN (v := .int (iA I)) C gn hg dX7_compare_143 hi3 (63 + i9) (cw_p (x := (ai, I)) hI) rfl 2 (by decide) (List.mem_of_getElem? (i := 28) rfl) rfl rfl ?_
  refine V_iconst (v := 1) C dX7_compare_146 (by decide) ?_
  refine V_iadd C dX7_compare_147 ?_
  refine V_iload C dX7_compare_148 0 rfl ?_
  suffices zj165 : ∀ xw : Bool, xw = (xk && !xg) → V X 0 0 (cw K h (tZ u (pWr (cZ u 4) (iA I) (cF u (cC u) 4) xv))) 165 [(8, .int (cF u (cC u) 4)), (7, .int (b2i xg)), (6, .int (b2i xk)), (4, .long (rVal u (iC I))), (2, .long (rVal u (iB I))), (0, .ref (h 0)), (1, .ref ai)] [.int (b2i xw), .int (cF u (cC u) 4), .int ((iA I) + 1), .ref (h 3)] by
    refine V_iload C dX7_compare_150 2 rfl ?_
    refine V_ifz_eq (tgt := 164) C dX7_compare_152 (by decide) (fun zh152 => ?_) (fun zh152 => ?_)
    · refine V_iconst (v := 0) C dX7_compare_164 (by decide) ?_
      refine V_sub [0, 1, 2, 3, 4, 5, 6] rfl ?_
      exact zj165 false (by first | rfl | (simp (decide := true) [b2i, gi_si, zh152]; done) | (simp (decide := true) [b2i, gi_si, zh152]; rfl) | (simp_all (decide := true) [b2i, gi_si]; done))
    · refine V_iload C dX7_compare_155 1 rfl ?_
      refine V_ifz_ne (tgt := 164) C dX7_compare_157 (by decide) (fun zh157 => ?_) (fun zh157 => ?_)
      · refine V_iconst (v := 0) C dX7_compare_164 (by decide) ?_
        refine V_sub [0, 1, 2, 3, 4, 5, 6] rfl ?_
        exact zj165 false (by first | rfl | (simp (decide := true) [b2i, gi_si, zh152, zh157]; done) | (simp (decide := true) [b2i, gi_si, zh152, zh157]; rfl) | (simp_all (decide := true) [b2i, gi_si]; done))
      · refine V_iconst (v := 1) C dX7_compare_160 (by decide) ?_
        refine V_goto (tgt := 165) C dX7_compare_161 (by decide) ?_
        refine V_sub [0, 1, 2, 3, 4, 5, 6] rfl ?_
        exact zj165 true (by first | rfl | (simp (decide := true) [b2i, gi_si, zh152, zh157]; done) | (simp (decide := true) [b2i, gi_si, zh152, zh157]; rfl) | (simp_all (decide := true) [b2i, gi_si]; done))
  intro xw e_xw
  refine V_callvV C dX7_compare_165 3 (cw_a rfl) rfl (c_X5_write l D K (cw K h (tZ u (pWr (cZ u 4) (iA I) (cF u (cC u) 4) xv))) 3 4 (h 3) (h 4) (pWr (cZ u 4) (iA I) (cF u (cC u) 4) xv) (cw_a rfl) (cw_a rfl) ((iA I) + 1) (cF u (cC u) 4) xw) gX7_compare_X5_write rfl 3 rfl (by decide +kernel) (by decide) ⟨Nat.le_of_ble_eq_true rfl, Nat.le_of_ble_eq_true rfl⟩ rfl (Nat.le_of_ble_eq_true rfl) (detv ?_)
  refine V_ws (cw_Z K h (tZ u (pWr (cZ u 4) (iA I) (cF u (cC u) 4) xv)) (pWr (pWr (cZ u 4) (iA I) (cF u (cC u) 4) xv) ((iA I) + 1) (cF u (cC u) 4) xw)) ?_
  refine V_iconst (v := (-1)) C dX7_compare_168 (by decide) ?_
  exact E (-1) (tZ (tZ u (pWr (cZ u 4) (iA I) (cF u (cC u) 4) xv)) (pWr (pWr (cZ u 4) (iA I) (cF u (cC u) 4) xv) ((iA I) + 1) (cF u (cC u) 4) xw)) _ _ dX7_compare_169 rfl ⟨rfl, by unfold dCmp; rw [e_xw, e_xv, e_xk, e_xg]⟩

set_option maxHeartbeats 4000000 in
set_option maxRecDepth 100000 in
theorem c_X7_load (l : Launch) (D : va_G) (K : Nat → ClassId) (G : gE) (tb : Nat → Nat) (ga9 : gAll G tb) (h : Nat → Nat) (u : CS) (i9 ai : Nat) (I : I6) (hI : (cP u)[i9]? = some (ai, I)) (hC : cC u < 41) : gMi l D vwCl (tys0 K) G yX7_load wsX7_load ({ frames := 3, cells := 0, slots := 0, locals := 71 } : Room) [.ref (h 0), .ref ai] (cw K h u) (cw K h) (fun r9 u9 => r9 = (dLoad u I).1 ∧ u9 = (dLoad u I).2) := by
  refine gMi_of (cc := cX7_load) (nL := 5) (rt := .int) (by decide) rfl (Nat.le_of_ble_eq_true rfl) ?_
  intro X C hg E
  show V X 0 0 (cw K h u) 0 [(0, .ref (h 0)), (1, .ref ai)] []
  have go := ga9.1
  have gn := ga9.2.1
  have gt := ga9.2.2
  have hi7 : ∀ w ∈ wsX70, w ∈ wsX7_load := fun _ h => List.mem_cons_of_mem _ (List.mem_append_left _ (List.mem_append_left _ (List.mem_append_left _ (List.mem_append_left _ (List.mem_append_right _ h)))))
  have hi3 : ∀ w ∈ wsX30, w ∈ wsX7_load := fun _ h => List.mem_cons_of_mem _ (List.mem_append_left _ (List.mem_append_left _ (List.mem_append_left _ (List.mem_append_right _ h))))
  refine V_aload_n C dX7_load_0 rfl 0 rfl ?_
  refine V_get (v := .ref (h 2)) C dX7_load_1 hi7 0 (cw_a rfl) rfl 1 (by decide) (List.mem_of_getElem? (i := 1) rfl) rfl rfl ?_
  refine V_aload_n C dX7_load_4 rfl 1 rfl ?_
  refine V_getN (v := .int (iB I)) C gn hg dX7_load_5 hi3 (63 + i9) (cw_p (x := (ai, I)) hI) rfl 3 (by decide) (List.mem_of_getElem? (i := 30) rfl) rfl rfl ?_
  refine V_gcalliV C go hg dX7_load_8 2 (cw_a rfl) rfl (c_X6_natOf l D K G tb ga9 h u (iB I) hC) gX7_load_X6_natOf rfl 1 rfl (by decide +kernel) (by decide) ⟨Nat.le_of_ble_eq_true rfl, Nat.le_of_ble_eq_true rfl⟩ rfl (Nat.le_of_ble_eq_true rfl) (det2 ?_)
  refine V_ifz_eq (tgt := 16) C dX7_load_11 (by decide) (fun zh11 => ?_) (fun zh11 => ?_)
  · refine V_aload_n C dX7_load_16 rfl 0 rfl ?_
    refine V_get (v := .ref (h 2)) C dX7_load_17 hi7 0 (cw_a rfl) rfl 1 (by decide) (List.mem_of_getElem? (i := 1) rfl) rfl rfl ?_
    refine V_aload_n C dX7_load_20 rfl 1 rfl ?_
    refine V_getN (v := .int (iB I)) C gn hg dX7_load_21 hi3 (63 + i9) (cw_p (x := (ai, I)) hI) rfl 3 (by decide) (List.mem_of_getElem? (i := 30) rfl) rfl rfl ?_
    refine V_gcalllV C go hg dX7_load_24 2 (cw_a rfl) rfl (c_X6_valueOf l D K G tb ga9 h u (iB I) hC) gX7_load_X6_valueOf rfl 1 rfl (by decide +kernel) (by decide) ⟨Nat.le_of_ble_eq_true rfl, Nat.le_of_ble_eq_true rfl⟩ rfl (Nat.le_of_ble_eq_true rfl) (det2 ?_)
    refine V_lstore_n (lv' := [(2, .long (rVal u (iB I))), (0, .ref (h 0)), (1, .ref ai)]) C dX7_load_27 rfl (by decide) rfl ?_
    refine V_aload_n C dX7_load_28 rfl 1 rfl ?_
    refine V_get (v := .ref (h 5)) C dX7_load_29 hi7 0 (cw_a rfl) rfl 3 (by decide) (List.mem_of_getElem? (i := 2) rfl) rfl rfl ?_
    refine V_lload_n C dX7_load_32 rfl 0 rfl ?_
    refine V_calliV C dX7_load_33 5 (cw_a rfl) rfl (c_X0_has l D K (cw K h u) 5 6 7 (h 5) (h 6) (h 7) 32 (cL u 0) (cZ u 0) (cw_a rfl) (cw_a rfl) (cw_a rfl) (by decide) (rVal u (iB I))) gX7_load_X0_has rfl 1 rfl (by decide +kernel) (by decide) ⟨Nat.le_of_ble_eq_true rfl, Nat.le_of_ble_eq_true rfl⟩ rfl (Nat.le_of_ble_eq_true rfl) (det0 ?_)
    refine V_ifz_ne (tgt := 41) C dX7_load_36 (by decide) (fun zh36 => ?_) (fun zh36 => ?_)
    · suffices zj66 : ∀ xz : Bool, xz = (decide (iO I = 12) && cNat 32 (cZ u 0) (rVal u (iB I))) → V X 0 0 (cw K h u) 66 [(2, .long (rVal u (iB I))), (0, .ref (h 0)), (1, .ref ai)] [.int (b2i xz)] by
        refine V_aload_n C dX7_load_41 rfl 2 rfl ?_
        refine V_getN (v := .int (iO I)) C gn hg dX7_load_42 hi3 (63 + i9) (cw_p (x := (ai, I)) hI) rfl 0 (by decide) (List.mem_of_getElem? (i := 25) rfl) rfl rfl ?_
        refine V_bipush (v := 12) C dX7_load_45 (by decide) ?_
        refine V_icmp_ne (tgt := 65) C dX7_load_47 (by decide) (fun zh47 => ?_) (fun zh47 => ?_)
        · refine V_iconst (v := 0) C dX7_load_65 (by decide) ?_
          refine V_sub [0, 1, 2] rfl ?_
          exact zj66 false (by first | rfl | (simp (decide := true) [b2i, gi_si, zh11, zh36, zh47]; done) | (simp (decide := true) [b2i, gi_si, zh11, zh36, zh47]; rfl) | (simp_all (decide := true) [b2i, gi_si]; done))
        · refine V_aload_n C dX7_load_50 rfl 1 rfl ?_
          refine V_get (v := .ref (h 5)) C dX7_load_51 hi7 0 (cw_a rfl) rfl 3 (by decide) (List.mem_of_getElem? (i := 2) rfl) rfl rfl ?_
          refine V_lload_n C dX7_load_54 rfl 0 rfl ?_
          refine V_calliV C dX7_load_55 5 (cw_a rfl) rfl (c_X0_natAt l D K (cw K h u) 5 6 7 (h 5) (h 6) (h 7) 32 (cL u 0) (cZ u 0) (cw_a rfl) (cw_a rfl) (cw_a rfl) (by decide) (rVal u (iB I))) gX7_load_X0_natAt rfl 1 rfl (by decide +kernel) (by decide) ⟨Nat.le_of_ble_eq_true rfl, Nat.le_of_ble_eq_true rfl⟩ rfl (Nat.le_of_ble_eq_true rfl) (det0 ?_)
          refine V_ifz_eq (tgt := 65) C dX7_load_58 (by decide) (fun zh58 => ?_) (fun zh58 => ?_)
          · refine V_iconst (v := 0) C dX7_load_65 (by decide) ?_
            refine V_sub [0, 1, 2] rfl ?_
            exact zj66 false (by first | rfl | (simp (decide := true) [b2i, gi_si, zh11, zh36, zh47, zh58]; done) | (simp (decide := true) [b2i, gi_si, zh11, zh36, zh47, zh58]; rfl) | (simp_all (decide := true) [b2i, gi_si]; done))
          · refine V_iconst (v := 1) C dX7_load_61 (by decide) ?_
            refine V_goto (tgt := 66) C dX7_load_62 (by decide) ?_
            refine V_sub [0, 1, 2] rfl ?_
            exact zj66 true (by first | rfl | (simp (decide := true) [b2i, gi_si, zh11, zh36, zh47, zh58]; done) | (simp (decide := true) [b2i, gi_si, zh11, zh36, zh47, zh58]; rfl) | (simp_all (decide := true) [b2i, gi_si]; done))
      intro xz e_xz
      refine V_istore (lv' := [(4, .int (b2i xz)), (2, .long (rVal u (iB I))), (0, .ref (h 0)), (1, .ref ai)]) C dX7_load_66 (by decide) rfl ?_
      refine V_aload_n C dX7_load_68 rfl 2 rfl ?_
      refine V_get (v := .ref (h 2)) C dX7_load_69 hi7 0 (cw_a rfl) rfl 1 (by decide) (List.mem_of_getElem? (i := 1) rfl) rfl rfl ?_
      refine V_aload_n C dX7_load_72 rfl 3 rfl ?_
      refine V_getN (v := .int (iA I)) C gn hg dX7_load_73 hi3 (63 + i9) (cw_p (x := (ai, I)) hI) rfl 2 (by decide) (List.mem_of_getElem? (i := 28) rfl) rfl rfl ?_
      refine V_aload_n C dX7_load_76 rfl 2 rfl ?_
      refine V_get (v := .ref (h 5)) C dX7_load_77 hi7 0 (cw_a rfl) rfl 3 (by decide) (List.mem_of_getElem? (i := 2) rfl) rfl rfl ?_
      refine V_lload_n C dX7_load_80 rfl 1 rfl ?_
      refine V_calllV C dX7_load_81 5 (cw_a rfl) rfl (c_X0_valueAt l D K (cw K h u) 5 6 7 (h 5) (h 6) (h 7) 32 (cL u 0) (cZ u 0) (cw_a rfl) (cw_a rfl) (cw_a rfl) (by decide) (rVal u (iB I))) gX7_load_X0_valueAt rfl 1 rfl (by decide +kernel) (by decide) ⟨Nat.le_of_ble_eq_true rfl, Nat.le_of_ble_eq_true rfl⟩ rfl (Nat.le_of_ble_eq_true rfl) (det0 ?_)
      refine V_iload C dX7_load_84 0 rfl ?_
      refine V_gcallvV C go hg dX7_load_86 2 (cw_a rfl) rfl (c_X6_write l D K G tb ga9 h u (iA I) (cVal 32 (cL u 0) (rVal u (iB I))) xz hC) gX7_load_X6_write rfl 3 rfl (by decide +kernel) (by decide) ⟨Nat.le_of_ble_eq_true rfl, Nat.le_of_ble_eq_true rfl⟩ rfl (Nat.le_of_ble_eq_true rfl) (det1 ?_)
      refine V_iconst (v := (-1)) C dX7_load_89 (by decide) ?_
      exact E (-1) (rWr u (iA I) (cVal 32 (cL u 0) (rVal u (iB I))) xz) _ _ dX7_load_90 rfl ⟨by unfold dLoad; rw [if_neg (by rw [zh11]; decide), if_neg (by rw [zh36]; decide)], by unfold dLoad; rw [if_neg (by rw [zh11]; decide), if_neg (by rw [zh36]; decide), ← e_xz]⟩
    · refine V_iconst (v := 2) C dX7_load_39 (by decide) ?_
      exact E 2 u _ _ dX7_load_40 rfl ⟨by unfold dLoad; rw [if_neg (by rw [zh11]; decide), if_pos zh36], by unfold dLoad; rw [if_neg (by rw [zh11]; decide), if_pos zh36]⟩
  · refine V_iconst (v := 3) C dX7_load_14 (by decide) ?_
    exact E 3 u _ _ dX7_load_15 rfl ⟨by unfold dLoad; rw [if_pos zh11], by unfold dLoad; rw [if_pos zh11]⟩

set_option maxHeartbeats 4000000 in
set_option maxRecDepth 100000 in
theorem c_X7_advance (l : Launch) (D : va_G) (K : Nat → ClassId) (G : gE) (tb : Nat → Nat) (ga9 : gAll G tb) (h : Nat → Nat) (u : CS) (i9 ai : Nat) (I : I6) (hI : (cP u)[i9]? = some (ai, I)) (hC : cC u < 41) : gMi l D vwCl (tys0 K) G yX7_advance wsX7_advance ({ frames := 3, cells := 0, slots := 0, locals := 71 } : Room) [.ref (h 0), .ref ai] (cw K h u) (cw K h) (fun r9 u9 => r9 = -1 ∧ u9 = dAdv u I) := by
  refine gMi_of (cc := cX7_advance) (nL := 4) (rt := .int) (by decide) rfl (Nat.le_of_ble_eq_true rfl) ?_
  intro X C hg E
  show V X 0 0 (cw K h u) 0 [(0, .ref (h 0)), (1, .ref ai)] []
  have go := ga9.1
  have gn := ga9.2.1
  have gt := ga9.2.2
  have hi7 : ∀ w ∈ wsX70, w ∈ wsX7_advance := fun _ h => List.mem_cons_of_mem _ (List.mem_append_left _ (List.mem_append_left _ (List.mem_append_left _ (List.mem_append_left _ (List.mem_append_right _ h)))))
  have hi3 : ∀ w ∈ wsX30, w ∈ wsX7_advance := fun _ h => List.mem_cons_of_mem _ (List.mem_append_left _ (List.mem_append_left _ (List.mem_append_left _ (List.mem_append_right _ h))))
  refine V_aload_n C dX7_advance_0 rfl 0 rfl ?_
  refine V_get (v := .ref (h 2)) C dX7_advance_1 hi7 0 (cw_a rfl) rfl 1 (by decide) (List.mem_of_getElem? (i := 1) rfl) rfl rfl ?_
  refine V_aload_n C dX7_advance_4 rfl 1 rfl ?_
  refine V_getN (v := .int (iB I)) C gn hg dX7_advance_5 hi3 (63 + i9) (cw_p (x := (ai, I)) hI) rfl 3 (by decide) (List.mem_of_getElem? (i := 30) rfl) rfl rfl ?_
  refine V_gcalllV C go hg dX7_advance_8 2 (cw_a rfl) rfl (c_X6_valueOf l D K G tb ga9 h u (iB I) hC) gX7_advance_X6_valueOf rfl 1 rfl (by decide +kernel) (by decide) ⟨Nat.le_of_ble_eq_true rfl, Nat.le_of_ble_eq_true rfl⟩ rfl (Nat.le_of_ble_eq_true rfl) (det2 ?_)
  refine V_lstore_n (lv' := [(2, .long (rVal u (iB I))), (0, .ref (h 0)), (1, .ref ai)]) C dX7_advance_11 rfl (by decide) rfl ?_
  refine V_aload_n C dX7_advance_12 rfl 1 rfl ?_
  refine V_get (v := .ref (h 2)) C dX7_advance_13 hi7 0 (cw_a rfl) rfl 1 (by decide) (List.mem_of_getElem? (i := 1) rfl) rfl rfl ?_
  refine V_aload_n C dX7_advance_16 rfl 2 rfl ?_
  refine V_getN (v := .int (iB I)) C gn hg dX7_advance_17 hi3 (63 + i9) (cw_p (x := (ai, I)) hI) rfl 3 (by decide) (List.mem_of_getElem? (i := 30) rfl) rfl rfl ?_
  refine V_gcalliV C go hg dX7_advance_20 2 (cw_a rfl) rfl (c_X6_natOf l D K G tb ga9 h u (iB I) hC) gX7_advance_X6_natOf rfl 1 rfl (by decide +kernel) (by decide) ⟨Nat.le_of_ble_eq_true rfl, Nat.le_of_ble_eq_true rfl⟩ rfl (Nat.le_of_ble_eq_true rfl) (det2 ?_)
  refine V_ifz_ne (tgt := 37) C dX7_advance_23 (by decide) (fun zh23 => ?_) (fun zh23 => ?_)
  · refine V_aload_n C dX7_advance_37 rfl 1 rfl ?_
    refine V_get (v := .ref (h 2)) C dX7_advance_38 hi7 0 (cw_a rfl) rfl 1 (by decide) (List.mem_of_getElem? (i := 1) rfl) rfl rfl ?_
    refine V_aload_n C dX7_advance_41 rfl 2 rfl ?_
    refine V_getN (v := .int (iA I)) C gn hg dX7_advance_42 hi3 (63 + i9) (cw_p (x := (ai, I)) hI) rfl 2 (by decide) (List.mem_of_getElem? (i := 28) rfl) rfl rfl ?_
    refine V_lconst (v := 0) C dX7_advance_45 (by decide) ?_
    refine V_iconst (v := 1) C dX7_advance_46 (by decide) ?_
    refine V_gcallvV C go hg dX7_advance_47 2 (cw_a rfl) rfl (c_X6_write l D K G tb ga9 h u (iA I) 0 true hC) gX7_advance_X6_write rfl 3 rfl (by decide +kernel) (by decide) ⟨Nat.le_of_ble_eq_true rfl, Nat.le_of_ble_eq_true rfl⟩ rfl (Nat.le_of_ble_eq_true rfl) (det1 ?_)
    refine V_goto (tgt := 73) C dX7_advance_50 (by decide) ?_
    refine V_iconst (v := (-1)) C dX7_advance_73 (by decide) ?_
    exact E (-1) (rWr u (iA I) 0 true) _ _ dX7_advance_74 rfl ⟨rfl, by unfold dAdv; rw [if_pos (Or.inl zh23)]⟩
  · refine V_aload_n C dX7_advance_26 rfl 1 rfl ?_
    refine V_get (v := .ref (h 5)) C dX7_advance_27 hi7 0 (cw_a rfl) rfl 3 (by decide) (List.mem_of_getElem? (i := 2) rfl) rfl rfl ?_
    refine V_lload_n C dX7_advance_30 rfl 0 rfl ?_
    refine V_calliV C dX7_advance_31 5 (cw_a rfl) rfl (c_X0_has l D K (cw K h u) 5 6 7 (h 5) (h 6) (h 7) 32 (cL u 0) (cZ u 0) (cw_a rfl) (cw_a rfl) (cw_a rfl) (by decide) (rVal u (iB I))) gX7_advance_X0_has rfl 1 rfl (by decide +kernel) (by decide) ⟨Nat.le_of_ble_eq_true rfl, Nat.le_of_ble_eq_true rfl⟩ rfl (Nat.le_of_ble_eq_true rfl) (det0 ?_)
    refine V_ifz_ne (tgt := 53) C dX7_advance_34 (by decide) (fun zh34 => ?_) (fun zh34 => ?_)
    · refine V_aload_n C dX7_advance_53 rfl 1 rfl ?_
      refine V_get (v := .ref (h 2)) C dX7_advance_54 hi7 0 (cw_a rfl) rfl 1 (by decide) (List.mem_of_getElem? (i := 1) rfl) rfl rfl ?_
      refine V_aload_n C dX7_advance_57 rfl 2 rfl ?_
      refine V_getN (v := .int (iA I)) C gn hg dX7_advance_58 hi3 (63 + i9) (cw_p (x := (ai, I)) hI) rfl 2 (by decide) (List.mem_of_getElem? (i := 28) rfl) rfl rfl ?_
      refine V_aload_n C dX7_advance_61 rfl 1 rfl ?_
      refine V_get (v := .ref (h 5)) C dX7_advance_62 hi7 0 (cw_a rfl) rfl 3 (by decide) (List.mem_of_getElem? (i := 2) rfl) rfl rfl ?_
      refine V_lload_n C dX7_advance_65 rfl 0 rfl ?_
      refine V_calllV C dX7_advance_66 5 (cw_a rfl) rfl (c_X0_valueAt l D K (cw K h u) 5 6 7 (h 5) (h 6) (h 7) 32 (cL u 0) (cZ u 0) (cw_a rfl) (cw_a rfl) (cw_a rfl) (by decide) (rVal u (iB I))) gX7_advance_X0_valueAt rfl 1 rfl (by decide +kernel) (by decide) ⟨Nat.le_of_ble_eq_true rfl, Nat.le_of_ble_eq_true rfl⟩ rfl (Nat.le_of_ble_eq_true rfl) (det0 ?_)
      refine V_iconst (v := 0) C dX7_advance_69 (by decide) ?_
      refine V_gcallvV C go hg dX7_advance_70 2 (cw_a rfl) rfl (c_X6_write l D K G tb ga9 h u (iA I) (cVal 32 (cL u 0) (rVal u (iB I))) false hC) gX7_advance_X6_write rfl 3 rfl (by decide +kernel) (by decide) ⟨Nat.le_of_ble_eq_true rfl, Nat.le_of_ble_eq_true rfl⟩ rfl (Nat.le_of_ble_eq_true rfl) (det1 ?_)
      refine V_iconst (v := (-1)) C dX7_advance_73 (by decide) ?_
      exact E (-1) (rWr u (iA I) (cVal 32 (cL u 0) (rVal u (iB I))) false) _ _ dX7_advance_74 rfl ⟨rfl, by unfold dAdv; rw [if_neg (fun q => q.elim (fun q => absurd (zh23.symm.trans q) (by decide)) (fun q => absurd (zh34.symm.trans q) (by decide)))]⟩
    · refine V_aload_n C dX7_advance_37 rfl 1 rfl ?_
      refine V_get (v := .ref (h 2)) C dX7_advance_38 hi7 0 (cw_a rfl) rfl 1 (by decide) (List.mem_of_getElem? (i := 1) rfl) rfl rfl ?_
      refine V_aload_n C dX7_advance_41 rfl 2 rfl ?_
      refine V_getN (v := .int (iA I)) C gn hg dX7_advance_42 hi3 (63 + i9) (cw_p (x := (ai, I)) hI) rfl 2 (by decide) (List.mem_of_getElem? (i := 28) rfl) rfl rfl ?_
      refine V_lconst (v := 0) C dX7_advance_45 (by decide) ?_
      refine V_iconst (v := 1) C dX7_advance_46 (by decide) ?_
      refine V_gcallvV C go hg dX7_advance_47 2 (cw_a rfl) rfl (c_X6_write l D K G tb ga9 h u (iA I) 0 true hC) gX7_advance_X6_write rfl 3 rfl (by decide +kernel) (by decide) ⟨Nat.le_of_ble_eq_true rfl, Nat.le_of_ble_eq_true rfl⟩ rfl (Nat.le_of_ble_eq_true rfl) (det1 ?_)
      refine V_goto (tgt := 73) C dX7_advance_50 (by decide) ?_
      refine V_iconst (v := (-1)) C dX7_advance_73 (by decide) ?_
      exact E (-1) (rWr u (iA I) 0 true) _ _ dX7_advance_74 rfl ⟨rfl, by unfold dAdv; rw [if_pos (Or.inr zh34)]⟩

set_option maxHeartbeats 4000000 in
set_option maxRecDepth 100000 in
theorem c_X7_store (l : Launch) (D : va_G) (K : Nat → ClassId) (G : gE) (tb : Nat → Nat) (ga9 : gAll G tb) (h : Nat → Nat) (u : CS) (i9 ai : Nat) (I : I6) (hI : (cP u)[i9]? = some (ai, I)) (hC : cC u < 41) : gMi l D vwCl (tys0 K) G yX7_store wsX7_store ({ frames := 3, cells := 0, slots := 0, locals := 65 } : Room) [.ref (h 0), .ref ai] (cw K h u) (cw K h) (fun r9 u9 => r9 = (dSto u I).1 ∧ u9 = (dSto u I).2) := by
  refine gMi_of (cc := cX7_store) (nL := 5) (rt := .int) (by decide) rfl (Nat.le_of_ble_eq_true rfl) ?_
  intro X C hg E
  show V X 0 0 (cw K h u) 0 [(0, .ref (h 0)), (1, .ref ai)] []
  have go := ga9.1
  have gn := ga9.2.1
  have gt := ga9.2.2
  have hi7 : ∀ w ∈ wsX70, w ∈ wsX7_store := fun _ h => List.mem_cons_of_mem _ (List.mem_append_left _ (List.mem_append_left _ (List.mem_append_left _ (List.mem_append_left _ (List.mem_append_right _ h)))))
  have hi3 : ∀ w ∈ wsX30, w ∈ wsX7_store := fun _ h => List.mem_cons_of_mem _ (List.mem_append_left _ (List.mem_append_left _ (List.mem_append_left _ (List.mem_append_right _ h))))
  refine V_aload_n C dX7_store_0 rfl 0 rfl ?_
  refine V_get (v := .ref (h 2)) C dX7_store_1 hi7 0 (cw_a rfl) rfl 1 (by decide) (List.mem_of_getElem? (i := 1) rfl) rfl rfl ?_
  refine V_aload_n C dX7_store_4 rfl 1 rfl ?_
  refine V_getN (v := .int (iB I)) C gn hg dX7_store_5 hi3 (63 + i9) (cw_p (x := (ai, I)) hI) rfl 3 (by decide) (List.mem_of_getElem? (i := 30) rfl) rfl rfl ?_
  refine V_gcalliV C go hg dX7_store_8 2 (cw_a rfl) rfl (c_X6_natOf l D K G tb ga9 h u (iB I) hC) gX7_store_X6_natOf rfl 1 rfl (by decide +kernel) (by decide) ⟨Nat.le_of_ble_eq_true rfl, Nat.le_of_ble_eq_true rfl⟩ rfl (Nat.le_of_ble_eq_true rfl) (det2 ?_)
  refine V_istore_n (lv' := [(2, .int (b2i (rNat u (iB I)))), (0, .ref (h 0)), (1, .ref ai)]) C dX7_store_11 rfl (by decide) rfl ?_
  refine V_aload_n C dX7_store_12 rfl 1 rfl ?_
  refine V_get (v := .ref (h 2)) C dX7_store_13 hi7 0 (cw_a rfl) rfl 1 (by decide) (List.mem_of_getElem? (i := 1) rfl) rfl rfl ?_
  refine V_aload_n C dX7_store_16 rfl 2 rfl ?_
  refine V_getN (v := .int (iA I)) C gn hg dX7_store_17 hi3 (63 + i9) (cw_p (x := (ai, I)) hI) rfl 2 (by decide) (List.mem_of_getElem? (i := 28) rfl) rfl rfl ?_
  refine V_gcalliV C go hg dX7_store_20 2 (cw_a rfl) rfl (c_X6_natOf l D K G tb ga9 h u (iA I) hC) gX7_store_X6_natOf rfl 1 rfl (by decide +kernel) (by decide) ⟨Nat.le_of_ble_eq_true rfl, Nat.le_of_ble_eq_true rfl⟩ rfl (Nat.le_of_ble_eq_true rfl) (det2 ?_)
  refine V_ifz_ne (tgt := 39) C dX7_store_23 (by decide) (fun zh23 => ?_) (fun zh23 => ?_)
  · refine V_iconst (v := 3) C dX7_store_39 (by decide) ?_
    exact E 3 u _ _ dX7_store_40 rfl ⟨by unfold dSto; rw [if_pos (Or.inl zh23)], by unfold dSto; rw [if_pos (Or.inl zh23)]⟩
  · refine V_aload_n C dX7_store_26 rfl 2 rfl ?_
    refine V_getN (v := .int (iO I)) C gn hg dX7_store_27 hi3 (63 + i9) (cw_p (x := (ai, I)) hI) rfl 0 (by decide) (List.mem_of_getElem? (i := 25) rfl) rfl rfl ?_
    refine V_bipush (v := 10) C dX7_store_30 (by decide) ?_
    refine V_icmp_ne (tgt := 41) C dX7_store_32 (by decide) (fun zh32 => ?_) (fun zh32 => ?_)
    · refine V_aload_n C dX7_store_41 rfl 1 rfl ?_
      refine V_get (v := .ref (h 2)) C dX7_store_42 hi7 0 (cw_a rfl) rfl 1 (by decide) (List.mem_of_getElem? (i := 1) rfl) rfl rfl ?_
      refine V_aload_n C dX7_store_45 rfl 2 rfl ?_
      refine V_getN (v := .int (iA I)) C gn hg dX7_store_46 hi3 (63 + i9) (cw_p (x := (ai, I)) hI) rfl 2 (by decide) (List.mem_of_getElem? (i := 28) rfl) rfl rfl ?_
      refine V_gcalllV C go hg dX7_store_49 2 (cw_a rfl) rfl (c_X6_valueOf l D K G tb ga9 h u (iA I) hC) gX7_store_X6_valueOf rfl 1 rfl (by decide +kernel) (by decide) ⟨Nat.le_of_ble_eq_true rfl, Nat.le_of_ble_eq_true rfl⟩ rfl (Nat.le_of_ble_eq_true rfl) (det2 ?_)
      refine V_lstore_n (lv' := [(3, .long (rVal u (iA I))), (2, .int (b2i (rNat u (iB I)))), (0, .ref (h 0)), (1, .ref ai)]) C dX7_store_52 rfl (by decide) rfl ?_
      refine V_aload_n C dX7_store_53 rfl 2 rfl ?_
      refine V_get (v := .ref (h 5)) C dX7_store_54 hi7 0 (cw_a rfl) rfl 3 (by decide) (List.mem_of_getElem? (i := 2) rfl) rfl rfl ?_
      refine V_lload_n C dX7_store_57 rfl 0 rfl ?_
      refine V_calliV C dX7_store_58 5 (cw_a rfl) rfl (c_X0_has l D K (cw K h u) 5 6 7 (h 5) (h 6) (h 7) 32 (cL u 0) (cZ u 0) (cw_a rfl) (cw_a rfl) (cw_a rfl) (by decide) (rVal u (iA I))) gX7_store_X0_has rfl 1 rfl (by decide +kernel) (by decide) ⟨Nat.le_of_ble_eq_true rfl, Nat.le_of_ble_eq_true rfl⟩ rfl (Nat.le_of_ble_eq_true rfl) (det0 ?_)
      refine V_ifz_ne (tgt := 66) C dX7_store_61 (by decide) (fun zh61 => ?_) (fun zh61 => ?_)
      · refine V_aload_n C dX7_store_66 rfl 2 rfl ?_
        refine V_get (v := .ref (h 5)) C dX7_store_67 hi7 0 (cw_a rfl) rfl 3 (by decide) (List.mem_of_getElem? (i := 2) rfl) rfl rfl ?_
        refine V_lload_n C dX7_store_70 rfl 0 rfl ?_
        refine V_aload_n C dX7_store_71 rfl 2 rfl ?_
        refine V_get (v := .ref (h 2)) C dX7_store_72 hi7 0 (cw_a rfl) rfl 1 (by decide) (List.mem_of_getElem? (i := 1) rfl) rfl rfl ?_
        refine V_aload_n C dX7_store_75 rfl 3 rfl ?_
        refine V_getN (v := .int (iB I)) C gn hg dX7_store_76 hi3 (63 + i9) (cw_p (x := (ai, I)) hI) rfl 3 (by decide) (List.mem_of_getElem? (i := 30) rfl) rfl rfl ?_
        refine V_gcalllV C go hg dX7_store_79 2 (cw_a rfl) rfl (c_X6_valueOf l D K G tb ga9 h u (iB I) hC) gX7_store_X6_valueOf rfl 1 rfl (by decide +kernel) (by decide) ⟨Nat.le_of_ble_eq_true rfl, Nat.le_of_ble_eq_true rfl⟩ rfl (Nat.le_of_ble_eq_true rfl) (det2 ?_)
        refine V_iload_n C dX7_store_82 rfl 1 rfl ?_
        refine V_callvV C dX7_store_83 5 (cw_a rfl) rfl (c_X0_write l D K (cw K h u) 5 6 7 (h 5) (h 6) (h 7) 32 (cL u 0) (cZ u 0) (cw_a rfl) (cw_a rfl) (cw_a rfl) (by decide) (rVal u (iA I)) (rVal u (iB I)) (rNat u (iB I))) gX7_store_X0_write rfl 3 rfl (by decide +kernel) (by decide) ⟨Nat.le_of_ble_eq_true rfl, Nat.le_of_ble_eq_true rfl⟩ rfl (Nat.le_of_ble_eq_true rfl) (detv ?_)
        refine V_ws (cw_L0 K h u (cWv 32 (cL u 0) (rVal u (iA I)) (rVal u (iB I))) (cWn 32 (cZ u 0) (rVal u (iA I)) (rNat u (iB I)))) ?_
        refine V_iconst (v := (-1)) C dX7_store_86 (by decide) ?_
        exact E (-1) (tL u 0 (cWv 32 (cL u 0) (rVal u (iA I)) (rVal u (iB I))) (cWn 32 (cZ u 0) (rVal u (iA I)) (rNat u (iB I)))) _ _ dX7_store_87 rfl ⟨by unfold dSto; rw [if_neg (fun q => q.elim (fun q => absurd (zh23.symm.trans q) (by decide)) (fun q => zh32 q.1)), if_neg (by rw [zh61]; decide)], by unfold dSto; rw [if_neg (fun q => q.elim (fun q => absurd (zh23.symm.trans q) (by decide)) (fun q => zh32 q.1)), if_neg (by rw [zh61]; decide)]⟩
      · refine V_iconst (v := 2) C dX7_store_64 (by decide) ?_
        exact E 2 u _ _ dX7_store_65 rfl ⟨by unfold dSto; rw [if_neg (fun q => q.elim (fun q => absurd (zh23.symm.trans q) (by decide)) (fun q => zh32 q.1)), if_pos zh61], by unfold dSto; rw [if_neg (fun q => q.elim (fun q => absurd (zh23.symm.trans q) (by decide)) (fun q => zh32 q.1)), if_pos zh61]⟩
    · refine V_iload_n C dX7_store_35 rfl 0 rfl ?_
      refine V_ifz_eq (tgt := 41) C dX7_store_36 (by decide) (fun zh36 => ?_) (fun zh36 => ?_)
      · refine V_aload_n C dX7_store_41 rfl 1 rfl ?_
        refine V_get (v := .ref (h 2)) C dX7_store_42 hi7 0 (cw_a rfl) rfl 1 (by decide) (List.mem_of_getElem? (i := 1) rfl) rfl rfl ?_
        refine V_aload_n C dX7_store_45 rfl 2 rfl ?_
        refine V_getN (v := .int (iA I)) C gn hg dX7_store_46 hi3 (63 + i9) (cw_p (x := (ai, I)) hI) rfl 2 (by decide) (List.mem_of_getElem? (i := 28) rfl) rfl rfl ?_
        refine V_gcalllV C go hg dX7_store_49 2 (cw_a rfl) rfl (c_X6_valueOf l D K G tb ga9 h u (iA I) hC) gX7_store_X6_valueOf rfl 1 rfl (by decide +kernel) (by decide) ⟨Nat.le_of_ble_eq_true rfl, Nat.le_of_ble_eq_true rfl⟩ rfl (Nat.le_of_ble_eq_true rfl) (det2 ?_)
        refine V_lstore_n (lv' := [(3, .long (rVal u (iA I))), (2, .int (b2i (rNat u (iB I)))), (0, .ref (h 0)), (1, .ref ai)]) C dX7_store_52 rfl (by decide) rfl ?_
        refine V_aload_n C dX7_store_53 rfl 2 rfl ?_
        refine V_get (v := .ref (h 5)) C dX7_store_54 hi7 0 (cw_a rfl) rfl 3 (by decide) (List.mem_of_getElem? (i := 2) rfl) rfl rfl ?_
        refine V_lload_n C dX7_store_57 rfl 0 rfl ?_
        refine V_calliV C dX7_store_58 5 (cw_a rfl) rfl (c_X0_has l D K (cw K h u) 5 6 7 (h 5) (h 6) (h 7) 32 (cL u 0) (cZ u 0) (cw_a rfl) (cw_a rfl) (cw_a rfl) (by decide) (rVal u (iA I))) gX7_store_X0_has rfl 1 rfl (by decide +kernel) (by decide) ⟨Nat.le_of_ble_eq_true rfl, Nat.le_of_ble_eq_true rfl⟩ rfl (Nat.le_of_ble_eq_true rfl) (det0 ?_)
        refine V_ifz_ne (tgt := 66) C dX7_store_61 (by decide) (fun zh61 => ?_) (fun zh61 => ?_)
        · refine V_aload_n C dX7_store_66 rfl 2 rfl ?_
          refine V_get (v := .ref (h 5)) C dX7_store_67 hi7 0 (cw_a rfl) rfl 3 (by decide) (List.mem_of_getElem? (i := 2) rfl) rfl rfl ?_
          refine V_lload_n C dX7_store_70 rfl 0 rfl ?_
          refine V_aload_n C dX7_store_71 rfl 2 rfl ?_
          refine V_get (v := .ref (h 2)) C dX7_store_72 hi7 0 (cw_a rfl) rfl 1 (by decide) (List.mem_of_getElem? (i := 1) rfl) rfl rfl ?_
          refine V_aload_n C dX7_store_75 rfl 3 rfl ?_
          refine V_getN (v := .int (iB I)) C gn hg dX7_store_76 hi3 (63 + i9) (cw_p (x := (ai, I)) hI) rfl 3 (by decide) (List.mem_of_getElem? (i := 30) rfl) rfl rfl ?_
          refine V_gcalllV C go hg dX7_store_79 2 (cw_a rfl) rfl (c_X6_valueOf l D K G tb ga9 h u (iB I) hC) gX7_store_X6_valueOf rfl 1 rfl (by decide +kernel) (by decide) ⟨Nat.le_of_ble_eq_true rfl, Nat.le_of_ble_eq_true rfl⟩ rfl (Nat.le_of_ble_eq_true rfl) (det2 ?_)
          refine V_iload_n C dX7_store_82 rfl 1 rfl ?_
          refine V_callvV C dX7_store_83 5 (cw_a rfl) rfl (c_X0_write l D K (cw K h u) 5 6 7 (h 5) (h 6) (h 7) 32 (cL u 0) (cZ u 0) (cw_a rfl) (cw_a rfl) (cw_a rfl) (by decide) (rVal u (iA I)) (rVal u (iB I)) (rNat u (iB I))) gX7_store_X0_write rfl 3 rfl (by decide +kernel) (by decide) ⟨Nat.le_of_ble_eq_true rfl, Nat.le_of_ble_eq_true rfl⟩ rfl (Nat.le_of_ble_eq_true rfl) (detv ?_)
          refine V_ws (cw_L0 K h u (cWv 32 (cL u 0) (rVal u (iA I)) (rVal u (iB I))) (cWn 32 (cZ u 0) (rVal u (iA I)) (rNat u (iB I)))) ?_
          refine V_iconst (v := (-1)) C dX7_store_86 (by decide) ?_
          exact E (-1) (tL u 0 (cWv 32 (cL u 0) (rVal u (iA I)) (rVal u (iB I))) (cWn 32 (cZ u 0) (rVal u (iA I)) (rNat u (iB I)))) _ _ dX7_store_87 rfl ⟨by unfold dSto; rw [if_neg (fun q => q.elim (fun q => absurd (zh23.symm.trans q) (by decide)) (fun q => absurd (zh36.symm.trans q.2) (by decide))), if_neg (by rw [zh61]; decide)], by unfold dSto; rw [if_neg (fun q => q.elim (fun q => absurd (zh23.symm.trans q) (by decide)) (fun q => absurd (zh36.symm.trans q.2) (by decide))), if_neg (by rw [zh61]; decide)]⟩
        · refine V_iconst (v := 2) C dX7_store_64 (by decide) ?_
          exact E 2 u _ _ dX7_store_65 rfl ⟨by unfold dSto; rw [if_neg (fun q => q.elim (fun q => absurd (zh23.symm.trans q) (by decide)) (fun q => absurd (zh36.symm.trans q.2) (by decide))), if_pos zh61], by unfold dSto; rw [if_neg (fun q => q.elim (fun q => absurd (zh23.symm.trans q) (by decide)) (fun q => absurd (zh36.symm.trans q.2) (by decide))), if_pos zh61]⟩
      · refine V_iconst (v := 3) C dX7_store_39 (by decide) ?_
        exact E 3 u _ _ dX7_store_40 rfl ⟨by unfold dSto; rw [if_pos (Or.inr ⟨zh32, zh36⟩)], by unfold dSto; rw [if_pos (Or.inr ⟨zh32, zh36⟩)]⟩

set_option maxHeartbeats 4000000 in
set_option maxRecDepth 100000 in
theorem c_X7_beginAnew (l : Launch) (D : va_G) (K : Nat → ClassId) (G : gE) (tb : Nat → Nat) (ga9 : gAll G tb) (h : Nat → Nat) (u : CS)  (hC : cC u < 41) : gMv l D vwCl (tys0 K) G yX7_beginAnew wsX7_beginAnew ({ frames := 4, cells := 0, slots := 0, locals := 90 } : Room) [.ref (h 0)] (cw K h u) (cw K h) (fun u9 => u9 = dNew u) := by
  refine gMv_of (cc := cX7_beginAnew) (nL := 1) (by decide) rfl (Nat.le_of_ble_eq_true rfl) ?_
  intro X C hg E
  show V X 0 0 (cw K h u) 0 [(0, .ref (h 0))] []
  have go := ga9.1
  have gn := ga9.2.1
  have gt := ga9.2.2
  have hi7 : ∀ w ∈ wsX70, w ∈ wsX7_beginAnew := fun _ h => List.mem_cons_of_mem _ (List.mem_append_left _ (List.mem_append_left _ (List.mem_append_left _ (List.mem_append_left _ (List.mem_append_right _ h)))))
  refine V_aload_n C dX7_beginAnew_0 rfl 0 rfl ?_
  refine V_get (v := .ref (h 2)) C dX7_beginAnew_1 hi7 0 (cw_a rfl) rfl 1 (by decide) (List.mem_of_getElem? (i := 1) rfl) rfl rfl ?_
  refine V_gcallvV C go hg dX7_beginAnew_4 2 (cw_a rfl) rfl (c_X6_clearStack l D K G tb ga9 h u  hC) gX7_beginAnew_X6_clearStack rfl 0 rfl (by decide +kernel) (by decide) ⟨Nat.le_of_ble_eq_true rfl, Nat.le_of_ble_eq_true rfl⟩ rfl (Nat.le_of_ble_eq_true rfl) (det1 ?_)
  refine V_aload_n C dX7_beginAnew_7 rfl 0 rfl ?_
  refine V_get (v := .ref (h 3)) C dX7_beginAnew_8 hi7 0 (cw_a rfl) rfl 2 (by decide) (List.mem_of_getElem? (i := 2) rfl) rfl rfl ?_
  refine V_callvV C dX7_beginAnew_11 3 (cw_a rfl) rfl (c_X5_clear l D K (cw K h (rCl u)) 3 4 (h 3) (h 4) (cZ (rCl u) 4) (cw_a rfl) (cw_a rfl)) gX7_beginAnew_X5_clear rfl 0 rfl (by decide +kernel) (by decide) ⟨Nat.le_of_ble_eq_true rfl, Nat.le_of_ble_eq_true rfl⟩ rfl (Nat.le_of_ble_eq_true rfl) (detv ?_)
  refine V_ws (cw_Z K h (rCl u) (zGn (cZ (rCl u) 4) 0 16)) ?_
  refine V_aload_n C dX7_beginAnew_14 rfl 0 rfl ?_
  refine V_iconst (v := 0) C dX7_beginAnew_15 (by decide) ?_
  refine V_put (ws' := (cw K h (tI (tZ (rCl u) (zGn (cZ (rCl u) 4) 0 16)) 4 0))) C dX7_beginAnew_16 hi7 tyX7_ok nmX7 0 (cw_a rfl) rfl 6 (by decide) (List.mem_of_getElem? (i := 3) rfl) rfl rfl rfl rfl rfl (Nat.le_of_ble_eq_true rfl) (cw_sa (by decide) rfl rfl rfl) ?_
  refine V_aload_n C dX7_beginAnew_19 rfl 0 rfl ?_
  refine V_iconst (v := 0) C dX7_beginAnew_20 (by decide) ?_
  refine V_put (ws' := (cw K h (tE (tI (tZ (rCl u) (zGn (cZ (rCl u) 4) 0 16)) 4 0) false))) C dX7_beginAnew_21 hi7 tyX7_ok nmX7 0 (cw_a rfl) rfl 7 (by decide) (List.mem_of_getElem? (i := 4) rfl) rfl rfl rfl rfl rfl (Nat.le_of_ble_eq_true rfl) (cw_sa (by decide) rfl rfl rfl) ?_
  refine V_aload_n C dX7_beginAnew_24 rfl 0 rfl ?_
  refine V_iconst (v := 0) C dX7_beginAnew_25 (by decide) ?_
  refine V_put (ws' := (cw K h (tI (tE (tI (tZ (rCl u) (zGn (cZ (rCl u) 4) 0 16)) 4 0) false) 5 0))) C dX7_beginAnew_26 hi7 tyX7_ok nmX7 0 (cw_a rfl) rfl 8 (by decide) (List.mem_of_getElem? (i := 5) rfl) rfl rfl rfl rfl rfl (Nat.le_of_ble_eq_true rfl) (cw_sa (by decide) rfl rfl rfl) ?_
  refine V_aload_n C dX7_beginAnew_29 rfl 0 rfl ?_
  refine V_iconst (v := 0) C dX7_beginAnew_30 (by decide) ?_
  refine V_put (ws' := (cw K h (tI (tI (tE (tI (tZ (rCl u) (zGn (cZ (rCl u) 4) 0 16)) 4 0) false) 5 0) 6 0))) C dX7_beginAnew_31 hi7 tyX7_ok nmX7 0 (cw_a rfl) rfl 9 (by decide) (List.mem_of_getElem? (i := 6) rfl) rfl rfl rfl rfl rfl (Nat.le_of_ble_eq_true rfl) (cw_sa (by decide) rfl rfl rfl) ?_
  exact E (tI (tI (tE (tI (tZ (rCl u) (zGn (cZ (rCl u) 4) 0 16)) 4 0) false) 5 0) 6 0) _ _ dX7_beginAnew_34 (rfl)

