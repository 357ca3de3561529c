set_option maxHeartbeats 4000000 in
set_option maxRecDepth 100000 in
theorem c_X7_fault (l : Launch) (hlf : l.stackTraces = false) (D : va_G) (K : Nat → ClassId) (G : gE) (tb : Nat → Nat) (ga9 : gAll G tb) (gx : gXc G) (h : Nat → Nat) (u : CS) (xw : Int32)  : xMi l D vwCl (tys0 K) G yX7_fault wsX7_fault ({ frames := 6, cells := 1, slots := 6, locals := 82 } : Room) [.ref (h 0), .int xw] (cw K h u) (cw K h) (fun r9 u9 => mOut xw 0 1 = false ∧ r9 = (if xw = 0 then iO (cN u) else iQ (cN u)) ∧ u9 = u) (fun E9 u9 => E9 = "java/lang/IllegalArgumentException" ∧ mOut xw 0 1 = true ∧ u9 = u) := by
  refine xMi_of (cc := cX7_fault) (nL := 2) (rt := .int) (by decide) rfl rfl (Nat.le_of_ble_eq_true rfl) gx hlf (by decide) ?_
  intro X C hg E Th
  show V X 0 0 (cw K h u) 0 [(0, .ref (h 0)), (1, .int xw)] []
  have go := ga9.1
  have gn := ga9.2.1
  have gt := ga9.2.2
  have hi7 : ∀ w ∈ wsX70, w ∈ wsX7_fault := fun _ h => List.mem_cons_of_mem _ (List.mem_append_left _ (List.mem_append_left _ (List.mem_append_right _ h)))
  have hi2 : ∀ w ∈ wsX20, w ∈ wsX7_fault := fun _ h => List.mem_cons_of_mem _ (List.mem_append_left _ (List.mem_append_right _ h))
  refine V_iload_n C dX7_fault_0 rfl 1 rfl ?_
  refine V_if_ne (tgt := 12) C dX7_fault_1 (by decide) (fun zh1 => ?_) (fun zh1 => ?_)
  · refine V_iload_n C dX7_fault_12 rfl 1 rfl ?_
    refine V_iconst (v := 1) C dX7_fault_13 (by decide) ?_
    refine V_icmp_ne (tgt := 25) C dX7_fault_14 (by decide) (fun zh14 => ?_) (fun zh14 => ?_)
    · exact Th u _ _ _ 49 98 53 "java/lang/IllegalArgumentException" "no such what" dX7_fault_25 dX7_fault_28 dX7_fault_29 dX7_fault_31 dX7_fault_34 (by decide) (by decide) (List.mem_of_getElem? (i := 1) rfl) (List.mem_of_getElem? (i := 2) rfl) (fun _ h => List.mem_cons_of_mem _ (List.mem_append_right _ h)) rfl (⟨rfl, decide_eq_true (Decidable.byContradiction (fun q => by have a1 := Int32.le_iff_toInt_le.mp (Int32.not_lt.mp (fun z => q (Or.inl z))); have a2 := Int32.le_iff_toInt_le.mp (Int32.not_lt.mp (fun z => q (Or.inr z))); have q_0 := i32ne (c := 0) 0 (by decide) zh1; have q_1 := i32ne (c := 1) 1 (by decide) zh14; have l_0 : (0 : Int32).toInt = 0 := (by decide); have l_1 : (1 : Int32).toInt = 1 := (by decide); omega)), rfl⟩)
    · refine V_aload_n C dX7_fault_17 rfl 0 rfl ?_
      refine V_get (v := .ref (h 1)) C dX7_fault_18 hi7 0 (cw_a rfl) rfl 0 (by decide) (List.mem_of_getElem? (i := 3) rfl) rfl rfl ?_
      refine V_getN (v := .int (iQ (cN u))) C gn hg dX7_fault_21 hi2 1 (cw_a rfl) rfl 1 (by decide) (List.mem_of_getElem? (i := 2) rfl) rfl rfl ?_
      exact V_widen (Nat.zero_le _) (Nat.zero_le _) (E (iQ (cN u)) u _ _ dX7_fault_24 rfl ⟨by rw [zh14]; decide, by rw [if_neg zh1], rfl⟩)
  · refine V_aload_n C dX7_fault_4 rfl 0 rfl ?_
    refine V_get (v := .ref (h 1)) C dX7_fault_5 hi7 0 (cw_a rfl) rfl 0 (by decide) (List.mem_of_getElem? (i := 3) rfl) rfl rfl ?_
    refine V_getN (v := .int (iO (cN u))) C gn hg dX7_fault_8 hi2 1 (cw_a rfl) rfl 0 (by decide) (List.mem_of_getElem? (i := 1) rfl) rfl rfl ?_
    exact V_widen (Nat.zero_le _) (Nat.zero_le _) (E (iO (cN u)) u _ _ dX7_fault_11 rfl ⟨by rw [zh1]; decide, by rw [if_pos zh1], rfl⟩)

set_option maxHeartbeats 4000000 in
set_option maxRecDepth 100000 in
theorem c_X7_set (l : Launch) (hlf : l.stackTraces = false) (D : va_G) (K : Nat → ClassId) (G : gE) (tb : Nat → Nat) (ga9 : gAll G tb) (gx : gXc G) (h : Nat → Nat) (u : CS) (xr : Int32) (xv : Int64) (hC : cC u < 41) : xMv l D vwCl (tys0 K) G yX7_set wsX7_set ({ frames := 6, cells := 1, slots := 6, locals := 82 } : Room) [.ref (h 0), .int xr, .long xv] (cw K h u) (cw K h) (fun u9 => mOut xr 1 7 = false ∧ u9 = rWr u xr xv false) (fun E9 u9 => E9 = "java/lang/IllegalArgumentException" ∧ mOut xr 1 7 = true ∧ u9 = u) := by
  refine xMv_of (cc := cX7_set) (nL := 4) (by decide) rfl rfl (Nat.le_of_ble_eq_true rfl) gx hlf (by decide) ?_
  intro X C hg E Th
  show V X 0 0 (cw K h u) 0 [(0, .ref (h 0)), (1, .int xr), (2, .long xv)] []
  have go := ga9.1
  have gn := ga9.2.1
  have gt := ga9.2.2
  have hi7 : ∀ w ∈ wsX70, w ∈ wsX7_set := fun _ h => List.mem_cons_of_mem _ (List.mem_append_left _ (List.mem_append_left _ (List.mem_append_left _ (List.mem_append_left _ (List.mem_append_right _ h)))))
  refine V_iload_n C dX7_set_0 rfl 1 rfl ?_
  refine V_iconst (v := 1) C dX7_set_1 (by decide) ?_
  refine V_icmp_lt (tgt := 11) C dX7_set_2 (by decide) (fun zh2 => ?_) (fun zh2 => ?_)
  · exact Th u _ _ _ 49 111 53 "java/lang/IllegalArgumentException" "no static register that can be set" dX7_set_11 dX7_set_14 dX7_set_15 dX7_set_17 dX7_set_20 (by decide) (by decide) (List.mem_of_getElem? (i := 1) rfl) (List.mem_of_getElem? (i := 2) rfl) (fun _ h => List.mem_cons_of_mem _ (List.mem_append_right _ h)) rfl (⟨rfl, decide_eq_true (Decidable.byContradiction (fun q => by have a1 := Int32.le_iff_toInt_le.mp (Int32.not_lt.mp (fun z => q (Or.inl z))); have a2 := Int32.le_iff_toInt_le.mp (Int32.not_lt.mp (fun z => q (Or.inr z))); have q_0 := Int32.lt_iff_toInt_lt.mp zh2; have l_0 : (1 : Int32).toInt = 1 := (by decide); have l_1 : (7 : Int32).toInt = 7 := (by decide); omega)), rfl⟩)
  · refine V_iload_n C dX7_set_5 rfl 1 rfl ?_
    refine V_bipush (v := 8) C dX7_set_6 (by decide) ?_
    refine V_icmp_lt (tgt := 21) C dX7_set_8 (by decide) (fun zh8 => ?_) (fun zh8 => ?_)
    · refine V_aload_n C dX7_set_21 rfl 0 rfl ?_
      refine V_get (v := .ref (h 2)) C dX7_set_22 hi7 0 (cw_a rfl) rfl 1 (by decide) (List.mem_of_getElem? (i := 3) rfl) rfl rfl ?_
      refine V_iload_n C dX7_set_25 rfl 1 rfl ?_
      refine V_lload_n C dX7_set_26 rfl 2 rfl ?_
      refine V_iconst (v := 0) C dX7_set_27 (by decide) ?_
      refine V_gcallvV C go hg dX7_set_28 2 (cw_a rfl) rfl (c_X6_write l D K G tb ga9 h u xr xv false hC) gX7_set_X6_write rfl 3 rfl (by decide +kernel) (by decide) ⟨Nat.le_of_ble_eq_true rfl, Nat.le_of_ble_eq_true rfl⟩ rfl (Nat.le_of_ble_eq_true rfl) (det1 ?_)
      exact V_widen (Nat.zero_le _) (Nat.zero_le _) (E (rWr u xr xv false) _ _ dX7_set_31 ⟨decide_eq_false (fun q => by rcases q with q | q <;> have a1 := Int32.lt_iff_toInt_lt.mp q <;> (have q_0 := Int32.le_iff_toInt_le.mp (Int32.not_lt.mp zh2); have q_1 := Int32.lt_iff_toInt_lt.mp zh8; have l_0 : (1 : Int32).toInt = 1 := (by decide); have l_1 : (7 : Int32).toInt = 7 := (by decide); have l_2 : (8 : Int32).toInt = 8 := (by decide); omega)), rfl⟩)
    · exact Th u _ _ _ 49 111 53 "java/lang/IllegalArgumentException" "no static register that can be set" dX7_set_11 dX7_set_14 dX7_set_15 dX7_set_17 dX7_set_20 (by decide) (by decide) (List.mem_of_getElem? (i := 1) rfl) (List.mem_of_getElem? (i := 2) rfl) (fun _ h => List.mem_cons_of_mem _ (List.mem_append_right _ h)) rfl (⟨rfl, decide_eq_true (Decidable.byContradiction (fun q => by have a1 := Int32.le_iff_toInt_le.mp (Int32.not_lt.mp (fun z => q (Or.inl z))); have a2 := Int32.le_iff_toInt_le.mp (Int32.not_lt.mp (fun z => q (Or.inr z))); have q_0 := Int32.le_iff_toInt_le.mp (Int32.not_lt.mp zh2); have q_1 := Int32.le_iff_toInt_le.mp (Int32.not_lt.mp zh8); have l_0 : (1 : Int32).toInt = 1 := (by decide); have l_1 : (7 : Int32).toInt = 7 := (by decide); have l_2 : (8 : Int32).toInt = 8 := (by decide); omega)), rfl⟩)

set_option maxHeartbeats 4000000 in
set_option maxRecDepth 100000 in
theorem c_X7_register (l : Launch) (hlf : l.stackTraces = false) (D : va_G) (K : Nat → ClassId) (G : gE) (tb : Nat → Nat) (ga9 : gAll G tb) (gx : gXc G) (h : Nat → Nat) (u : CS) (xr : Int32) (hC : cC u < 41) : xMl l D vwCl (tys0 K) G yX7_register wsX7_register ({ frames := 6, cells := 1, slots := 6, locals := 82 } : Room) [.ref (h 0), .int xr] (cw K h u) (cw K h) (fun r9 u9 => rHas u xr = true ∧ r9 = rVal u xr ∧ u9 = u) (fun E9 u9 => E9 = "java/lang/IllegalArgumentException" ∧ rHas u xr = false ∧ u9 = u) := by
  refine xMl_of (cc := cX7_register) (nL := 2) (by decide) rfl rfl (Nat.le_of_ble_eq_true rfl) gx hlf (by decide) ?_
  intro X C hg E Th
  show V X 0 0 (cw K h u) 0 [(0, .ref (h 0)), (1, .int xr)] []
  have go := ga9.1
  have gn := ga9.2.1
  have gt := ga9.2.2
  have hi7 : ∀ w ∈ wsX70, w ∈ wsX7_register := fun _ h => List.mem_cons_of_mem _ (List.mem_append_left _ (List.mem_append_left _ (List.mem_append_left _ (List.mem_append_left _ (List.mem_append_right _ h)))))
  refine V_aload_n C dX7_register_0 rfl 0 rfl ?_
  refine V_get (v := .ref (h 2)) C dX7_register_1 hi7 0 (cw_a rfl) rfl 1 (by decide) (List.mem_of_getElem? (i := 3) rfl) rfl rfl ?_
  refine V_iload_n C dX7_register_4 rfl 1 rfl ?_
  refine V_gcalliV C go hg dX7_register_5 2 (cw_a rfl) rfl (c_X6_has l D K G tb ga9 h u xr hC) gX7_register_X6_has rfl 1 rfl (by decide +kernel) (by decide) ⟨Nat.le_of_ble_eq_true rfl, Nat.le_of_ble_eq_true rfl⟩ rfl (Nat.le_of_ble_eq_true rfl) (det2 ?_)
  refine V_ifz_ne (tgt := 21) C dX7_register_8 (by decide) (fun zh8 => ?_) (fun zh8 => ?_)
  · refine V_aload_n C dX7_register_21 rfl 0 rfl ?_
    refine V_get (v := .ref (h 2)) C dX7_register_22 hi7 0 (cw_a rfl) rfl 1 (by decide) (List.mem_of_getElem? (i := 3) rfl) rfl rfl ?_
    refine V_iload_n C dX7_register_25 rfl 1 rfl ?_
    refine V_gcalllV C go hg dX7_register_26 2 (cw_a rfl) rfl (c_X6_valueOf l D K G tb ga9 h u xr hC) gX7_register_X6_valueOf rfl 1 rfl (by decide +kernel) (by decide) ⟨Nat.le_of_ble_eq_true rfl, Nat.le_of_ble_eq_true rfl⟩ rfl (Nat.le_of_ble_eq_true rfl) (det2 ?_)
    exact V_widen (Nat.zero_le _) (Nat.zero_le _) (E (rVal u xr) u _ _ dX7_register_29 ⟨zh8, rfl, rfl⟩)
  · exact Th u _ _ _ 49 121 53 "java/lang/IllegalArgumentException" "no such register now" dX7_register_11 dX7_register_14 dX7_register_15 dX7_register_17 dX7_register_20 (by decide) (by decide) (List.mem_of_getElem? (i := 1) rfl) (List.mem_of_getElem? (i := 2) rfl) (fun _ h => List.mem_cons_of_mem _ (List.mem_append_right _ h)) rfl (⟨rfl, zh8, rfl⟩)

set_option maxHeartbeats 4000000 in
set_option maxRecDepth 100000 in
theorem c_X7_nat (l : Launch) (hlf : l.stackTraces = false) (D : va_G) (K : Nat → ClassId) (G : gE) (tb : Nat → Nat) (ga9 : gAll G tb) (gx : gXc G) (h : Nat → Nat) (u : CS) (xr : Int32) (hC : cC u < 41) : xMi l D vwCl (tys0 K) G yX7_nat wsX7_nat ({ frames := 6, cells := 1, slots := 6, locals := 82 } : Room) [.ref (h 0), .int xr] (cw K h u) (cw K h) (fun r9 u9 => rHas u xr = true ∧ r9 = b2i (rNat u xr) ∧ u9 = u) (fun E9 u9 => E9 = "java/lang/IllegalArgumentException" ∧ rHas u xr = false ∧ u9 = u) := by
  refine xMi_of (cc := cX7_nat) (nL := 2) (rt := .boolean) (by decide) rfl rfl (Nat.le_of_ble_eq_true rfl) gx hlf (by decide) ?_
  intro X C hg E Th
  show V X 0 0 (cw K h u) 0 [(0, .ref (h 0)), (1, .int xr)] []
  have go := ga9.1
  have gn := ga9.2.1
  have gt := ga9.2.2
  have hi7 : ∀ w ∈ wsX70, w ∈ wsX7_nat := fun _ h => List.mem_cons_of_mem _ (List.mem_append_left _ (List.mem_append_left _ (List.mem_append_left _ (List.mem_append_left _ (List.mem_append_right _ h)))))
  refine V_aload_n C dX7_nat_0 rfl 0 rfl ?_
  refine V_get (v := .ref (h 2)) C dX7_nat_1 hi7 0 (cw_a rfl) rfl 1 (by decide) (List.mem_of_getElem? (i := 3) rfl) rfl rfl ?_
  refine V_iload_n C dX7_nat_4 rfl 1 rfl ?_
  refine V_gcalliV C go hg dX7_nat_5 2 (cw_a rfl) rfl (c_X6_has l D K G tb ga9 h u xr hC) gX7_nat_X6_has rfl 1 rfl (by decide +kernel) (by decide) ⟨Nat.le_of_ble_eq_true rfl, Nat.le_of_ble_eq_true rfl⟩ rfl (Nat.le_of_ble_eq_true rfl) (det2 ?_)
  refine V_ifz_ne (tgt := 21) C dX7_nat_8 (by decide) (fun zh8 => ?_) (fun zh8 => ?_)
  · refine V_aload_n C dX7_nat_21 rfl 0 rfl ?_
    refine V_get (v := .ref (h 2)) C dX7_nat_22 hi7 0 (cw_a rfl) rfl 1 (by decide) (List.mem_of_getElem? (i := 3) rfl) rfl rfl ?_
    refine V_iload_n C dX7_nat_25 rfl 1 rfl ?_
    refine V_gcalliV C go hg dX7_nat_26 2 (cw_a rfl) rfl (c_X6_natOf l D K G tb ga9 h u xr hC) gX7_nat_X6_natOf rfl 1 rfl (by decide +kernel) (by decide) ⟨Nat.le_of_ble_eq_true rfl, Nat.le_of_ble_eq_true rfl⟩ rfl (Nat.le_of_ble_eq_true rfl) (det2 ?_)
    exact V_widen (Nat.zero_le _) (Nat.zero_le _) (E (b2i (rNat u xr)) u _ _ dX7_nat_29 (nar_b2i _) ⟨zh8, rfl, rfl⟩)
  · exact Th u _ _ _ 49 121 53 "java/lang/IllegalArgumentException" "no such register now" dX7_nat_11 dX7_nat_14 dX7_nat_15 dX7_nat_17 dX7_nat_20 (by decide) (by decide) (List.mem_of_getElem? (i := 1) rfl) (List.mem_of_getElem? (i := 2) rfl) (fun _ h => List.mem_cons_of_mem _ (List.mem_append_right _ h)) rfl (⟨rfl, zh8, rfl⟩)

set_option maxHeartbeats 4000000 in
set_option maxRecDepth 100000 in
theorem c_X7_predicate (l : Launch) (hlf : l.stackTraces = false) (D : va_G) (K : Nat → ClassId) (G : gE) (tb : Nat → Nat) (ga9 : gAll G tb) (gx : gXc G) (h : Nat → Nat) (u : CS) (xp : Int32) (hC : cC u < 41) : xMi l D vwCl (tys0 K) G yX7_predicate wsX7_predicate ({ frames := 6, cells := 1, slots := 6, locals := 82 } : Room) [.ref (h 0), .int xp] (cw K h u) (cw K h) (fun r9 u9 => mOut xp 0 15 = false ∧ r9 = b2i (pIs (cZ u 4) xp (cF u (cC u) 4)) ∧ u9 = u) (fun E9 u9 => E9 = "java/lang/IllegalArgumentException" ∧ mOut xp 0 15 = true ∧ u9 = u) := by
  refine xMi_of (cc := cX7_predicate) (nL := 2) (rt := .boolean) (by decide) rfl rfl (Nat.le_of_ble_eq_true rfl) gx hlf (by decide) ?_
  intro X C hg E Th
  show V X 0 0 (cw K h u) 0 [(0, .ref (h 0)), (1, .int xp)] []
  have go := ga9.1
  have gn := ga9.2.1
  have gt := ga9.2.2
  have hi7 : ∀ w ∈ wsX70, w ∈ wsX7_predicate := fun _ h => List.mem_cons_of_mem _ (List.mem_append_left _ (List.mem_append_left _ (List.mem_append_left _ (List.mem_append_left _ (List.mem_append_right _ h)))))
  have hi6 : ∀ w ∈ wsX60, w ∈ wsX7_predicate := fun _ h => List.mem_cons_of_mem _ (List.mem_append_left _ (List.mem_append_left _ (List.mem_append_left _ (List.mem_append_right _ h))))
  have hi1 : ∀ w ∈ wsX10, w ∈ wsX7_predicate := fun _ h => List.mem_cons_of_mem _ (List.mem_append_left _ (List.mem_append_left _ (List.mem_append_right _ h)))
  refine V_iload_n C dX7_predicate_0 rfl 1 rfl ?_
  refine V_if_lt (tgt := 10) C dX7_predicate_1 (by decide) (fun zh1 => ?_) (fun zh1 => ?_)
  · exact Th u _ _ _ 49 56 53 "java/lang/IllegalArgumentException" "no such predicate" dX7_predicate_10 dX7_predicate_13 dX7_predicate_14 dX7_predicate_16 dX7_predicate_19 (by decide) (by decide) (List.mem_of_getElem? (i := 1) rfl) (List.mem_of_getElem? (i := 2) rfl) (fun _ h => List.mem_cons_of_mem _ (List.mem_append_right _ h)) rfl (⟨rfl, decide_eq_true (Decidable.byContradiction (fun q => by have a1 := Int32.le_iff_toInt_le.mp (Int32.not_lt.mp (fun z => q (Or.inl z))); have a2 := Int32.le_iff_toInt_le.mp (Int32.not_lt.mp (fun z => q (Or.inr z))); have q_0 := Int32.lt_iff_toInt_lt.mp zh1; have l_0 : (0 : Int32).toInt = 0 := (by decide); have l_1 : (15 : Int32).toInt = 15 := (by decide); omega)), rfl⟩)
  · refine V_iload_n C dX7_predicate_4 rfl 1 rfl ?_
    refine V_bipush (v := 16) C dX7_predicate_5 (by decide) ?_
    refine V_icmp_lt (tgt := 20) C dX7_predicate_7 (by decide) (fun zh7 => ?_) (fun zh7 => ?_)
    · refine V_aload_n C dX7_predicate_20 rfl 0 rfl ?_
      refine V_get (v := .ref (h 3)) C dX7_predicate_21 hi7 0 (cw_a rfl) rfl 2 (by decide) (List.mem_of_getElem? (i := 3) rfl) rfl rfl ?_
      refine V_iload_n C dX7_predicate_24 rfl 1 rfl ?_
      refine V_aload_n C dX7_predicate_25 rfl 0 rfl ?_
      refine V_get (v := .ref (h 2)) C dX7_predicate_26 hi7 0 (cw_a rfl) rfl 1 (by decide) (List.mem_of_getElem? (i := 4) rfl) rfl rfl ?_
      refine V_getN (v := .ref (h (22 + (cC u)))) C gn hg dX7_predicate_29 hi6 2 (cw_a rfl) rfl 4 (by decide) (List.mem_of_getElem? (i := 17) rfl) rfl rfl ?_
      refine V_getN (v := .int (cF u (cC u) 4)) C gn hg dX7_predicate_32 hi1 (22 + (cC u)) (cw_f hC) rfl 4 (by decide) (List.mem_of_getElem? (i := 14) rfl) rfl rfl ?_
      refine V_calliV C dX7_predicate_35 3 (cw_a rfl) rfl (c_X5_isTrue l D K (cw K h u) 3 4 (h 3) (h 4) (cZ u 4) (cw_a rfl) (cw_a rfl) xp (cF u (cC u) 4)) gX7_predicate_X5_isTrue rfl 2 rfl (by decide +kernel) (by decide) ⟨Nat.le_of_ble_eq_true rfl, Nat.le_of_ble_eq_true rfl⟩ rfl (Nat.le_of_ble_eq_true rfl) (det0 ?_)
      exact V_widen (Nat.zero_le _) (Nat.zero_le _) (E (b2i (pIs (cZ u 4) xp (cF u (cC u) 4))) u _ _ dX7_predicate_38 (nar_b2i _) ⟨decide_eq_false (fun q => by rcases q with q | q <;> have a1 := Int32.lt_iff_toInt_lt.mp q <;> (have q_0 := Int32.le_iff_toInt_le.mp (Int32.not_lt.mp zh1); have q_1 := Int32.lt_iff_toInt_lt.mp zh7; have l_0 : (0 : Int32).toInt = 0 := (by decide); have l_1 : (15 : Int32).toInt = 15 := (by decide); have l_2 : (16 : Int32).toInt = 16 := (by decide); omega)), rfl, rfl⟩)
    · exact Th u _ _ _ 49 56 53 "java/lang/IllegalArgumentException" "no such predicate" dX7_predicate_10 dX7_predicate_13 dX7_predicate_14 dX7_predicate_16 dX7_predicate_19 (by decide) (by decide) (List.mem_of_getElem? (i := 1) rfl) (List.mem_of_getElem? (i := 2) rfl) (fun _ h => List.mem_cons_of_mem _ (List.mem_append_right _ h)) rfl (⟨rfl, decide_eq_true (Decidable.byContradiction (fun q => by have a1 := Int32.le_iff_toInt_le.mp (Int32.not_lt.mp (fun z => q (Or.inl z))); have a2 := Int32.le_iff_toInt_le.mp (Int32.not_lt.mp (fun z => q (Or.inr z))); have q_0 := Int32.le_iff_toInt_le.mp (Int32.not_lt.mp zh1); have q_1 := Int32.le_iff_toInt_le.mp (Int32.not_lt.mp zh7); have l_0 : (0 : Int32).toInt = 0 := (by decide); have l_1 : (15 : Int32).toInt = 15 := (by decide); have l_2 : (16 : Int32).toInt = 16 := (by decide); omega)), rfl⟩)

set_option maxHeartbeats 4000000 in
set_option maxRecDepth 100000 in
theorem c_X7_memory (l : Launch) (hlf : l.stackTraces = false) (D : va_G) (K : Nat → ClassId) (G : gE) (tb : Nat → Nat) (ga9 : gAll G tb) (gx : gXc G) (h : Nat → Nat) (u : CS) (xc : Int32)  : xMl l D vwCl (tys0 K) G yX7_memory wsX7_memory ({ frames := 6, cells := 1, slots := 6, locals := 82 } : Room) [.ref (h 0), .int xc] (cw K h u) (cw K h) (fun r9 u9 => cHas 32 xc.toInt64 = true ∧ r9 = cVal 32 (cL u 0) xc.toInt64 ∧ u9 = u) (fun E9 u9 => E9 = "java/lang/IllegalArgumentException" ∧ cHas 32 xc.toInt64 = false ∧ u9 = u) := by
  refine xMl_of (cc := cX7_memory) (nL := 2) (by decide) rfl rfl (Nat.le_of_ble_eq_true rfl) gx hlf (by decide) ?_
  intro X C hg E Th
  show V X 0 0 (cw K h u) 0 [(0, .ref (h 0)), (1, .int xc)] []
  have go := ga9.1
  have gn := ga9.2.1
  have gt := ga9.2.2
  have hi7 : ∀ w ∈ wsX70, w ∈ wsX7_memory := fun _ h => List.mem_cons_of_mem _ (List.mem_append_left _ (List.mem_append_left _ (List.mem_append_right _ h)))
  refine V_aload_n C dX7_memory_0 rfl 0 rfl ?_
  refine V_get (v := .ref (h 5)) C dX7_memory_1 hi7 0 (cw_a rfl) rfl 3 (by decide) (List.mem_of_getElem? (i := 3) rfl) rfl rfl ?_
  refine V_iload_n C dX7_memory_4 rfl 1 rfl ?_
  refine V_i2l C dX7_memory_5 ?_
  refine V_calliV C dX7_memory_6 5 (cw_a rfl) rfl (c_X0_has l D K (cw K h u) 5 6 7 (h 5) (h 6) (h 7) 32 (cL u 0) (cZ u 0) (cw_a rfl) (cw_a rfl) (cw_a rfl) (by decide) (Int32.toInt64 xc)) gX7_memory_X0_has rfl 1 rfl (by decide +kernel) (by decide) ⟨Nat.le_of_ble_eq_true rfl, Nat.le_of_ble_eq_true rfl⟩ rfl (Nat.le_of_ble_eq_true rfl) (det0 ?_)
  refine V_ifz_ne (tgt := 22) C dX7_memory_9 (by decide) (fun zh9 => ?_) (fun zh9 => ?_)
  · refine V_aload_n C dX7_memory_22 rfl 0 rfl ?_
    refine V_get (v := .ref (h 5)) C dX7_memory_23 hi7 0 (cw_a rfl) rfl 3 (by decide) (List.mem_of_getElem? (i := 3) rfl) rfl rfl ?_
    refine V_iload_n C dX7_memory_26 rfl 1 rfl ?_
    refine V_i2l C dX7_memory_27 ?_
    refine V_calllV C dX7_memory_28 5 (cw_a rfl) rfl (c_X0_valueAt l D K (cw K h u) 5 6 7 (h 5) (h 6) (h 7) 32 (cL u 0) (cZ u 0) (cw_a rfl) (cw_a rfl) (cw_a rfl) (by decide) (Int32.toInt64 xc)) gX7_memory_X0_valueAt rfl 1 rfl (by decide +kernel) (by decide) ⟨Nat.le_of_ble_eq_true rfl, Nat.le_of_ble_eq_true rfl⟩ rfl (Nat.le_of_ble_eq_true rfl) (det0 ?_)
    exact V_widen (Nat.zero_le _) (Nat.zero_le _) (E (cVal 32 (cL u 0) (Int32.toInt64 xc)) u _ _ dX7_memory_31 ⟨zh9, rfl, rfl⟩)
  · exact Th u _ _ _ 49 146 53 "java/lang/IllegalArgumentException" "no such cell" dX7_memory_12 dX7_memory_15 dX7_memory_16 dX7_memory_18 dX7_memory_21 (by decide) (by decide) (List.mem_of_getElem? (i := 1) rfl) (List.mem_of_getElem? (i := 2) rfl) (fun _ h => List.mem_cons_of_mem _ (List.mem_append_right _ h)) rfl (⟨rfl, zh9, rfl⟩)

set_option maxHeartbeats 4000000 in
set_option maxRecDepth 100000 in
theorem c_X7_poke (l : Launch) (hlf : l.stackTraces = false) (D : va_G) (K : Nat → ClassId) (G : gE) (tb : Nat → Nat) (ga9 : gAll G tb) (gx : gXc G) (h : Nat → Nat) (u : CS) (xc : Int32) (xv : Int64)  : xMv l D vwCl (tys0 K) G yX7_poke wsX7_poke ({ frames := 6, cells := 1, slots := 6, locals := 82 } : Room) [.ref (h 0), .int xc, .long xv] (cw K h u) (cw K h) (fun u9 => cHas 32 xc.toInt64 = true ∧ u9 = tL u 0 (cWv 32 (cL u 0) xc.toInt64 xv) (cWn 32 (cZ u 0) xc.toInt64 false)) (fun E9 u9 => E9 = "java/lang/IllegalArgumentException" ∧ cHas 32 xc.toInt64 = false ∧ u9 = u) := by
  refine xMv_of (cc := cX7_poke) (nL := 4) (by decide) rfl rfl (Nat.le_of_ble_eq_true rfl) gx hlf (by decide) ?_
  intro X C hg E Th
  show V X 0 0 (cw K h u) 0 [(0, .ref (h 0)), (1, .int xc), (2, .long xv)] []
  have go := ga9.1
  have gn := ga9.2.1
  have gt := ga9.2.2
  have hi7 : ∀ w ∈ wsX70, w ∈ wsX7_poke := fun _ h => List.mem_cons_of_mem _ (List.mem_append_left _ (List.mem_append_left _ (List.mem_append_right _ h)))
  refine V_aload_n C dX7_poke_0 rfl 0 rfl ?_
  refine V_get (v := .ref (h 5)) C dX7_poke_1 hi7 0 (cw_a rfl) rfl 3 (by decide) (List.mem_of_getElem? (i := 3) rfl) rfl rfl ?_
  refine V_iload_n C dX7_poke_4 rfl 1 rfl ?_
  refine V_i2l C dX7_poke_5 ?_
  refine V_calliV C dX7_poke_6 5 (cw_a rfl) rfl (c_X0_has l D K (cw K h u) 5 6 7 (h 5) (h 6) (h 7) 32 (cL u 0) (cZ u 0) (cw_a rfl) (cw_a rfl) (cw_a rfl) (by decide) (Int32.toInt64 xc)) gX7_poke_X0_has rfl 1 rfl (by decide +kernel) (by decide) ⟨Nat.le_of_ble_eq_true rfl, Nat.le_of_ble_eq_true rfl⟩ rfl (Nat.le_of_ble_eq_true rfl) (det0 ?_)
  refine V_ifz_ne (tgt := 22) C dX7_poke_9 (by decide) (fun zh9 => ?_) (fun zh9 => ?_)
  · refine V_aload_n C dX7_poke_22 rfl 0 rfl ?_
    refine V_get (v := .ref (h 5)) C dX7_poke_23 hi7 0 (cw_a rfl) rfl 3 (by decide) (List.mem_of_getElem? (i := 3) rfl) rfl rfl ?_
    refine V_iload_n C dX7_poke_26 rfl 1 rfl ?_
    refine V_i2l C dX7_poke_27 ?_
    refine V_lload_n C dX7_poke_28 rfl 2 rfl ?_
    refine V_iconst (v := 0) C dX7_poke_29 (by decide) ?_
    refine V_callvV C dX7_poke_30 5 (cw_a rfl) rfl (c_X0_write l D K (cw K h u) 5 6 7 (h 5) (h 6) (h 7) 32 (cL u 0) (cZ u 0) (cw_a rfl) (cw_a rfl) (cw_a rfl) (by decide) (Int32.toInt64 xc) xv false) gX7_poke_X0_write rfl 3 rfl (by decide +kernel) (by decide) ⟨Nat.le_of_ble_eq_true rfl, Nat.le_of_ble_eq_true rfl⟩ rfl (Nat.le_of_ble_eq_true rfl) (detv ?_)
    refine V_ws (cw_L0 K h u (cWv 32 (cL u 0) (Int32.toInt64 xc) xv) (cWn 32 (cZ u 0) (Int32.toInt64 xc) false)) ?_
    exact V_widen (Nat.zero_le _) (Nat.zero_le _) (E (tL u 0 (cWv 32 (cL u 0) (Int32.toInt64 xc) xv) (cWn 32 (cZ u 0) (Int32.toInt64 xc) false)) _ _ dX7_poke_33 ⟨zh9, rfl⟩)
  · exact Th u _ _ _ 49 146 53 "java/lang/IllegalArgumentException" "no such cell" dX7_poke_12 dX7_poke_15 dX7_poke_16 dX7_poke_18 dX7_poke_21 (by decide) (by decide) (List.mem_of_getElem? (i := 1) rfl) (List.mem_of_getElem? (i := 2) rfl) (fun _ h => List.mem_cons_of_mem _ (List.mem_append_right _ h)) rfl (⟨rfl, zh9, rfl⟩)

set_option maxHeartbeats 4000000 in
set_option maxRecDepth 100000 in
theorem c_X7_backing (l : Launch) (hlf : l.stackTraces = false) (D : va_G) (K : Nat → ClassId) (G : gE) (tb : Nat → Nat) (ga9 : gAll G tb) (gx : gXc G) (h : Nat → Nat) (u : CS) (xk : Int32)  : xMl l D vwCl (tys0 K) G yX7_backing wsX7_backing ({ frames := 6, cells := 1, slots := 6, locals := 82 } : Room) [.ref (h 0), .int xk] (cw K h u) (cw K h) (fun r9 u9 => cHas 120 xk.toInt64 = true ∧ r9 = cVal 120 (cL u 3) xk.toInt64 ∧ u9 = u) (fun E9 u9 => E9 = "java/lang/IllegalArgumentException" ∧ cHas 120 xk.toInt64 = false ∧ u9 = u) := by
  refine xMl_of (cc := cX7_backing) (nL := 2) (by decide) rfl rfl (Nat.le_of_ble_eq_true rfl) gx hlf (by decide) ?_
  intro X C hg E Th
  show V X 0 0 (cw K h u) 0 [(0, .ref (h 0)), (1, .int xk)] []
  have go := ga9.1
  have gn := ga9.2.1
  have gt := ga9.2.2
  have hi7 : ∀ w ∈ wsX70, w ∈ wsX7_backing := fun _ h => List.mem_cons_of_mem _ (List.mem_append_left _ (List.mem_append_left _ (List.mem_append_left _ (List.mem_append_right _ h))))
  have hi6 : ∀ w ∈ wsX60, w ∈ wsX7_backing := fun _ h => List.mem_cons_of_mem _ (List.mem_append_left _ (List.mem_append_left _ (List.mem_append_right _ h)))
  refine V_aload_n C dX7_backing_0 rfl 0 rfl ?_
  refine V_get (v := .ref (h 2)) C dX7_backing_1 hi7 0 (cw_a rfl) rfl 1 (by decide) (List.mem_of_getElem? (i := 3) rfl) rfl rfl ?_
  refine V_getN (v := .ref (h 14)) C gn hg dX7_backing_4 hi6 2 (cw_a rfl) rfl 2 (by decide) (List.mem_of_getElem? (i := 16) rfl) rfl rfl ?_
  refine V_iload_n C dX7_backing_7 rfl 1 rfl ?_
  refine V_i2l C dX7_backing_8 ?_
  refine V_calliV C dX7_backing_9 14 (cw_a rfl) rfl (c_X0_has l D K (cw K h u) 14 15 16 (h 14) (h 15) (h 16) 120 (cL u 3) (cZ u 3) (cw_a rfl) (cw_a rfl) (cw_a rfl) (by decide) (Int32.toInt64 xk)) gX7_backing_X0_has rfl 1 rfl (by decide +kernel) (by decide) ⟨Nat.le_of_ble_eq_true rfl, Nat.le_of_ble_eq_true rfl⟩ rfl (Nat.le_of_ble_eq_true rfl) (det0 ?_)
  refine V_ifz_ne (tgt := 25) C dX7_backing_12 (by decide) (fun zh12 => ?_) (fun zh12 => ?_)
  · refine V_aload_n C dX7_backing_25 rfl 0 rfl ?_
    refine V_get (v := .ref (h 2)) C dX7_backing_26 hi7 0 (cw_a rfl) rfl 1 (by decide) (List.mem_of_getElem? (i := 3) rfl) rfl rfl ?_
    refine V_getN (v := .ref (h 14)) C gn hg dX7_backing_29 hi6 2 (cw_a rfl) rfl 2 (by decide) (List.mem_of_getElem? (i := 16) rfl) rfl rfl ?_
    refine V_iload_n C dX7_backing_32 rfl 1 rfl ?_
    refine V_i2l C dX7_backing_33 ?_
    refine V_calllV C dX7_backing_34 14 (cw_a rfl) rfl (c_X0_valueAt l D K (cw K h u) 14 15 16 (h 14) (h 15) (h 16) 120 (cL u 3) (cZ u 3) (cw_a rfl) (cw_a rfl) (cw_a rfl) (by decide) (Int32.toInt64 xk)) gX7_backing_X0_valueAt rfl 1 rfl (by decide +kernel) (by decide) ⟨Nat.le_of_ble_eq_true rfl, Nat.le_of_ble_eq_true rfl⟩ rfl (Nat.le_of_ble_eq_true rfl) (det0 ?_)
    exact V_widen (Nat.zero_le _) (Nat.zero_le _) (E (cVal 120 (cL u 3) (Int32.toInt64 xk)) u _ _ dX7_backing_37 ⟨zh12, rfl, rfl⟩)
  · exact Th u _ _ _ 49 190 53 "java/lang/IllegalArgumentException" "no such place of the row" dX7_backing_15 dX7_backing_18 dX7_backing_19 dX7_backing_21 dX7_backing_24 (by decide) (by decide) (List.mem_of_getElem? (i := 1) rfl) (List.mem_of_getElem? (i := 2) rfl) (fun _ h => List.mem_cons_of_mem _ (List.mem_append_right _ h)) rfl (⟨rfl, zh12, rfl⟩)

def dLook (u : CS) (w : Int32) : Int32 := if w = 0 then cI u 4 else if w = 1 then cF u (cC u) 1 else if w = 2 then cF u (cC u) 2 else if w = 3 then cF u (cC u) 3 else if w = 4 then cF u (cC u) 4 else if w = 5 then cI u 0 else if w = 6 then cI u 5 else if w = 7 then cI u 6 else if w = 8 then cI u 2 else if w = 9 then cI u 3 else if w = 10 then cF u (cC u) 0 else cI u 1
set_option maxHeartbeats 4000000 in
set_option maxRecDepth 100000 in
theorem c_X7_look (l : Launch) (hlf : l.stackTraces = false) (D : va_G) (K : Nat → ClassId) (G : gE) (tb : Nat → Nat) (ga9 : gAll G tb) (gx : gXc G) (h : Nat → Nat) (u : CS) (xw : Int32) (hC : cC u < 41) : xMi l D vwCl (tys0 K) G yX7_look wsX7_look ({ frames := 6, cells := 1, slots := 6, locals := 82 } : Room) [.ref (h 0), .int xw] (cw K h u) (cw K h) (fun r9 u9 => mOut xw 0 11 = false ∧ r9 = dLook u xw ∧ u9 = u) (fun E9 u9 => E9 = "java/lang/IllegalArgumentException" ∧ mOut xw 0 11 = true ∧ u9 = u) := by
  refine xMi_of (cc := cX7_look) (nL := 2) (rt := .int) (by decide) rfl rfl (Nat.le_of_ble_eq_true rfl) gx hlf (by decide) ?_
  intro X C hg E Th
  show V X 0 0 (cw K h u) 0 [(0, .ref (h 0)), (1, .int xw)] []
  have go := ga9.1
  have gn := ga9.2.1
  have gt := ga9.2.2
  have hi7 : ∀ w ∈ wsX70, w ∈ wsX7_look := fun _ h => List.mem_cons_of_mem _ (List.mem_append_left _ (List.mem_append_left _ (List.mem_append_left _ (List.mem_append_right _ h))))
  have hi6 : ∀ w ∈ wsX60, w ∈ wsX7_look := fun _ h => List.mem_cons_of_mem _ (List.mem_append_left _ (List.mem_append_left _ (List.mem_append_right _ h)))
  have hi1 : ∀ w ∈ wsX10, w ∈ wsX7_look := fun _ h => List.mem_cons_of_mem _ (List.mem_append_left _ (List.mem_append_right _ h))
  refine V_iload_n C dX7_look_0 rfl 1 rfl ?_
  by_cases zs1_0 : xw = 0
  · refine V_tab C dX7_look_1 64 (Or.inl (by rw [zs1_0]; exact ⟨by decide, by decide, _, rfl, by decide⟩)) ?_
    refine V_aload_n C dX7_look_64 rfl 0 rfl ?_
    refine V_get (v := .int (cI u 4)) C dX7_look_65 hi7 0 (cw_a rfl) rfl 6 (by decide) (List.mem_of_getElem? (i := 3) rfl) rfl rfl ?_
    exact V_widen (Nat.zero_le _) (Nat.zero_le _) (E (cI u 4) u _ _ dX7_look_68 rfl ⟨by rw [zs1_0]; decide, by simp (decide := true) [dLook, zs1_0], rfl⟩)
  by_cases zs1_1 : xw = 1
  · refine V_tab C dX7_look_1 69 (Or.inl (by rw [zs1_1]; exact ⟨by decide, by decide, _, rfl, by decide⟩)) ?_
    refine V_aload_n C dX7_look_69 rfl 0 rfl ?_
    refine V_get (v := .ref (h 2)) C dX7_look_70 hi7 0 (cw_a rfl) rfl 1 (by decide) (List.mem_of_getElem? (i := 4) rfl) rfl rfl ?_
    refine V_getN (v := .ref (h (22 + (cC u)))) C gn hg dX7_look_73 hi6 2 (cw_a rfl) rfl 4 (by decide) (List.mem_of_getElem? (i := 17) rfl) rfl rfl ?_
    refine V_getN (v := .int (cF u (cC u) 1)) C gn hg dX7_look_76 hi1 (22 + (cC u)) (cw_f hC) rfl 1 (by decide) (List.mem_of_getElem? (i := 8) rfl) rfl rfl ?_
    exact V_widen (Nat.zero_le _) (Nat.zero_le _) (E (cF u (cC u) 1) u _ _ dX7_look_79 rfl ⟨by rw [zs1_1]; decide, by simp (decide := true) [dLook, zs1_1], rfl⟩)
  by_cases zs1_2 : xw = 2
  · refine V_tab C dX7_look_1 80 (Or.inl (by rw [zs1_2]; exact ⟨by decide, by decide, _, rfl, by decide⟩)) ?_
    refine V_aload_n C dX7_look_80 rfl 0 rfl ?_
    refine V_get (v := .ref (h 2)) C dX7_look_81 hi7 0 (cw_a rfl) rfl 1 (by decide) (List.mem_of_getElem? (i := 4) rfl) rfl rfl ?_
    refine V_getN (v := .ref (h (22 + (cC u)))) C gn hg dX7_look_84 hi6 2 (cw_a rfl) rfl 4 (by decide) (List.mem_of_getElem? (i := 17) rfl) rfl rfl ?_
    refine V_getN (v := .int (cF u (cC u) 2)) C gn hg dX7_look_87 hi1 (22 + (cC u)) (cw_f hC) rfl 2 (by decide) (List.mem_of_getElem? (i := 10) rfl) rfl rfl ?_
    exact V_widen (Nat.zero_le _) (Nat.zero_le _) (E (cF u (cC u) 2) u _ _ dX7_look_90 rfl ⟨by rw [zs1_2]; decide, by simp (decide := true) [dLook, zs1_2], rfl⟩)
  by_cases zs1_3 : xw = 3
  · refine V_tab C dX7_look_1 91 (Or.inl (by rw [zs1_3]; exact ⟨by decide, by decide, _, rfl, by decide⟩)) ?_
    refine V_aload_n C dX7_look_91 rfl 0 rfl ?_
    refine V_get (v := .ref (h 2)) C dX7_look_92 hi7 0 (cw_a rfl) rfl 1 (by decide) (List.mem_of_getElem? (i := 4) rfl) rfl rfl ?_
    refine V_getN (v := .ref (h (22 + (cC u)))) C gn hg dX7_look_95 hi6 2 (cw_a rfl) rfl 4 (by decide) (List.mem_of_getElem? (i := 17) rfl) rfl rfl ?_
    refine V_getN (v := .int (cF u (cC u) 3)) C gn hg dX7_look_98 hi1 (22 + (cC u)) (cw_f hC) rfl 3 (by decide) (List.mem_of_getElem? (i := 12) rfl) rfl rfl ?_
    exact V_widen (Nat.zero_le _) (Nat.zero_le _) (E (cF u (cC u) 3) u _ _ dX7_look_101 rfl ⟨by rw [zs1_3]; decide, by simp (decide := true) [dLook, zs1_3], rfl⟩)
  by_cases zs1_4 : xw = 4
  · refine V_tab C dX7_look_1 102 (Or.inl (by rw [zs1_4]; exact ⟨by decide, by decide, _, rfl, by decide⟩)) ?_
    refine V_aload_n C dX7_look_102 rfl 0 rfl ?_
    refine V_get (v := .ref (h 2)) C dX7_look_103 hi7 0 (cw_a rfl) rfl 1 (by decide) (List.mem_of_getElem? (i := 4) rfl) rfl rfl ?_
    refine V_getN (v := .ref (h (22 + (cC u)))) C gn hg dX7_look_106 hi6 2 (cw_a rfl) rfl 4 (by decide) (List.mem_of_getElem? (i := 17) rfl) rfl rfl ?_
    refine V_getN (v := .int (cF u (cC u) 4)) C gn hg dX7_look_109 hi1 (22 + (cC u)) (cw_f hC) rfl 4 (by decide) (List.mem_of_getElem? (i := 14) rfl) rfl rfl ?_
    exact V_widen (Nat.zero_le _) (Nat.zero_le _) (E (cF u (cC u) 4) u _ _ dX7_look_112 rfl ⟨by rw [zs1_4]; decide, by simp (decide := true) [dLook, zs1_4], rfl⟩)
  by_cases zs1_5 : xw = 5
  · refine V_tab C dX7_look_1 113 (Or.inl (by rw [zs1_5]; exact ⟨by decide, by decide, _, rfl, by decide⟩)) ?_
    refine V_aload_n C dX7_look_113 rfl 0 rfl ?_
    refine V_get (v := .ref (h 2)) C dX7_look_114 hi7 0 (cw_a rfl) rfl 1 (by decide) (List.mem_of_getElem? (i := 4) rfl) rfl rfl ?_
    refine V_getN (v := .int (cI u 0)) C gn hg dX7_look_117 hi6 2 (cw_a rfl) rfl 5 (by decide) (List.mem_of_getElem? (i := 18) rfl) rfl rfl ?_
    exact V_widen (Nat.zero_le _) (Nat.zero_le _) (E (cI u 0) u _ _ dX7_look_120 rfl ⟨by rw [zs1_5]; decide, by simp (decide := true) [dLook, zs1_5], rfl⟩)
  by_cases zs1_6 : xw = 6
  · refine V_tab C dX7_look_1 121 (Or.inl (by rw [zs1_6]; exact ⟨by decide, by decide, _, rfl, by decide⟩)) ?_
    refine V_aload_n C dX7_look_121 rfl 0 rfl ?_
    refine V_get (v := .int (cI u 5)) C dX7_look_122 hi7 0 (cw_a rfl) rfl 8 (by decide) (List.mem_of_getElem? (i := 5) rfl) rfl rfl ?_
    exact V_widen (Nat.zero_le _) (Nat.zero_le _) (E (cI u 5) u _ _ dX7_look_125 rfl ⟨by rw [zs1_6]; decide, by simp (decide := true) [dLook, zs1_6], rfl⟩)
  by_cases zs1_7 : xw = 7
  · refine V_tab C dX7_look_1 126 (Or.inl (by rw [zs1_7]; exact ⟨by decide, by decide, _, rfl, by decide⟩)) ?_
    refine V_aload_n C dX7_look_126 rfl 0 rfl ?_
    refine V_get (v := .int (cI u 6)) C dX7_look_127 hi7 0 (cw_a rfl) rfl 9 (by decide) (List.mem_of_getElem? (i := 6) rfl) rfl rfl ?_
    exact V_widen (Nat.zero_le _) (Nat.zero_le _) (E (cI u 6) u _ _ dX7_look_130 rfl ⟨by rw [zs1_7]; decide, by simp (decide := true) [dLook, zs1_7], rfl⟩)
  by_cases zs1_8 : xw = 8
  · refine V_tab C dX7_look_1 131 (Or.inl (by rw [zs1_8]; exact ⟨by decide, by decide, _, rfl, by decide⟩)) ?_
    refine V_aload_n C dX7_look_131 rfl 0 rfl ?_
    refine V_get (v := .ref (h 2)) C dX7_look_132 hi7 0 (cw_a rfl) rfl 1 (by decide) (List.mem_of_getElem? (i := 4) rfl) rfl rfl ?_
    refine V_getN (v := .int (cI u 2)) C gn hg dX7_look_135 hi6 2 (cw_a rfl) rfl 7 (by decide) (List.mem_of_getElem? (i := 20) rfl) rfl rfl ?_
    exact V_widen (Nat.zero_le _) (Nat.zero_le _) (E (cI u 2) u _ _ dX7_look_138 rfl ⟨by rw [zs1_8]; decide, by simp (decide := true) [dLook, zs1_8], rfl⟩)
  by_cases zs1_9 : xw = 9
  · refine V_tab C dX7_look_1 139 (Or.inl (by rw [zs1_9]; exact ⟨by decide, by decide, _, rfl, by decide⟩)) ?_
    refine V_aload_n C dX7_look_139 rfl 0 rfl ?_
    refine V_get (v := .ref (h 2)) C dX7_look_140 hi7 0 (cw_a rfl) rfl 1 (by decide) (List.mem_of_getElem? (i := 4) rfl) rfl rfl ?_
    refine V_getN (v := .int (cI u 3)) C gn hg dX7_look_143 hi6 2 (cw_a rfl) rfl 8 (by decide) (List.mem_of_getElem? (i := 21) rfl) rfl rfl ?_
    exact V_widen (Nat.zero_le _) (Nat.zero_le _) (E (cI u 3) u _ _ dX7_look_146 rfl ⟨by rw [zs1_9]; decide, by simp (decide := true) [dLook, zs1_9], rfl⟩)
  by_cases zs1_10 : xw = 10
  · refine V_tab C dX7_look_1 147 (Or.inl (by rw [zs1_10]; exact ⟨by decide, by decide, _, rfl, by decide⟩)) ?_
    refine V_aload_n C dX7_look_147 rfl 0 rfl ?_
    refine V_get (v := .ref (h 2)) C dX7_look_148 hi7 0 (cw_a rfl) rfl 1 (by decide) (List.mem_of_getElem? (i := 4) rfl) rfl rfl ?_
    refine V_getN (v := .ref (h (22 + (cC u)))) C gn hg dX7_look_151 hi6 2 (cw_a rfl) rfl 4 (by decide) (List.mem_of_getElem? (i := 17) rfl) rfl rfl ?_
    refine V_getN (v := .int (cF u (cC u) 0)) C gn hg dX7_look_154 hi1 (22 + (cC u)) (cw_f hC) rfl 0 (by decide) (List.mem_of_getElem? (i := 6) rfl) rfl rfl ?_
    exact V_widen (Nat.zero_le _) (Nat.zero_le _) (E (cF u (cC u) 0) u _ _ dX7_look_157 rfl ⟨by rw [zs1_10]; decide, by simp (decide := true) [dLook, zs1_10], rfl⟩)
  by_cases zs1_11 : xw = 11
  · refine V_tab C dX7_look_1 158 (Or.inl (by rw [zs1_11]; exact ⟨by decide, by decide, _, rfl, by decide⟩)) ?_
    refine V_aload_n C dX7_look_158 rfl 0 rfl ?_
    refine V_get (v := .ref (h 2)) C dX7_look_159 hi7 0 (cw_a rfl) rfl 1 (by decide) (List.mem_of_getElem? (i := 4) rfl) rfl rfl ?_
    refine V_getN (v := .int (cI u 1)) C gn hg dX7_look_162 hi6 2 (cw_a rfl) rfl 6 (by decide) (List.mem_of_getElem? (i := 19) rfl) rfl rfl ?_
    exact V_widen (Nat.zero_le _) (Nat.zero_le _) (E (cI u 1) u _ _ dX7_look_165 rfl ⟨by rw [zs1_11]; decide, by simp (decide := true) [dLook, zs1_11], rfl⟩)
  refine V_tab C dX7_look_1 166 (Or.inr ⟨by have q_0 := i32ne (c := 0) 0 (by decide) zs1_0; have q_1 := i32ne (c := 1) 1 (by decide) zs1_1; have q_2 := i32ne (c := 2) 2 (by decide) zs1_2; have q_3 := i32ne (c := 3) 3 (by decide) zs1_3; have q_4 := i32ne (c := 4) 4 (by decide) zs1_4; have q_5 := i32ne (c := 5) 5 (by decide) zs1_5; have q_6 := i32ne (c := 6) 6 (by decide) zs1_6; have q_7 := i32ne (c := 7) 7 (by decide) zs1_7; have q_8 := i32ne (c := 8) 8 (by decide) zs1_8; have q_9 := i32ne (c := 9) 9 (by decide) zs1_9; have q_10 := i32ne (c := 10) 10 (by decide) zs1_10; have q_11 := i32ne (c := 11) 11 (by decide) zs1_11; omega, by decide⟩) ?_
  exact Th u _ _ _ 49 98 53 "java/lang/IllegalArgumentException" "no such what" dX7_look_166 dX7_look_169 dX7_look_170 dX7_look_172 dX7_look_175 (by decide) (by decide) (List.mem_of_getElem? (i := 1) rfl) (List.mem_of_getElem? (i := 2) rfl) (fun _ h => List.mem_cons_of_mem _ (List.mem_append_right _ h)) rfl (⟨rfl, decide_eq_true (Decidable.byContradiction (fun q => by have a1 := Int32.le_iff_toInt_le.mp (Int32.not_lt.mp (fun z => q (Or.inl z))); have a2 := Int32.le_iff_toInt_le.mp (Int32.not_lt.mp (fun z => q (Or.inr z))); have q_0 := i32ne (c := 0) 0 (by decide) zs1_0; have q_1 := i32ne (c := 1) 1 (by decide) zs1_1; have q_2 := i32ne (c := 2) 2 (by decide) zs1_2; have q_3 := i32ne (c := 3) 3 (by decide) zs1_3; have q_4 := i32ne (c := 4) 4 (by decide) zs1_4; have q_5 := i32ne (c := 5) 5 (by decide) zs1_5; have q_6 := i32ne (c := 6) 6 (by decide) zs1_6; have q_7 := i32ne (c := 7) 7 (by decide) zs1_7; have q_8 := i32ne (c := 8) 8 (by decide) zs1_8; have q_9 := i32ne (c := 9) 9 (by decide) zs1_9; have q_10 := i32ne (c := 10) 10 (by decide) zs1_10; have q_11 := i32ne (c := 11) 11 (by decide) zs1_11; have l_0 : (0 : Int32).toInt = 0 := (by decide); have l_1 : (11 : Int32).toInt = 11 := (by decide); omega)), rfl⟩)

