theorem tn_sub24 {T : Nat} (h : T < 2 ^ 30) : tn (nI T - 24) = T - 24 := by
  have e : (nI T - 24).toInt = (T : Int) - 24 := by
    rw [show (24 : Int32) = nI 24 from rfl, pk_sub_toInt h (by omega)]; rfl
  have := tnI (nI T - 24)
  omega
def rRs (u : CS) (a o t : Int32) (B S A L : Nat) : CS := rSp (tL (tF (tF (tF u (cC u) 1 a) (cC u) 2 o) (cC u) 3 t) 2 (zFn (cL u 2) (B + S) (B + A)) (zGn (cZ u 2) (B + S) (B + A))) L (B + A - 24)
def rEn (u : CS) (b : Int32) (c : Nat) : CS := tI (tC (tB (tF u (cC u) 5 b) (c + 1) (cF u (cC u) 0 + cF u (cC u) 1 - cF u (cC u) 2) (cF u (cC u) 2)) (c + 1)) 0 (nI (c + 1))
def rLv (u : CS) (d E B S L : Nat) : CS := rFi (tL (tI (tC u d) 0 (nI d)) 2 (zFn (cL u 2) E (B + S)) (zGn (cZ u 2) E (B + S))) L B
def rCl (u : CS) : CS := tI (tI (tI (tI (tB (tC (tL (tL u 2 (zFn (cL u 2) 0 120) (zGn (cZ u 2) 0 120)) 3 (zFn (cL u 3) 0 120) (zGn (cZ u 3) 0 120)) 0) 0 0 0) 0 0) 1 0) 2 0) 3 0
set_option maxHeartbeats 4000000 in
set_option maxRecDepth 100000 in
theorem c_X6_reshape (l : Launch) (D : va_G) (K : Nat → ClassId) (G : gE) (tb : Nat → Nat) (ga9 : gAll G tb) (h : Nat → Nat) (u : CS) (xs : Int32) (xo : Int32) (xt : Int32) (B S A L : Nat) (hC : cC u < 41) (hB : cF u (cC u) 0 = nI B) (hS : cF u (cC u) 1 = nI S) (hA9 : ¬ 120 < cF u (cC u) 0 + xs → xs = nI A ∧ B + A ≤ 120) (hBS : B + S ≤ 120) (hL : cI u 1 = nI L) (hL2 : L ≤ 120) : gMi l D vwCl (tys0 K) G yX6_reshape wsX6_reshape ({ frames := 3, cells := 0, slots := 0, locals := 70 } : Room) [.ref (h 2), .int xs, .int xo, .int xt] (cw K h u) (cw K h) (fun r9 u9 => r9 = b2i (if 120 < cF u (cC u) 0 + xs then false else true) ∧ u9 = (if 120 < cF u (cC u) 0 + xs then u else rRs u xs xo xt B S A L)) := by
  refine gMi_of (cc := cX6_reshape) (nL := 5) (rt := .boolean) (by decide) rfl (Nat.le_of_ble_eq_true rfl) ?_
  intro X C hg E
  show V X 0 0 (cw K h u) 0 [(0, .ref (h 2)), (1, .int xs), (2, .int xo), (3, .int xt)] []
  have go := ga9.1
  have gn := ga9.2.1
  have gt := ga9.2.2
  have hi6 : ∀ w ∈ wsX60, w ∈ wsX6_reshape := fun _ h => List.mem_cons_of_mem _ (List.mem_append_left _ (List.mem_append_left _ (List.mem_append_right _ h)))
  have hi1 : ∀ w ∈ wsX10, w ∈ wsX6_reshape := fun _ h => List.mem_cons_of_mem _ (List.mem_append_left _ (List.mem_append_right _ h))
  refine V_aload_n C dX6_reshape_0 rfl 0 rfl ?_
  refine V_get (v := .ref (h (22 + (cC u)))) C dX6_reshape_1 hi6 2 (cw_a rfl) rfl 4 (by decide) (List.mem_of_getElem? (i := 1) rfl) rfl rfl ?_
  refine V_getN (v := .int (cF u (cC u) 0)) C gn hg dX6_reshape_4 hi1 (22 + (cC u)) (cw_f hC) rfl 0 (by decide) (List.mem_of_getElem? (i := 5) rfl) rfl rfl ?_
  refine V_iload_n C dX6_reshape_7 rfl 1 rfl ?_
  refine V_iadd C dX6_reshape_8 ?_
  refine V_bipush (v := 120) C dX6_reshape_9 (by decide) ?_
  refine V_icmp_le (tgt := 16) C dX6_reshape_11 (by decide) (fun zh11 => ?_) (fun zh11 => ?_)
  · obtain ⟨hA, hBA⟩ := hA9 (Int32.not_lt.mpr zh11)
    refine V_aload_n C dX6_reshape_16 rfl 0 rfl ?_
    refine V_get (v := .ref (h (22 + (cC u)))) C dX6_reshape_17 hi6 2 (cw_a rfl) rfl 4 (by decide) (List.mem_of_getElem? (i := 1) rfl) rfl rfl ?_
    refine V_calliV C dX6_reshape_20 (22 + (cC u)) (cw_f hC) rfl (c_X1_end l D K (cw K h u) (22 + (cC u)) (h (22 + (cC u))) (cF u (cC u) 0) (cF u (cC u) 1) (cF u (cC u) 2) (cF u (cC u) 3) (cF u (cC u) 4) (cF u (cC u) 5) (cw_f hC)) gX6_reshape_X1_end rfl 0 rfl (by decide +kernel) (by decide) ⟨Nat.le_of_ble_eq_true rfl, Nat.le_of_ble_eq_true rfl⟩ rfl (Nat.le_of_ble_eq_true rfl) (det0 ?_)
    rw [hB, hS, nI_add]
    refine V_istore (lv' := [(4, .int (nI (B + S))), (0, .ref (h 2)), (1, .int xs), (2, .int xo), (3, .int xt)]) C dX6_reshape_23 (by decide) rfl ?_
    refine V_aload_n C dX6_reshape_25 rfl 1 rfl ?_
    refine V_get (v := .ref (h (22 + (cC u)))) C dX6_reshape_26 hi6 2 (cw_a rfl) rfl 4 (by decide) (List.mem_of_getElem? (i := 1) rfl) rfl rfl ?_
    refine V_iload_n C dX6_reshape_29 rfl 2 rfl ?_
    refine V_putN (ws' := (cw K h (tF u (cC u) 1 xs))) C gn hg dX6_reshape_30 hi1 tyX1_ok nmX1 (22 + (cC u)) (cw_f hC) rfl 1 (by decide) (List.mem_of_getElem? (i := 7) rfl) rfl rfl rfl rfl rfl (Nat.le_of_ble_eq_true rfl) (cw_tF K h u 1 xs hC (by simp [fFs, cF_tF])) ?_
    refine V_aload_n C dX6_reshape_33 rfl 1 rfl ?_
    refine V_get (v := .ref (h (22 + (cC u)))) C dX6_reshape_34 hi6 2 (cw_a rfl) rfl 4 (by decide) (List.mem_of_getElem? (i := 1) rfl) rfl rfl ?_
    refine V_iload_n C dX6_reshape_37 rfl 3 rfl ?_
    refine V_putN (ws' := (cw K h (tF (tF u (cC u) 1 xs) (cC u) 2 xo))) C gn hg dX6_reshape_38 hi1 tyX1_ok nmX1 (22 + (cC u)) (cw_f hC) rfl 2 (by decide) (List.mem_of_getElem? (i := 9) rfl) rfl rfl rfl rfl rfl (Nat.le_of_ble_eq_true rfl) (cw_tF K h (tF u (cC u) 1 xs) 2 xo hC (by simp [fFs, cF_tF])) ?_
    refine V_aload_n C dX6_reshape_41 rfl 1 rfl ?_
    refine V_get (v := .ref (h (22 + (cC u)))) C dX6_reshape_42 hi6 2 (cw_a rfl) rfl 4 (by decide) (List.mem_of_getElem? (i := 1) rfl) rfl rfl ?_
    refine V_iload_n C dX6_reshape_45 rfl 4 rfl ?_
    refine V_putN (ws' := (cw K h (tF (tF (tF u (cC u) 1 xs) (cC u) 2 xo) (cC u) 3 xt))) C gn hg dX6_reshape_46 hi1 tyX1_ok nmX1 (22 + (cC u)) (cw_f hC) rfl 3 (by decide) (List.mem_of_getElem? (i := 11) rfl) rfl rfl rfl rfl rfl (Nat.le_of_ble_eq_true rfl) (cw_tF K h (tF (tF u (cC u) 1 xs) (cC u) 2 xo) 3 xt hC (by simp [fFs, cF_tF])) ?_
    refine V_aload_n C dX6_reshape_49 rfl 1 rfl ?_
    refine V_get (v := .ref (h 11)) C dX6_reshape_50 hi6 2 (cw_a rfl) rfl 1 (by decide) (List.mem_of_getElem? (i := 2) rfl) rfl rfl ?_
    refine V_iload C dX6_reshape_53 0 rfl ?_
    refine V_aload_n C dX6_reshape_55 rfl 1 rfl ?_
    refine V_get (v := .ref (h (22 + (cC u)))) C dX6_reshape_56 hi6 2 (cw_a rfl) rfl 4 (by decide) (List.mem_of_getElem? (i := 1) rfl) rfl rfl ?_
    refine V_calliV C dX6_reshape_59 (22 + (cC u)) (cw_f hC) rfl (c_X1_end l D K (cw K h (tF (tF (tF u (cC u) 1 xs) (cC u) 2 xo) (cC u) 3 xt)) (22 + (cC u)) (h (22 + (cC u))) (cF (tF (tF (tF u (cC u) 1 xs) (cC u) 2 xo) (cC u) 3 xt) (cC u) 0) (cF (tF (tF (tF u (cC u) 1 xs) (cC u) 2 xo) (cC u) 3 xt) (cC u) 1) (cF (tF (tF (tF u (cC u) 1 xs) (cC u) 2 xo) (cC u) 3 xt) (cC u) 2) (cF (tF (tF (tF u (cC u) 1 xs) (cC u) 2 xo) (cC u) 3 xt) (cC u) 3) (cF (tF (tF (tF u (cC u) 1 xs) (cC u) 2 xo) (cC u) 3 xt) (cC u) 4) (cF (tF (tF (tF u (cC u) 1 xs) (cC u) 2 xo) (cC u) 3 xt) (cC u) 5) (cw_f hC)) gX6_reshape_X1_end rfl 0 rfl (by decide +kernel) (by decide) ⟨Nat.le_of_ble_eq_true rfl, Nat.le_of_ble_eq_true rfl⟩ rfl (Nat.le_of_ble_eq_true rfl) (det0 ?_)
    rw [show ((cF (tF (tF (tF u (cC u) 1 xs) (cC u) 2 xo) (cC u) 3 xt) (cC u) 0) + (cF (tF (tF (tF u (cC u) 1 xs) (cC u) 2 xo) (cC u) 3 xt) (cC u) 1)) = nI (B + A) from by simp only [cF_tF]; simp; rw [hB, hA, nI_add]]
    refine V_callvV C dX6_reshape_62 11 (cw_a rfl) rfl (c_X0_clearFrom l D K (cw K h (tF (tF (tF u (cC u) 1 xs) (cC u) 2 xo) (cC u) 3 xt)) 11 12 13 (h 11) (h 12) (h 13) 120 (cL u 2) (cZ u 2) (cw_a rfl) (cw_a rfl) (cw_a rfl) (by decide) ((B + S)) ((B + A)) (by omega) (by omega)) gX6_reshape_X0_clearFrom rfl 2 rfl (by decide +kernel) (by decide) ⟨Nat.le_of_ble_eq_true rfl, Nat.le_of_ble_eq_true rfl⟩ rfl (Nat.le_of_ble_eq_true rfl) (detv ?_)
    refine V_ws (cw_L2 K h (tF (tF (tF u (cC u) 1 xs) (cC u) 2 xo) (cC u) 3 xt) (zFn (cL u 2) ((B + S)) ((B + A))) (zGn (cZ u 2) ((B + S)) ((B + A)))) ?_
    refine V_aload_n C dX6_reshape_65 rfl 1 rfl ?_
    refine V_aload_n C dX6_reshape_66 rfl 1 rfl ?_
    refine V_get (v := .ref (h (22 + (cC u)))) C dX6_reshape_67 hi6 2 (cw_a rfl) rfl 4 (by decide) (List.mem_of_getElem? (i := 1) rfl) rfl rfl ?_
    refine V_calliV C dX6_reshape_70 (22 + (cC u)) (cw_f hC) rfl (c_X1_end l D K (cw K h (tL (tF (tF (tF u (cC u) 1 xs) (cC u) 2 xo) (cC u) 3 xt) 2 (zFn (cL u 2) ((B + S)) ((B + A))) (zGn (cZ u 2) ((B + S)) ((B + A))))) (22 + (cC u)) (h (22 + (cC u))) (cF (tL (tF (tF (tF u (cC u) 1 xs) (cC u) 2 xo) (cC u) 3 xt) 2 (zFn (cL u 2) ((B + S)) ((B + A))) (zGn (cZ u 2) ((B + S)) ((B + A)))) (cC u) 0) (cF (tL (tF (tF (tF u (cC u) 1 xs) (cC u) 2 xo) (cC u) 3 xt) 2 (zFn (cL u 2) ((B + S)) ((B + A))) (zGn (cZ u 2) ((B + S)) ((B + A)))) (cC u) 1) (cF (tL (tF (tF (tF u (cC u) 1 xs) (cC u) 2 xo) (cC u) 3 xt) 2 (zFn (cL u 2) ((B + S)) ((B + A))) (zGn (cZ u 2) ((B + S)) ((B + A)))) (cC u) 2) (cF (tL (tF (tF (tF u (cC u) 1 xs) (cC u) 2 xo) (cC u) 3 xt) 2 (zFn (cL u 2) ((B + S)) ((B + A))) (zGn (cZ u 2) ((B + S)) ((B + A)))) (cC u) 3) (cF (tL (tF (tF (tF u (cC u) 1 xs) (cC u) 2 xo) (cC u) 3 xt) 2 (zFn (cL u 2) ((B + S)) ((B + A))) (zGn (cZ u 2) ((B + S)) ((B + A)))) (cC u) 4) (cF (tL (tF (tF (tF u (cC u) 1 xs) (cC u) 2 xo) (cC u) 3 xt) 2 (zFn (cL u 2) ((B + S)) ((B + A))) (zGn (cZ u 2) ((B + S)) ((B + A)))) (cC u) 5) (cw_f hC)) gX6_reshape_X1_end rfl 0 rfl (by decide +kernel) (by decide) ⟨Nat.le_of_ble_eq_true rfl, Nat.le_of_ble_eq_true rfl⟩ rfl (Nat.le_of_ble_eq_true rfl) (det0 ?_)
    rw [show ((cF (tL (tF (tF (tF u (cC u) 1 xs) (cC u) 2 xo) (cC u) 3 xt) 2 (zFn (cL u 2) ((B + S)) ((B + A))) (zGn (cZ u 2) ((B + S)) ((B + A)))) (cC u) 0) + (cF (tL (tF (tF (tF u (cC u) 1 xs) (cC u) 2 xo) (cC u) 3 xt) 2 (zFn (cL u 2) ((B + S)) ((B + A))) (zGn (cZ u 2) ((B + S)) ((B + A)))) (cC u) 1)) = nI (B + A) from by simp only [cF_tL, cF_tF]; simp; rw [hB, hA, nI_add]]
    refine V_bipush (v := 24) C dX6_reshape_73 (by decide) ?_
    refine V_isub C dX6_reshape_75 ?_
    refine V_gcallvV C go hg dX6_reshape_76 2 (cw_a rfl) rfl (c_X6_spillBelow l D K G tb ga9 h (tL (tF (tF (tF u (cC u) 1 xs) (cC u) 2 xo) (cC u) 3 xt) 2 (zFn (cL u 2) ((B + S)) ((B + A))) (zGn (cZ u 2) ((B + S)) ((B + A)))) ((nI (B + A)) - 24) L hL hL2 (by rw [tn_sub24 (by omega)]; omega)) gX6_reshape_X6_spillBelow rfl 1 rfl (by decide +kernel) (by decide) ⟨Nat.le_of_ble_eq_true rfl, Nat.le_of_ble_eq_true rfl⟩ rfl (Nat.le_of_ble_eq_true rfl) (det1 ?_)
    refine V_ws (ws' := cw K h (rRs u xs xo xt B S A L)) (congrArg (cw K h) (by rw [tn_sub24 (by omega)]; rfl)) ?_
    refine V_iconst (v := 1) C dX6_reshape_79 (by decide) ?_
    exact E 1 (rRs u xs xo xt B S A L) _ _ dX6_reshape_80 rfl ⟨by rw [if_neg (Int32.not_lt.mpr zh11)]; rfl, by rw [if_neg (Int32.not_lt.mpr zh11)]⟩
  · refine V_iconst (v := 0) C dX6_reshape_14 (by decide) ?_
    exact E 0 u _ _ dX6_reshape_15 rfl ⟨by rw [if_pos (Int32.not_le.mp zh11)]; rfl, by rw [if_pos (Int32.not_le.mp zh11)]⟩

set_option maxHeartbeats 4000000 in
set_option maxRecDepth 100000 in
theorem c_X6_enterFrame (l : Launch) (D : va_G) (K : Nat → ClassId) (G : gE) (tb : Nat → Nat) (ga9 : gAll G tb) (h : Nat → Nat) (u : CS) (xb : Int32) (c : Nat) (hC : cC u < 41) (hc : cI u 0 = nI c) (hc2 : c < 41) : gMi l D vwCl (tys0 K) G yX6_enterFrame wsX6_enterFrame ({ frames := 1, cells := 0, slots := 0, locals := 22 } : Room) [.ref (h 2), .int xb] (cw K h u) (cw K h) (fun r9 u9 => r9 = b2i (if c + 1 < 41 then true else false) ∧ u9 = (if c + 1 < 41 then rEn u xb c else u)) := by
  refine gMi_of (cc := cX6_enterFrame) (nL := 4) (rt := .boolean) (by decide) rfl (Nat.le_of_ble_eq_true rfl) ?_
  intro X C hg E
  show V X 0 0 (cw K h u) 0 [(0, .ref (h 2)), (1, .int xb)] []
  have go := ga9.1
  have gn := ga9.2.1
  have gt := ga9.2.2
  have hi6 : ∀ w ∈ wsX60, w ∈ wsX6_enterFrame := fun _ h => List.mem_cons_of_mem _ (List.mem_append_left _ (List.mem_append_right _ h))
  have hi1 : ∀ w ∈ wsX10, w ∈ wsX6_enterFrame := fun _ h => List.mem_cons_of_mem _ (List.mem_append_right _ h)
  refine V_aload_n C dX6_enterFrame_0 rfl 0 rfl ?_
  refine V_get (v := .int (cI u 0)) C dX6_enterFrame_1 hi6 2 (cw_a rfl) rfl 5 (by decide) (List.mem_of_getElem? (i := 1) rfl) rfl rfl ?_
  rw [hc]
  refine V_iconst (v := 1) C dX6_enterFrame_4 (by decide) ?_
  refine V_iadd C dX6_enterFrame_5 ?_
  rw [nI_1]
  refine V_istore_n (lv' := [(2, .int (nI (c + 1))), (0, .ref (h 2)), (1, .int xb)]) C dX6_enterFrame_6 rfl (by decide) rfl ?_
  refine V_iload_n C dX6_enterFrame_7 rfl 0 rfl ?_
  refine V_iconst (v := 1) C dX6_enterFrame_8 (by decide) ?_
  refine V_icmp_lt (tgt := 21) C dX6_enterFrame_9 (by decide) (fun zh9 => ?_) (fun zh9 => ?_)
  · exact absurd zh9 (nI_nlt (b := 1) (by omega) (by omega))
  · refine V_iload_n C dX6_enterFrame_12 rfl 0 rfl ?_
    refine V_aload_n C dX6_enterFrame_13 rfl 1 rfl ?_
    refine V_get (v := .ref (h 17)) C dX6_enterFrame_14 hi6 2 (cw_a rfl) rfl 3 (by decide) (List.mem_of_getElem? (i := 2) rfl) rfl rfl ?_
    refine V_alen (v := 41) C dX6_enterFrame_17 17 3 (cw_a rfl) rfl rfl ?_
    refine V_icmp_lt (tgt := 23) C dX6_enterFrame_18 (by decide) (fun zh18 => ?_) (fun zh18 => ?_)
    · have zc : c + 1 < 41 := (nI_ltI (by omega) (by omega)).mp zh18
      refine V_aload_n C dX6_enterFrame_23 rfl 1 rfl ?_
      refine V_get (v := .ref (h (22 + (cC u)))) C dX6_enterFrame_24 hi6 2 (cw_a rfl) rfl 4 (by decide) (List.mem_of_getElem? (i := 3) rfl) rfl rfl ?_
      refine V_iload_n C dX6_enterFrame_27 rfl 2 rfl ?_
      refine V_putN (ws' := (cw K h (tF u (cC u) 5 xb))) C gn hg dX6_enterFrame_28 hi1 tyX1_ok nmX1 (22 + (cC u)) (cw_f hC) rfl 5 (by decide) (List.mem_of_getElem? (i := 15) rfl) rfl rfl rfl rfl rfl (Nat.le_of_ble_eq_true rfl) (cw_tF K h u 5 xb hC (by simp [fFs, cF_tF])) ?_
      refine V_aload_n C dX6_enterFrame_31 rfl 1 rfl ?_
      refine V_get (v := .ref (h 17)) C dX6_enterFrame_32 hi6 2 (cw_a rfl) rfl 3 (by decide) (List.mem_of_getElem? (i := 2) rfl) rfl rfl ?_
      refine V_iload_n C dX6_enterFrame_35 rfl 0 rfl ?_
      refine V_aald (v := some (h (22 + (c + 1)))) C dX6_enterFrame_36 17 3 (cw_a rfl) rfl (c + 1) (nI_clamp (by omega)) (vp_in_nI (by omega) (by omega)) rfl ?_
      refine V_astore_n (lv' := [(3, .ref (h (22 + (c + 1)))), (2, .int (nI (c + 1))), (0, .ref (h 2)), (1, .int xb)]) C dX6_enterFrame_37 rfl (by decide) rfl ?_
      refine V_aload_n C dX6_enterFrame_38 rfl 0 rfl ?_
      refine V_aload_n C dX6_enterFrame_39 rfl 2 rfl ?_
      refine V_get (v := .ref (h (22 + (cC u)))) C dX6_enterFrame_40 hi6 2 (cw_a rfl) rfl 4 (by decide) (List.mem_of_getElem? (i := 3) rfl) rfl rfl ?_
      refine V_calliV C dX6_enterFrame_43 (22 + (cC u)) (cw_f hC) rfl (c_X1_end l D K (cw K h (tF u (cC u) 5 xb)) (22 + (cC u)) (h (22 + (cC u))) (cF (tF u (cC u) 5 xb) (cC u) 0) (cF (tF u (cC u) 5 xb) (cC u) 1) (cF (tF u (cC u) 5 xb) (cC u) 2) (cF (tF u (cC u) 5 xb) (cC u) 3) (cF (tF u (cC u) 5 xb) (cC u) 4) (cF (tF u (cC u) 5 xb) (cC u) 5) (cw_f hC)) gX6_enterFrame_X1_end rfl 0 rfl (by decide +kernel) (by decide) ⟨Nat.le_of_ble_eq_true rfl, Nat.le_of_ble_eq_true rfl⟩ rfl (Nat.le_of_ble_eq_true rfl) (det0 ?_)
      rw [show ((cF (tF u (cC u) 5 xb) (cC u) 0) + (cF (tF u (cC u) 5 xb) (cC u) 1)) = cF u (cC u) 0 + cF u (cC u) 1 from by simp [cF_tF]]
      refine V_aload_n C dX6_enterFrame_46 rfl 2 rfl ?_
      refine V_get (v := .ref (h (22 + (cC u)))) C dX6_enterFrame_47 hi6 2 (cw_a rfl) rfl 4 (by decide) (List.mem_of_getElem? (i := 3) rfl) rfl rfl ?_
      refine V_getN (v := .int (cF u (cC u) 2)) C gn hg dX6_enterFrame_50 hi1 (22 + (cC u)) (cw_f hC) rfl 2 (by decide) (List.mem_of_getElem? (i := 9) rfl) rfl (by first | rfl | (simp [fFs, cF_tF, cF_tB]; done)) ?_
      refine V_isub C dX6_enterFrame_53 ?_
      refine V_aload_n C dX6_enterFrame_54 rfl 2 rfl ?_
      refine V_get (v := .ref (h (22 + (cC u)))) C dX6_enterFrame_55 hi6 2 (cw_a rfl) rfl 4 (by decide) (List.mem_of_getElem? (i := 3) rfl) rfl rfl ?_
      refine V_getN (v := .int (cF u (cC u) 2)) C gn hg dX6_enterFrame_58 hi1 (22 + (cC u)) (cw_f hC) rfl 2 (by decide) (List.mem_of_getElem? (i := 9) rfl) rfl (by first | rfl | (simp [fFs, cF_tF, cF_tB]; done)) ?_
      refine V_callvV C dX6_enterFrame_61 (22 + (c + 1)) (cw_f (show c + 1 < 41 by omega)) rfl (c_X1_begin l D K (cw K h (tF u (cC u) 5 xb)) (22 + (c + 1)) (h (22 + (c + 1))) (cF (tF u (cC u) 5 xb) (c + 1) 0) (cF (tF u (cC u) 5 xb) (c + 1) 1) (cF (tF u (cC u) 5 xb) (c + 1) 2) (cF (tF u (cC u) 5 xb) (c + 1) 3) (cF (tF u (cC u) 5 xb) (c + 1) 4) (cF (tF u (cC u) 5 xb) (c + 1) 5) (cw_f (show c + 1 < 41 by omega)) ((cF u (cC u) 0 + cF u (cC u) 1) - (cF u (cC u) 2)) (cF u (cC u) 2)) gX6_enterFrame_X1_begin rfl 2 rfl (by decide +kernel) (by decide) ⟨Nat.le_of_ble_eq_true rfl, Nat.le_of_ble_eq_true rfl⟩ rfl (Nat.le_of_ble_eq_true rfl) (detv ?_)
      refine V_ws (cw_tB K h (tF u (cC u) 5 xb) ((cF u (cC u) 0 + cF u (cC u) 1) - (cF u (cC u) 2)) (cF u (cC u) 2) (show c + 1 < 41 by omega)) ?_
      refine V_aload_n C dX6_enterFrame_64 rfl 2 rfl ?_
      refine V_aload_n C dX6_enterFrame_65 rfl 0 rfl ?_
      refine V_put (ws' := (cw K h (tC (tB (tF u (cC u) 5 xb) (c + 1) ((cF u (cC u) 0 + cF u (cC u) 1) - (cF u (cC u) 2)) (cF u (cC u) 2)) (c + 1)))) C dX6_enterFrame_66 hi6 tyX6_ok nmX6 2 (cw_a rfl) rfl 4 (by decide) (List.mem_of_getElem? (i := 3) rfl) rfl rfl rfl rfl rfl (Nat.le_of_ble_eq_true rfl) (cw_sa (by decide) rfl rfl rfl) ?_
      refine V_aload_n C dX6_enterFrame_69 rfl 2 rfl ?_
      refine V_iload_n C dX6_enterFrame_70 rfl 1 rfl ?_
      refine V_put (ws' := (cw K h (tI (tC (tB (tF u (cC u) 5 xb) (c + 1) ((cF u (cC u) 0 + cF u (cC u) 1) - (cF u (cC u) 2)) (cF u (cC u) 2)) (c + 1)) 0 (nI (c + 1))))) C dX6_enterFrame_71 hi6 tyX6_ok nmX6 2 (cw_a rfl) rfl 5 (by decide) (List.mem_of_getElem? (i := 1) rfl) rfl rfl rfl rfl rfl (Nat.le_of_ble_eq_true rfl) (cw_sa (by decide) rfl rfl rfl) ?_
      refine V_iconst (v := 1) C dX6_enterFrame_74 (by decide) ?_
      exact E 1 (tI (tC (tB (tF u (cC u) 5 xb) (c + 1) ((cF u (cC u) 0 + cF u (cC u) 1) - (cF u (cC u) 2)) (cF u (cC u) 2)) (c + 1)) 0 (nI (c + 1))) _ _ dX6_enterFrame_75 rfl ⟨by rw [if_pos zc]; rfl, by rw [if_pos zc]; rfl⟩
    · refine V_iconst (v := 0) C dX6_enterFrame_21 (by decide) ?_
      exact E 0 u _ _ dX6_enterFrame_22 rfl ⟨by rw [if_neg (fun q => zh18 (nI_lt (b := 41) q (by decide)))]; rfl, by rw [if_neg (fun q => zh18 (nI_lt (b := 41) q (by decide)))]⟩

set_option maxHeartbeats 4000000 in
set_option maxRecDepth 100000 in
theorem c_X6_leaveFrame (l : Launch) (D : va_G) (K : Nat → ClassId) (G : gE) (tb : Nat → Nat) (ga9 : gAll G tb) (h : Nat → Nat) (u : CS)  (d E0 B S L : Nat) (hC : cC u < 41) (hc : cI u 0 = nI (d + 1)) (hd41 : d < 41) (hE : cF u (cC u) 0 + cF u (cC u) 1 = nI E0) (hE2 : E0 ≤ 120) (hB : cF u d 0 = nI B) (hS : cF u d 1 = nI S) (hBS : B + S ≤ 120) (hL : cI u 1 = nI L) (hL2 : L ≤ 120) : gMi l D vwCl (tys0 K) G yX6_leaveFrame wsX6_leaveFrame ({ frames := 3, cells := 0, slots := 0, locals := 70 } : Room) [.ref (h 2)] (cw K h u) (cw K h) (fun r9 u9 => r9 = cF u d 5 ∧ u9 = rLv u d E0 B S L) := by
  refine gMi_of (cc := cX6_leaveFrame) (nL := 3) (rt := .int) (by decide) rfl (Nat.le_of_ble_eq_true rfl) ?_
  intro X C hg E
  show V X 0 0 (cw K h u) 0 [(0, .ref (h 2))] []
  have go := ga9.1
  have gn := ga9.2.1
  have gt := ga9.2.2
  have hi6 : ∀ w ∈ wsX60, w ∈ wsX6_leaveFrame := fun _ h => List.mem_cons_of_mem _ (List.mem_append_left _ (List.mem_append_left _ (List.mem_append_right _ h)))
  have hi1 : ∀ w ∈ wsX10, w ∈ wsX6_leaveFrame := fun _ h => List.mem_cons_of_mem _ (List.mem_append_left _ (List.mem_append_right _ h))
  refine V_aload_n C dX6_leaveFrame_0 rfl 0 rfl ?_
  refine V_get (v := .int (cI u 0)) C dX6_leaveFrame_1 hi6 2 (cw_a rfl) rfl 5 (by decide) (List.mem_of_getElem? (i := 1) rfl) rfl rfl ?_
  rw [hc]
  refine V_iconst (v := 1) C dX6_leaveFrame_4 (by decide) ?_
  refine V_isub C dX6_leaveFrame_5 ?_
  rw [nI_pred]
  refine V_istore_n (lv' := [(1, .int (nI d)), (0, .ref (h 2))]) C dX6_leaveFrame_6 rfl (by decide) rfl ?_
  refine V_iload_n C dX6_leaveFrame_7 rfl 0 rfl ?_
  refine V_if_lt (tgt := 20) C dX6_leaveFrame_8 (by decide) (fun zh8 => ?_) (fun zh8 => ?_)
  · exact absurd zh8 (nI_pos (by omega))
  · refine V_iload_n C dX6_leaveFrame_11 rfl 0 rfl ?_
    refine V_aload_n C dX6_leaveFrame_12 rfl 1 rfl ?_
    refine V_get (v := .ref (h 17)) C dX6_leaveFrame_13 hi6 2 (cw_a rfl) rfl 3 (by decide) (List.mem_of_getElem? (i := 2) rfl) rfl rfl ?_
    refine V_alen (v := 41) C dX6_leaveFrame_16 17 3 (cw_a rfl) rfl rfl ?_
    refine V_icmp_lt (tgt := 22) C dX6_leaveFrame_17 (by decide) (fun zh17 => ?_) (fun zh17 => ?_)
    · refine V_aload_n C dX6_leaveFrame_22 rfl 1 rfl ?_
      refine V_get (v := .ref (h (22 + (cC u)))) C dX6_leaveFrame_23 hi6 2 (cw_a rfl) rfl 4 (by decide) (List.mem_of_getElem? (i := 3) rfl) rfl rfl ?_
      refine V_calliV C dX6_leaveFrame_26 (22 + (cC u)) (cw_f hC) rfl (c_X1_end l D K (cw K h u) (22 + (cC u)) (h (22 + (cC u))) (cF u (cC u) 0) (cF u (cC u) 1) (cF u (cC u) 2) (cF u (cC u) 3) (cF u (cC u) 4) (cF u (cC u) 5) (cw_f hC)) gX6_leaveFrame_X1_end rfl 0 rfl (by decide +kernel) (by decide) ⟨Nat.le_of_ble_eq_true rfl, Nat.le_of_ble_eq_true rfl⟩ rfl (Nat.le_of_ble_eq_true rfl) (det0 ?_)
      rw [hE]
      refine V_istore_n (lv' := [(2, .int (nI E0)), (1, .int (nI d)), (0, .ref (h 2))]) C dX6_leaveFrame_29 rfl (by decide) rfl ?_
      refine V_aload_n C dX6_leaveFrame_30 rfl 2 rfl ?_
      refine V_aload_n C dX6_leaveFrame_31 rfl 2 rfl ?_
      refine V_get (v := .ref (h 17)) C dX6_leaveFrame_32 hi6 2 (cw_a rfl) rfl 3 (by decide) (List.mem_of_getElem? (i := 2) rfl) rfl rfl ?_
      refine V_iload_n C dX6_leaveFrame_35 rfl 1 rfl ?_
      refine V_aald (v := some (h (22 + d))) C dX6_leaveFrame_36 17 3 (cw_a rfl) rfl (d) (nI_clamp (by omega)) (vp_in_nI (by omega) (by omega)) rfl ?_
      refine V_put (ws' := (cw K h (tC u d))) C dX6_leaveFrame_37 hi6 tyX6_ok nmX6 2 (cw_a rfl) rfl 4 (by decide) (List.mem_of_getElem? (i := 3) rfl) rfl rfl rfl rfl rfl (Nat.le_of_ble_eq_true rfl) (cw_sa (by decide) rfl rfl rfl) ?_
      refine V_aload_n C dX6_leaveFrame_40 rfl 2 rfl ?_
      refine V_iload_n C dX6_leaveFrame_41 rfl 1 rfl ?_
      refine V_put (ws' := (cw K h (tI (tC u d) 0 (nI d)))) C dX6_leaveFrame_42 hi6 tyX6_ok nmX6 2 (cw_a rfl) rfl 5 (by decide) (List.mem_of_getElem? (i := 1) rfl) rfl rfl rfl rfl rfl (Nat.le_of_ble_eq_true rfl) (cw_sa (by decide) rfl rfl rfl) ?_
      refine V_aload_n C dX6_leaveFrame_45 rfl 2 rfl ?_
      refine V_get (v := .ref (h 11)) C dX6_leaveFrame_46 hi6 2 (cw_a rfl) rfl 1 (by decide) (List.mem_of_getElem? (i := 4) rfl) rfl rfl ?_
      refine V_iload_n C dX6_leaveFrame_49 rfl 0 rfl ?_
      refine V_aload_n C dX6_leaveFrame_50 rfl 2 rfl ?_
      refine V_get (v := .ref (h (22 + d))) C dX6_leaveFrame_51 hi6 2 (cw_a rfl) rfl 4 (by decide) (List.mem_of_getElem? (i := 3) rfl) rfl rfl ?_
      refine V_calliV C dX6_leaveFrame_54 (22 + d) (cw_f hd41) rfl (c_X1_end l D K (cw K h (tI (tC u d) 0 (nI d))) (22 + d) (h (22 + d)) (cF (tI (tC u d) 0 (nI d)) d 0) (cF (tI (tC u d) 0 (nI d)) d 1) (cF (tI (tC u d) 0 (nI d)) d 2) (cF (tI (tC u d) 0 (nI d)) d 3) (cF (tI (tC u d) 0 (nI d)) d 4) (cF (tI (tC u d) 0 (nI d)) d 5) (cw_f hd41)) gX6_leaveFrame_X1_end rfl 0 rfl (by decide +kernel) (by decide) ⟨Nat.le_of_ble_eq_true rfl, Nat.le_of_ble_eq_true rfl⟩ rfl (Nat.le_of_ble_eq_true rfl) (det0 ?_)
      rw [show ((cF (tI (tC u d) 0 (nI d)) d 0) + (cF (tI (tC u d) 0 (nI d)) d 1)) = nI (B + S) from by show cF u d 0 + cF u d 1 = _; rw [hB, hS, nI_add]]
      refine V_callvV C dX6_leaveFrame_57 11 (cw_a rfl) rfl (c_X0_clearFrom l D K (cw K h (tI (tC u d) 0 (nI d))) 11 12 13 (h 11) (h 12) (h 13) 120 (cL u 2) (cZ u 2) (cw_a rfl) (cw_a rfl) (cw_a rfl) (by decide) E0 ((B + S)) (by omega) (by omega)) gX6_leaveFrame_X0_clearFrom rfl 2 rfl (by decide +kernel) (by decide) ⟨Nat.le_of_ble_eq_true rfl, Nat.le_of_ble_eq_true rfl⟩ rfl (Nat.le_of_ble_eq_true rfl) (detv ?_)
      refine V_ws (cw_L2 K h (tI (tC u d) 0 (nI d)) (zFn (cL u 2) E0 ((B + S))) (zGn (cZ u 2) E0 ((B + S)))) ?_
      refine V_aload_n C dX6_leaveFrame_60 rfl 2 rfl ?_
      refine V_aload_n C dX6_leaveFrame_61 rfl 2 rfl ?_
      refine V_get (v := .ref (h (22 + d))) C dX6_leaveFrame_62 hi6 2 (cw_a rfl) rfl 4 (by decide) (List.mem_of_getElem? (i := 3) rfl) rfl rfl ?_
      refine V_getN (v := .int (cF u d 0)) C gn hg dX6_leaveFrame_65 hi1 (22 + d) (cw_f hd41) rfl 0 (by decide) (List.mem_of_getElem? (i := 5) rfl) rfl rfl ?_
      rw [hB]
      refine V_gcallvV C go hg dX6_leaveFrame_68 2 (cw_a rfl) rfl (c_X6_fillDownTo l D K G tb ga9 h (tL (tI (tC u d) 0 (nI d)) 2 (zFn (cL u 2) E0 ((B + S))) (zGn (cZ u 2) E0 ((B + S)))) B L hL hL2 (by omega)) gX6_leaveFrame_X6_fillDownTo rfl 1 rfl (by decide +kernel) (by decide) ⟨Nat.le_of_ble_eq_true rfl, Nat.le_of_ble_eq_true rfl⟩ rfl (Nat.le_of_ble_eq_true rfl) (det1 ?_)
      refine V_ws (ws' := cw K h (rLv u d E0 B S L)) (congrArg (cw K h) rfl) ?_
      refine V_aload_n C dX6_leaveFrame_71 rfl 2 rfl ?_
      refine V_get (v := .ref (h (22 + (cC (rLv u d E0 B S L))))) C dX6_leaveFrame_72 hi6 2 (cw_a rfl) rfl 4 (by decide) (List.mem_of_getElem? (i := 3) rfl) rfl rfl ?_
      refine V_getN (v := .int (cF (rLv u d E0 B S L) (cC (rLv u d E0 B S L)) 5)) C gn hg dX6_leaveFrame_75 hi1 (22 + (cC (rLv u d E0 B S L))) (cw_f hd41) rfl 5 (by decide) (List.mem_of_getElem? (i := 15) rfl) rfl rfl ?_
      exact E (cF (rLv u d E0 B S L) (cC (rLv u d E0 B S L)) 5) (rLv u d E0 B S L) _ _ dX6_leaveFrame_78 rfl ⟨rfl, rfl⟩
    · exact absurd (nI_lt (a := d) (b := 41) (by omega) (by omega)) zh17

set_option maxHeartbeats 4000000 in
set_option maxRecDepth 100000 in
theorem c_X6_clearStack (l : Launch) (D : va_G) (K : Nat → ClassId) (G : gE) (tb : Nat → Nat) (ga9 : gAll G tb) (h : Nat → Nat) (u : CS)  (hC : cC u < 41) : gMv l D vwCl (tys0 K) G yX6_clearStack wsX6_clearStack ({ frames := 3, cells := 0, slots := 0, locals := 70 } : Room) [.ref (h 2)] (cw K h u) (cw K h) (fun u9 => u9 = rCl u) := by
  refine gMv_of (cc := cX6_clearStack) (nL := 1) (by decide) rfl (Nat.le_of_ble_eq_true rfl) ?_
  intro X C hg E
  show V X 0 0 (cw K h u) 0 [(0, .ref (h 2))] []
  have go := ga9.1
  have gn := ga9.2.1
  have gt := ga9.2.2
  have hi6 : ∀ w ∈ wsX60, w ∈ wsX6_clearStack := fun _ h => List.mem_cons_of_mem _ (List.mem_append_left _ (List.mem_append_left _ (List.mem_append_right _ h)))
  refine V_aload_n C dX6_clearStack_0 rfl 0 rfl ?_
  refine V_get (v := .ref (h 11)) C dX6_clearStack_1 hi6 2 (cw_a rfl) rfl 1 (by decide) (List.mem_of_getElem? (i := 1) rfl) rfl rfl ?_
  refine V_iconst (v := 0) C dX6_clearStack_4 (by decide) ?_
  refine V_bipush (v := 120) C dX6_clearStack_5 (by decide) ?_
  refine V_callvV C dX6_clearStack_7 11 (cw_a rfl) rfl (c_X0_clearFrom l D K (cw K h u) 11 12 13 (h 11) (h 12) (h 13) 120 (cL u 2) (cZ u 2) (cw_a rfl) (cw_a rfl) (cw_a rfl) (by decide) 0 120 (by decide) (by decide)) gX6_clearStack_X0_clearFrom rfl 2 rfl (by decide +kernel) (by decide) ⟨Nat.le_of_ble_eq_true rfl, Nat.le_of_ble_eq_true rfl⟩ rfl (Nat.le_of_ble_eq_true rfl) (detv ?_)
  refine V_ws (cw_L2 K h u (zFn (cL u 2) 0 120) (zGn (cZ u 2) 0 120)) ?_
  refine V_aload_n C dX6_clearStack_10 rfl 0 rfl ?_
  refine V_get (v := .ref (h 14)) C dX6_clearStack_11 hi6 2 (cw_a rfl) rfl 2 (by decide) (List.mem_of_getElem? (i := 2) rfl) rfl rfl ?_
  refine V_iconst (v := 0) C dX6_clearStack_14 (by decide) ?_
  refine V_bipush (v := 120) C dX6_clearStack_15 (by decide) ?_
  refine V_callvV C dX6_clearStack_17 14 (cw_a rfl) rfl (c_X0_clearFrom l D K (cw K h (tL u 2 (zFn (cL u 2) 0 120) (zGn (cZ u 2) 0 120))) 14 15 16 (h 14) (h 15) (h 16) 120 (cL u 3) (cZ u 3) (cw_a rfl) (cw_a rfl) (cw_a rfl) (by decide) 0 120 (by decide) (by decide)) gX6_clearStack_X0_clearFrom rfl 2 rfl (by decide +kernel) (by decide) ⟨Nat.le_of_ble_eq_true rfl, Nat.le_of_ble_eq_true rfl⟩ rfl (Nat.le_of_ble_eq_true rfl) (detv ?_)
  refine V_ws (cw_L3 K h (tL u 2 (zFn (cL u 2) 0 120) (zGn (cZ u 2) 0 120)) (zFn (cL u 3) 0 120) (zGn (cZ u 3) 0 120)) ?_
  refine V_aload_n C dX6_clearStack_20 rfl 0 rfl ?_
  refine V_aload_n C dX6_clearStack_21 rfl 0 rfl ?_
  refine V_get (v := .ref (h 17)) C dX6_clearStack_22 hi6 2 (cw_a rfl) rfl 3 (by decide) (List.mem_of_getElem? (i := 3) rfl) rfl rfl ?_
  refine V_iconst (v := 0) C dX6_clearStack_25 (by decide) ?_
  refine V_aald (v := some (h (22 + 0))) C dX6_clearStack_26 17 3 (cw_a rfl) rfl (0) (by decide) (by unfold vp_in; decide) rfl ?_
  refine V_put (ws' := (cw K h (tC (tL (tL u 2 (zFn (cL u 2) 0 120) (zGn (cZ u 2) 0 120)) 3 (zFn (cL u 3) 0 120) (zGn (cZ u 3) 0 120)) 0))) C dX6_clearStack_27 hi6 tyX6_ok nmX6 2 (cw_a rfl) rfl 4 (by decide) (List.mem_of_getElem? (i := 4) rfl) rfl rfl rfl rfl rfl (Nat.le_of_ble_eq_true rfl) (cw_sa (by decide) rfl rfl rfl) ?_
  refine V_aload_n C dX6_clearStack_30 rfl 0 rfl ?_
  refine V_get (v := .ref (h (22 + 0))) C dX6_clearStack_31 hi6 2 (cw_a rfl) rfl 4 (by decide) (List.mem_of_getElem? (i := 4) rfl) rfl rfl ?_
  refine V_iconst (v := 0) C dX6_clearStack_34 (by decide) ?_
  refine V_iconst (v := 0) C dX6_clearStack_35 (by decide) ?_
  refine V_callvV C dX6_clearStack_36 (22 + 0) (cw_f (by decide)) rfl (c_X1_begin l D K (cw K h (tC (tL (tL u 2 (zFn (cL u 2) 0 120) (zGn (cZ u 2) 0 120)) 3 (zFn (cL u 3) 0 120) (zGn (cZ u 3) 0 120)) 0)) (22 + 0) (h (22 + 0)) (cF (tC (tL (tL u 2 (zFn (cL u 2) 0 120) (zGn (cZ u 2) 0 120)) 3 (zFn (cL u 3) 0 120) (zGn (cZ u 3) 0 120)) 0) 0 0) (cF (tC (tL (tL u 2 (zFn (cL u 2) 0 120) (zGn (cZ u 2) 0 120)) 3 (zFn (cL u 3) 0 120) (zGn (cZ u 3) 0 120)) 0) 0 1) (cF (tC (tL (tL u 2 (zFn (cL u 2) 0 120) (zGn (cZ u 2) 0 120)) 3 (zFn (cL u 3) 0 120) (zGn (cZ u 3) 0 120)) 0) 0 2) (cF (tC (tL (tL u 2 (zFn (cL u 2) 0 120) (zGn (cZ u 2) 0 120)) 3 (zFn (cL u 3) 0 120) (zGn (cZ u 3) 0 120)) 0) 0 3) (cF (tC (tL (tL u 2 (zFn (cL u 2) 0 120) (zGn (cZ u 2) 0 120)) 3 (zFn (cL u 3) 0 120) (zGn (cZ u 3) 0 120)) 0) 0 4) (cF (tC (tL (tL u 2 (zFn (cL u 2) 0 120) (zGn (cZ u 2) 0 120)) 3 (zFn (cL u 3) 0 120) (zGn (cZ u 3) 0 120)) 0) 0 5) (cw_f (by decide)) 0 0) gX6_clearStack_X1_begin rfl 2 rfl (by decide +kernel) (by decide) ⟨Nat.le_of_ble_eq_true rfl, Nat.le_of_ble_eq_true rfl⟩ rfl (Nat.le_of_ble_eq_true rfl) (detv ?_)
  refine V_ws (cw_tB K h (tC (tL (tL u 2 (zFn (cL u 2) 0 120) (zGn (cZ u 2) 0 120)) 3 (zFn (cL u 3) 0 120) (zGn (cZ u 3) 0 120)) 0) 0 0 (by decide)) ?_
  refine V_aload_n C dX6_clearStack_39 rfl 0 rfl ?_
  refine V_iconst (v := 0) C dX6_clearStack_40 (by decide) ?_
  refine V_put (ws' := (cw K h (tI (tB (tC (tL (tL u 2 (zFn (cL u 2) 0 120) (zGn (cZ u 2) 0 120)) 3 (zFn (cL u 3) 0 120) (zGn (cZ u 3) 0 120)) 0) 0 0 0) 0 0))) C dX6_clearStack_41 hi6 tyX6_ok nmX6 2 (cw_a rfl) rfl 5 (by decide) (List.mem_of_getElem? (i := 5) rfl) rfl rfl rfl rfl rfl (Nat.le_of_ble_eq_true rfl) (cw_sa (by decide) rfl rfl rfl) ?_
  refine V_aload_n C dX6_clearStack_44 rfl 0 rfl ?_
  refine V_iconst (v := 0) C dX6_clearStack_45 (by decide) ?_
  refine V_put (ws' := (cw K h (tI (tI (tB (tC (tL (tL u 2 (zFn (cL u 2) 0 120) (zGn (cZ u 2) 0 120)) 3 (zFn (cL u 3) 0 120) (zGn (cZ u 3) 0 120)) 0) 0 0 0) 0 0) 1 0))) C dX6_clearStack_46 hi6 tyX6_ok nmX6 2 (cw_a rfl) rfl 6 (by decide) (List.mem_of_getElem? (i := 6) rfl) rfl rfl rfl rfl rfl (Nat.le_of_ble_eq_true rfl) (cw_sa (by decide) rfl rfl rfl) ?_
  refine V_aload_n C dX6_clearStack_49 rfl 0 rfl ?_
  refine V_iconst (v := 0) C dX6_clearStack_50 (by decide) ?_
  refine V_put (ws' := (cw K h (tI (tI (tI (tB (tC (tL (tL u 2 (zFn (cL u 2) 0 120) (zGn (cZ u 2) 0 120)) 3 (zFn (cL u 3) 0 120) (zGn (cZ u 3) 0 120)) 0) 0 0 0) 0 0) 1 0) 2 0))) C dX6_clearStack_51 hi6 tyX6_ok nmX6 2 (cw_a rfl) rfl 7 (by decide) (List.mem_of_getElem? (i := 7) rfl) rfl rfl rfl rfl rfl (Nat.le_of_ble_eq_true rfl) (cw_sa (by decide) rfl rfl rfl) ?_
  refine V_aload_n C dX6_clearStack_54 rfl 0 rfl ?_
  refine V_iconst (v := 0) C dX6_clearStack_55 (by decide) ?_
  refine V_put (ws' := (cw K h (tI (tI (tI (tI (tB (tC (tL (tL u 2 (zFn (cL u 2) 0 120) (zGn (cZ u 2) 0 120)) 3 (zFn (cL u 3) 0 120) (zGn (cZ u 3) 0 120)) 0) 0 0 0) 0 0) 1 0) 2 0) 3 0))) C dX6_clearStack_56 hi6 tyX6_ok nmX6 2 (cw_a rfl) rfl 8 (by decide) (List.mem_of_getElem? (i := 8) rfl) rfl rfl rfl rfl rfl (Nat.le_of_ble_eq_true rfl) (cw_sa (by decide) rfl rfl rfl) ?_
  exact E (tI (tI (tI (tI (tB (tC (tL (tL u 2 (zFn (cL u 2) 0 120) (zGn (cZ u 2) 0 120)) 3 (zFn (cL u 3) 0 120) (zGn (cZ u 3) 0 120)) 0) 0 0 0) 0 0) 1 0) 2 0) 3 0) _ _ dX6_clearStack_59 (rfl)

