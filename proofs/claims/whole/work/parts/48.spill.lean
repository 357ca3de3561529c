theorem tnI (x : Int32) : (tn x : Int) = max x.toInt 0 := by
  show ((x.toInt.toNat : Nat) : Int) = _
  omega
theorem lt_tn {x : Int32} {j : Nat} (hj : j < 2 ^ 31) : nI j < x ↔ j < tn x := by
  rw [Int32.lt_iff_toInt_lt, nI_toInt hj]
  have := tnI x
  omega
theorem le_tn {x : Int32} {j : Nat} (hj : j < 2 ^ 31) : x ≤ nI j ↔ tn x ≤ j := by
  rw [Int32.le_iff_toInt_le, nI_toInt hj]
  have := tnI x
  omega
theorem mx_tn {x : Int32} {L : Nat} (hL : L < 2 ^ 31) : (if nI L < x then x else nI L) = nI (max L (tn x)) := by
  by_cases h : nI L < x
  · rw [if_pos h]
    have h2 := (lt_tn hL).mp h
    have h3 : 0 ≤ x.toInt := by
      have := tnI x
      omega
    rw [Nat.max_eq_right (by omega)]
    exact nI_tn h3
  · rw [if_neg h, Nat.max_eq_left (Nat.le_of_not_lt (fun q => h ((lt_tn hL).mpr q)))]
theorem mn_nI {L B : Nat} (hL : L < 2 ^ 31) (hB : B < 2 ^ 31) : (if nI B < nI L then nI B else nI L) = nI (min L B) := by
  by_cases h : B < L
  · rw [if_pos (nI_lt h hL), Nat.min_eq_right (by omega)]
  · rw [if_neg (nI_nlt (by omega) hB), Nat.min_eq_left (by omega)]
theorem CS_ext {u v : CS} (hI : cI u = cI v) (hE : cE u = cE v) (hN : cN u = cN v) (hL : cL u = cL v) (hZ : cZ u = cZ v) (hF : cF u = cF v) (hQ : cQ u = cQ v) (hS : cS u = cS v) (hC : cC u = cC v) (hP : cP u = cP v) : u = v := by
  obtain ⟨a0, a1, a2, a3, a4, a5, a6, a7, a8, a9⟩ := u
  obtain ⟨b0, b1, b2, b3, b4, b5, b6, b7, b8, b9⟩ := v
  have q0 : a0 = b0 := hI
  have q1 : a1 = b1 := hE
  have q2 : a2 = b2 := hN
  have q3 : a3 = b3 := hL
  have q4 : a4 = b4 := hZ
  have q5 : a5 = b5 := hF
  have q6 : a6 = b6 := hQ
  have q7 : a7 = b7 := hS
  have q8 : a8 = b8 := hC
  have q9 : a9 = b9 := hP
  subst q0; subst q1; subst q2; subst q3; subst q4; subst q5; subst q6; subst q7; subst q8; subst q9; rfl
/-- two rows copied: from a to b - 1 out of g -/
def cpy {α : Type} (f g : Nat → α) (a b : Nat) : Nat → α := fun i => if a ≤ i ∧ i < b then g i else f i
theorem cpy_id {α : Type} (f g : Nat → α) {a b : Nat} (h : b ≤ a) : cpy f g a b = f := by funext i; unfold cpy; rw [if_neg (by omega)]
theorem cVal_nI {f : Nat → Int64} {N j : Nat} (hN : N < 2 ^ 31) (h : j < N) : cVal N f (nI j).toInt64 = f j := by
  unfold cVal; rw [if_pos (cHas_nI hN h), ix64_nI (by omega)]
theorem cNat_nI {g : Nat → Bool} {N j : Nat} (hN : N < 2 ^ 31) (h : j < N) : cNat N g (nI j).toInt64 = g j := by
  unfold cNat; rw [cHas_nI hN h, ix64_nI (by omega)]; rfl
theorem cWv_up {f g : Nat → Int64} {a j N : Nat} (hN : N < 2 ^ 31) (h : a ≤ j) (hj : j < N) : cWv N (cpy f g a j) (nI j).toInt64 (cVal N g (nI j).toInt64) = cpy f g a (j + 1) := by
  rw [cVal_nI hN hj]; unfold cWv; rw [if_pos (cHas_nI hN hj), ix64_nI (by omega)]
  funext i; unfold vp_updL cpy
  by_cases e : i = j
  · subst e; simp [h]
  · rw [if_neg e]; congr 1; apply propext; omega
theorem cWn_up {f g : Nat → Bool} {a j N : Nat} (hN : N < 2 ^ 31) (h : a ≤ j) (hj : j < N) : cWn N (cpy f g a j) (nI j).toInt64 (cNat N g (nI j).toInt64) = cpy f g a (j + 1) := by
  rw [cNat_nI hN hj]; unfold cWn; rw [if_pos (cHas_nI hN hj), ix64_nI (by omega)]
  funext i; unfold va_up cpy
  by_cases e : i = j
  · subst e; simp [h]
  · rw [if_neg e]; congr 1; apply propext; omega
theorem cWv_dn {f g : Nat → Int64} {i b N : Nat} (hN : N < 2 ^ 31) (h : i < b) (hj : i < N) : cWv N (cpy f g (i + 1) b) (nI i).toInt64 (cVal N g (nI i).toInt64) = cpy f g i b := by
  rw [cVal_nI hN hj]; unfold cWv; rw [if_pos (cHas_nI hN hj), ix64_nI (by omega)]
  funext k; unfold vp_updL cpy
  by_cases e : k = i
  · subst e; simp [h]
  · rw [if_neg e]; congr 1; apply propext; omega
theorem cWn_dn {f g : Nat → Bool} {i b N : Nat} (hN : N < 2 ^ 31) (h : i < b) (hj : i < N) : cWn N (cpy f g (i + 1) b) (nI i).toInt64 (cNat N g (nI i).toInt64) = cpy f g i b := by
  rw [cNat_nI hN hj]; unfold cWn; rw [if_pos (cHas_nI hN hj), ix64_nI (by omega)]
  funext k; unfold va_up cpy
  by_cases e : k = i
  · subst e; simp [h]
  · rw [if_neg e]; congr 1; apply propext; omega
theorem tLI2 (u : CS) (j k : Nat) (F F2 : Nat → Int64) (G G2 : Nat → Bool) (s s2 : Int32) : tI (tL (tI (tL u j F G) k s) j F2 G2) k s2 = tI (tL u j F2 G2) k s2 := by
  refine CS_ext ?_ rfl rfl ?_ ?_ rfl rfl rfl rfl rfl
  · funext i; show (if i = k then s2 else if i = k then s else cI u i) = (if i = k then s2 else cI u i); split <;> rfl
  · funext i; show (if i = j then F2 else if i = j then F else cL u i) = (if i = j then F2 else cL u i); split <;> rfl
  · funext i; show (if i = j then G2 else if i = j then G else cZ u i) = (if i = j then G2 else cZ u i); split <;> rfl
theorem tLI0 (u : CS) (j k : Nat) : tI (tL u j (cL u j) (cZ u j)) k (cI u k) = u := by
  refine CS_ext ?_ rfl rfl ?_ ?_ rfl rfl rfl rfl rfl
  · funext i; show (if i = k then cI u k else cI u i) = cI u i; split
    · rename_i q; rw [q]
    · rfl
  · funext i; show (if i = j then cL u j else cL u i) = cL u i; split
    · rename_i q; rw [q]
    · rfl
  · funext i; show (if i = j then cZ u j else cZ u i) = cZ u i; split
    · rename_i q; rw [q]
    · rfl
def rSp (u : CS) (L E : Nat) : CS := tI (tI (tL u 3 (cpy (cL u 3) (cL u 2) L (max L E)) (cpy (cZ u 3) (cZ u 2) L (max L E))) 2 (cI u 2 + nI (max L E - L))) 1 (nI (max L E))
def rFi (u : CS) (L B : Nat) : CS := tI (tI (tL u 2 (cpy (cL u 2) (cL u 3) (min L B) L) (cpy (cZ u 2) (cZ u 3) (min L B) L)) 3 (cI u 3 + nI (L - min L B))) 1 (nI (min L B))
set_option maxHeartbeats 4000000 in
set_option maxRecDepth 100000 in
theorem c_X6_spillBelow (l : Launch) (D : va_G) (K : Nat → ClassId) (G : gE) (tb : Nat → Nat) (ga9 : gAll G tb) (h : Nat → Nat) (u : CS) (xe : Int32) (L : Nat) (hL : cI u 1 = nI L) (hL2 : L ≤ 120) (hE2 : tn xe ≤ 120) : gMv l D vwCl (tys0 K) G yX6_spillBelow wsX6_spillBelow ({ frames := 2, cells := 0, slots := 0, locals := 47 } : Room) [.ref (h 2), .int xe] (cw K h u) (cw K h) (fun u9 => u9 = rSp u L (tn xe)) := by
  refine gMv_of (cc := cX6_spillBelow) (nL := 3) (by decide) rfl (Nat.le_of_ble_eq_true rfl) ?_
  intro X C hg E
  show V X 0 0 (cw K h u) 0 [(0, .ref (h 2)), (1, .int xe)] []
  have go := ga9.1
  have gn := ga9.2.1
  have gt := ga9.2.2
  have hi6 : ∀ w ∈ wsX60, w ∈ wsX6_spillBelow := fun _ h => List.mem_cons_of_mem _ (List.mem_append_left _ (List.mem_append_right _ h))
  refine V_aload_n C dX6_spillBelow_0 rfl 0 rfl ?_
  refine V_get (v := .int (cI u 1)) C dX6_spillBelow_1 hi6 2 (cw_a rfl) rfl 6 (by decide) (List.mem_of_getElem? (i := 1) rfl) rfl rfl ?_
  rw [hL]
  refine V_istore_n (lv' := [(2, .int (nI L)), (0, .ref (h 2)), (1, .int xe)]) C dX6_spillBelow_4 rfl (by decide) rfl ?_
  suffices zx : V X 0 0 (cw K h (tI (tL u 3 (cpy (cL u 3) (cL u 2) L (max L (tn xe))) (cpy (cZ u 3) (cZ u 2) L (max L (tn xe)))) 2 (cI u 2 + nI (max L (tn xe) - L)))) 53 [(0, .ref (h 2)), (1, .int xe)] [] by
    have zl : ∀ (m j : Nat), L ≤ j → (j ≤ tn xe ∨ j = L) → tn xe - j = m → V X 0 0 (cw K h (tI (tL u 3 (cpy (cL u 3) (cL u 2) L j) (cpy (cZ u 3) (cZ u 2) L j)) 2 (cI u 2 + nI (j - L)))) 5 [(2, .int (nI j)), (0, .ref (h 2)), (1, .int xe)] [] := by
      intro m
      induction m with
      | zero =>
        intro j hj hj2 hjm
        refine V_iload_n C dX6_spillBelow_5 rfl 0 rfl ?_
        refine V_iload_n C dX6_spillBelow_6 rfl 2 rfl ?_
        refine V_icmp_ge (tgt := 53) C dX6_spillBelow_7 (by decide) (fun zh7 => ?_) (fun zh7 => ?_)
        · have zj : j = max L (tn xe) := by omega
          rw [← zj] at zx
          exact V_sub [1, 2] rfl zx
        · exact absurd ((le_tn (by omega)).mpr (by omega)) zh7
      | succ m ih =>
        intro j hj hj2 hjm
        refine V_iload_n C dX6_spillBelow_5 rfl 0 rfl ?_
        refine V_iload_n C dX6_spillBelow_6 rfl 2 rfl ?_
        refine V_icmp_ge (tgt := 53) C dX6_spillBelow_7 (by decide) (fun zh7 => ?_) (fun zh7 => ?_)
        · exact absurd ((le_tn (by omega)).mp zh7) (by omega)
        · refine V_aload_n C dX6_spillBelow_10 rfl 1 rfl ?_
          refine V_get (v := .ref (h 14)) C dX6_spillBelow_11 hi6 2 (cw_a rfl) rfl 2 (by decide) (List.mem_of_getElem? (i := 2) rfl) rfl rfl ?_
          refine V_iload_n C dX6_spillBelow_14 rfl 0 rfl ?_
          refine V_i2l C dX6_spillBelow_15 ?_
          refine V_aload_n C dX6_spillBelow_16 rfl 1 rfl ?_
          refine V_get (v := .ref (h 11)) C dX6_spillBelow_17 hi6 2 (cw_a rfl) rfl 1 (by decide) (List.mem_of_getElem? (i := 3) rfl) rfl rfl ?_
          refine V_iload_n C dX6_spillBelow_20 rfl 0 rfl ?_
          refine V_i2l C dX6_spillBelow_21 ?_
          refine V_calllV C dX6_spillBelow_22 11 (cw_a rfl) rfl (c_X0_valueAt l D K (cw K h (tI (tL u 3 (cpy (cL u 3) (cL u 2) L j) (cpy (cZ u 3) (cZ u 2) L j)) 2 (cI u 2 + nI (j - L)))) 11 12 13 (h 11) (h 12) (h 13) 120 (cL u 2) (cZ u 2) (cw_a rfl) (cw_a rfl) (cw_a rfl) (by decide) (Int32.toInt64 (nI j))) gX6_spillBelow_X0_valueAt rfl 1 rfl (by decide +kernel) (by decide) ⟨Nat.le_of_ble_eq_true rfl, Nat.le_of_ble_eq_true rfl⟩ rfl (Nat.le_of_ble_eq_true rfl) (det0 ?_)
          refine V_aload_n C dX6_spillBelow_25 rfl 1 rfl ?_
          refine V_get (v := .ref (h 11)) C dX6_spillBelow_26 hi6 2 (cw_a rfl) rfl 1 (by decide) (List.mem_of_getElem? (i := 3) rfl) rfl rfl ?_
          refine V_iload_n C dX6_spillBelow_29 rfl 0 rfl ?_
          refine V_i2l C dX6_spillBelow_30 ?_
          refine V_calliV C dX6_spillBelow_31 11 (cw_a rfl) rfl (c_X0_natAt l D K (cw K h (tI (tL u 3 (cpy (cL u 3) (cL u 2) L j) (cpy (cZ u 3) (cZ u 2) L j)) 2 (cI u 2 + nI (j - L)))) 11 12 13 (h 11) (h 12) (h 13) 120 (cL u 2) (cZ u 2) (cw_a rfl) (cw_a rfl) (cw_a rfl) (by decide) (Int32.toInt64 (nI j))) gX6_spillBelow_X0_natAt rfl 1 rfl (by decide +kernel) (by decide) ⟨Nat.le_of_ble_eq_true rfl, Nat.le_of_ble_eq_true rfl⟩ rfl (Nat.le_of_ble_eq_true rfl) (det0 ?_)
          refine V_callvV C dX6_spillBelow_34 14 (cw_a rfl) rfl (c_X0_write l D K (cw K h (tI (tL u 3 (cpy (cL u 3) (cL u 2) L j) (cpy (cZ u 3) (cZ u 2) L j)) 2 (cI u 2 + nI (j - L)))) 14 15 16 (h 14) (h 15) (h 16) 120 (cpy (cL u 3) (cL u 2) L j) (cpy (cZ u 3) (cZ u 2) L j) (cw_a rfl) (cw_a rfl) (cw_a rfl) (by decide) (Int32.toInt64 (nI j)) (cVal 120 (cL u 2) (Int32.toInt64 (nI j))) (cNat 120 (cZ u 2) (Int32.toInt64 (nI j)))) gX6_spillBelow_X0_write rfl 3 rfl (by decide +kernel) (by decide) ⟨Nat.le_of_ble_eq_true rfl, Nat.le_of_ble_eq_true rfl⟩ rfl (Nat.le_of_ble_eq_true rfl) (detv ?_)
          refine V_ws (cw_L3 K h (tI (tL u 3 (cpy (cL u 3) (cL u 2) L j) (cpy (cZ u 3) (cZ u 2) L j)) 2 (cI u 2 + nI (j - L))) (cWv 120 (cpy (cL u 3) (cL u 2) L j) (Int32.toInt64 (nI j)) (cVal 120 (cL u 2) (Int32.toInt64 (nI j)))) (cWn 120 (cpy (cZ u 3) (cZ u 2) L j) (Int32.toInt64 (nI j)) (cNat 120 (cZ u 2) (Int32.toInt64 (nI j))))) ?_
          refine V_aload_n C dX6_spillBelow_37 rfl 1 rfl ?_
          refine V_dup C dX6_spillBelow_38 rfl ?_
          refine V_get (v := .int (cI u 2 + nI (j - L))) C dX6_spillBelow_39 hi6 2 (cw_a rfl) rfl 7 (by decide) (List.mem_of_getElem? (i := 4) rfl) rfl rfl ?_
          refine V_iconst (v := 1) C dX6_spillBelow_42 (by decide) ?_
          refine V_iadd C dX6_spillBelow_43 ?_
          refine V_put (ws' := (cw K h (tI (tL (tI (tL u 3 (cpy (cL u 3) (cL u 2) L j) (cpy (cZ u 3) (cZ u 2) L j)) 2 (cI u 2 + nI (j - L))) 3 (cWv 120 (cpy (cL u 3) (cL u 2) L j) (Int32.toInt64 (nI j)) (cVal 120 (cL u 2) (Int32.toInt64 (nI j)))) (cWn 120 (cpy (cZ u 3) (cZ u 2) L j) (Int32.toInt64 (nI j)) (cNat 120 (cZ u 2) (Int32.toInt64 (nI j))))) 2 ((cI u 2 + nI (j - L)) + 1)))) C dX6_spillBelow_44 hi6 tyX6_ok nmX6 2 (cw_a rfl) rfl 7 (by decide) (List.mem_of_getElem? (i := 4) rfl) rfl rfl rfl rfl rfl (Nat.le_of_ble_eq_true rfl) (cw_sa (by decide) rfl rfl rfl) ?_
          refine V_iinc (lv' := [(2, .int (nI (j + 1))), (0, .ref (h 2)), (1, .int xe)]) C dX6_spillBelow_47 (j := 0) rfl (nI_1 _) (by decide) rfl ?_
          refine V_goto (tgt := 5) C dX6_spillBelow_50 (by decide) ?_
          exact V_ws (congrArg (cw K h) (by rw [tLI2]; rw [cWv_up (by decide) hj (by omega), cWn_up (by decide) hj (by omega), Int32.add_assoc, nI_1, show j + 1 - L = j - L + 1 by omega])) (V_sub [0, 1, 2] rfl (ih (j + 1) (by omega) (Or.inl (by omega)) (by omega)))
    exact V_ws (congrArg (cw K h) (by rw [cpy_id _ _ (Nat.le_refl L), cpy_id _ _ (Nat.le_refl L), Nat.sub_self, nI_0, Int32.add_zero, tLI0])) (V_sub [0, 1, 2] rfl (zl (tn xe - L) L (Nat.le_refl L) (Or.inr rfl) rfl))
  refine V_aload_n C dX6_spillBelow_53 rfl 0 rfl ?_
  refine V_aload_n C dX6_spillBelow_54 rfl 0 rfl ?_
  refine V_get (v := .int (cI u 1)) C dX6_spillBelow_55 hi6 2 (cw_a rfl) rfl 6 (by decide) (List.mem_of_getElem? (i := 1) rfl) rfl rfl ?_
  refine V_iload_n C dX6_spillBelow_58 rfl 1 rfl ?_
  rw [hL]
  refine V_mmax C dX6_spillBelow_59 (List.mem_of_getElem? (i := 5) rfl) (List.mem_of_getElem? (i := 6) rfl) (List.mem_of_getElem? (i := 7) rfl) (List.mem_of_getElem? (i := 8) rfl) (by decide) (Nat.le_of_ble_eq_true rfl) (by decide) (by decide) ?_
  rw [mx_tn (by omega)]
  refine V_put (ws' := (cw K h (tI (tI (tL u 3 (cpy (cL u 3) (cL u 2) L (max L (tn xe))) (cpy (cZ u 3) (cZ u 2) L (max L (tn xe)))) 2 (cI u 2 + nI ((max L (tn xe)) - L))) 1 (nI (max L (tn xe)))))) C dX6_spillBelow_62 hi6 tyX6_ok nmX6 2 (cw_a rfl) rfl 6 (by decide) (List.mem_of_getElem? (i := 1) rfl) rfl rfl rfl rfl rfl (Nat.le_of_ble_eq_true rfl) (cw_sa (by decide) rfl rfl rfl) ?_
  exact E (tI (tI (tL u 3 (cpy (cL u 3) (cL u 2) L (max L (tn xe))) (cpy (cZ u 3) (cZ u 2) L (max L (tn xe)))) 2 (cI u 2 + nI ((max L (tn xe)) - L))) 1 (nI (max L (tn xe)))) _ _ dX6_spillBelow_65 (rfl)

theorem m1_lt {j B : Nat} (hj : j ≤ B) (h1 : j < 2 ^ 30) (h2 : B < 2 ^ 30) : nI j - 1 < nI B := by
  rw [Int32.lt_iff_toInt_lt, show (1 : Int32) = nI 1 from rfl, pk_sub_toInt h1 (by omega), nI_toInt (by omega)]
  omega
set_option maxHeartbeats 4000000 in
set_option maxRecDepth 100000 in
theorem c_X6_fillDownTo (l : Launch) (D : va_G) (K : Nat → ClassId) (G : gE) (tb : Nat → Nat) (ga9 : gAll G tb) (h : Nat → Nat) (u : CS) (xB : Nat) (L : Nat) (hL : cI u 1 = nI L) (hL2 : L ≤ 120) (hB2 : xB ≤ 120) : gMv l D vwCl (tys0 K) G yX6_fillDownTo wsX6_fillDownTo ({ frames := 2, cells := 0, slots := 0, locals := 47 } : Room) [.ref (h 2), .int (nI xB)] (cw K h u) (cw K h) (fun u9 => u9 = rFi u L xB) := by
  refine gMv_of (cc := cX6_fillDownTo) (nL := 3) (by decide) rfl (Nat.le_of_ble_eq_true rfl) ?_
  intro X C hg E
  show V X 0 0 (cw K h u) 0 [(0, .ref (h 2)), (1, .int (nI xB))] []
  have go := ga9.1
  have gn := ga9.2.1
  have gt := ga9.2.2
  have hi6 : ∀ w ∈ wsX60, w ∈ wsX6_fillDownTo := fun _ h => List.mem_cons_of_mem _ (List.mem_append_left _ (List.mem_append_right _ h))
  refine V_aload_n C dX6_fillDownTo_0 rfl 0 rfl ?_
  refine V_get (v := .int (cI u 1)) C dX6_fillDownTo_1 hi6 2 (cw_a rfl) rfl 6 (by decide) (List.mem_of_getElem? (i := 1) rfl) rfl rfl ?_
  rw [hL]
  refine V_iconst (v := 1) C dX6_fillDownTo_4 (by decide) ?_
  refine V_isub C dX6_fillDownTo_5 ?_
  refine V_istore_n (lv' := [(2, .int ((nI L) - 1)), (0, .ref (h 2)), (1, .int (nI xB))]) C dX6_fillDownTo_6 rfl (by decide) rfl ?_
  suffices zx : V X 0 0 (cw K h (tI (tL u 2 (cpy (cL u 2) (cL u 3) (min L xB) L) (cpy (cZ u 2) (cZ u 3) (min L xB) L)) 3 (cI u 3 + nI (L - (min L xB))))) 55 [(0, .ref (h 2)), (1, .int (nI xB))] [] by
    have zl : ∀ (m j : Nat), j ≤ L → (xB ≤ j ∨ j = L) → j - xB = m → V X 0 0 (cw K h (tI (tL u 2 (cpy (cL u 2) (cL u 3) j L) (cpy (cZ u 2) (cZ u 3) j L)) 3 (cI u 3 + nI (L - j)))) 7 [(2, .int ((nI j) - 1)), (0, .ref (h 2)), (1, .int (nI xB))] [] := by
      intro m
      induction m with
      | zero =>
        intro j hj hj2 hjm
        refine V_iload_n C dX6_fillDownTo_7 rfl 0 rfl ?_
        refine V_iload_n C dX6_fillDownTo_8 rfl 2 rfl ?_
        refine V_icmp_lt (tgt := 55) C dX6_fillDownTo_9 (by decide) (fun zh9 => ?_) (fun zh9 => ?_)
        · have zj : j = min L xB := by omega
          rw [← zj] at zx
          exact V_sub [1, 2] rfl zx
        · exact absurd (m1_lt (by omega) (by omega) (by omega)) zh9
      | succ m ih =>
        intro j hj hj2 hjm
        obtain ⟨i, rfl⟩ : ∃ i, j = i + 1 := ⟨j - 1, by omega⟩
        rw [nI_pred]
        refine V_iload_n C dX6_fillDownTo_7 rfl 0 rfl ?_
        refine V_iload_n C dX6_fillDownTo_8 rfl 2 rfl ?_
        refine V_icmp_lt (tgt := 55) C dX6_fillDownTo_9 (by decide) (fun zh9 => ?_) (fun zh9 => ?_)
        · exact absurd zh9 (nI_nlt (by omega) (by omega))
        · refine V_aload_n C dX6_fillDownTo_12 rfl 1 rfl ?_
          refine V_get (v := .ref (h 11)) C dX6_fillDownTo_13 hi6 2 (cw_a rfl) rfl 1 (by decide) (List.mem_of_getElem? (i := 2) rfl) rfl rfl ?_
          refine V_iload_n C dX6_fillDownTo_16 rfl 0 rfl ?_
          refine V_i2l C dX6_fillDownTo_17 ?_
          refine V_aload_n C dX6_fillDownTo_18 rfl 1 rfl ?_
          refine V_get (v := .ref (h 14)) C dX6_fillDownTo_19 hi6 2 (cw_a rfl) rfl 2 (by decide) (List.mem_of_getElem? (i := 3) rfl) rfl rfl ?_
          refine V_iload_n C dX6_fillDownTo_22 rfl 0 rfl ?_
          refine V_i2l C dX6_fillDownTo_23 ?_
          refine V_calllV C dX6_fillDownTo_24 14 (cw_a rfl) rfl (c_X0_valueAt l D K (cw K h (tI (tL u 2 (cpy (cL u 2) (cL u 3) (i + 1) L) (cpy (cZ u 2) (cZ u 3) (i + 1) L)) 3 (cI u 3 + nI (L - (i + 1))))) 14 15 16 (h 14) (h 15) (h 16) 120 (cL u 3) (cZ u 3) (cw_a rfl) (cw_a rfl) (cw_a rfl) (by decide) (Int32.toInt64 (nI i))) gX6_fillDownTo_X0_valueAt rfl 1 rfl (by decide +kernel) (by decide) ⟨Nat.le_of_ble_eq_true rfl, Nat.le_of_ble_eq_true rfl⟩ rfl (Nat.le_of_ble_eq_true rfl) (det0 ?_)
          refine V_aload_n C dX6_fillDownTo_27 rfl 1 rfl ?_
          refine V_get (v := .ref (h 14)) C dX6_fillDownTo_28 hi6 2 (cw_a rfl) rfl 2 (by decide) (List.mem_of_getElem? (i := 3) rfl) rfl rfl ?_
          refine V_iload_n C dX6_fillDownTo_31 rfl 0 rfl ?_
          refine V_i2l C dX6_fillDownTo_32 ?_
          refine V_calliV C dX6_fillDownTo_33 14 (cw_a rfl) rfl (c_X0_natAt l D K (cw K h (tI (tL u 2 (cpy (cL u 2) (cL u 3) (i + 1) L) (cpy (cZ u 2) (cZ u 3) (i + 1) L)) 3 (cI u 3 + nI (L - (i + 1))))) 14 15 16 (h 14) (h 15) (h 16) 120 (cL u 3) (cZ u 3) (cw_a rfl) (cw_a rfl) (cw_a rfl) (by decide) (Int32.toInt64 (nI i))) gX6_fillDownTo_X0_natAt rfl 1 rfl (by decide +kernel) (by decide) ⟨Nat.le_of_ble_eq_true rfl, Nat.le_of_ble_eq_true rfl⟩ rfl (Nat.le_of_ble_eq_true rfl) (det0 ?_)
          refine V_callvV C dX6_fillDownTo_36 11 (cw_a rfl) rfl (c_X0_write l D K (cw K h (tI (tL u 2 (cpy (cL u 2) (cL u 3) (i + 1) L) (cpy (cZ u 2) (cZ u 3) (i + 1) L)) 3 (cI u 3 + nI (L - (i + 1))))) 11 12 13 (h 11) (h 12) (h 13) 120 (cpy (cL u 2) (cL u 3) (i + 1) L) (cpy (cZ u 2) (cZ u 3) (i + 1) L) (cw_a rfl) (cw_a rfl) (cw_a rfl) (by decide) (Int32.toInt64 (nI i)) (cVal 120 (cL u 3) (Int32.toInt64 (nI i))) (cNat 120 (cZ u 3) (Int32.toInt64 (nI i)))) gX6_fillDownTo_X0_write rfl 3 rfl (by decide +kernel) (by decide) ⟨Nat.le_of_ble_eq_true rfl, Nat.le_of_ble_eq_true rfl⟩ rfl (Nat.le_of_ble_eq_true rfl) (detv ?_)
          refine V_ws (cw_L2 K h (tI (tL u 2 (cpy (cL u 2) (cL u 3) (i + 1) L) (cpy (cZ u 2) (cZ u 3) (i + 1) L)) 3 (cI u 3 + nI (L - (i + 1)))) (cWv 120 (cpy (cL u 2) (cL u 3) (i + 1) L) (Int32.toInt64 (nI i)) (cVal 120 (cL u 3) (Int32.toInt64 (nI i)))) (cWn 120 (cpy (cZ u 2) (cZ u 3) (i + 1) L) (Int32.toInt64 (nI i)) (cNat 120 (cZ u 3) (Int32.toInt64 (nI i))))) ?_
          refine V_aload_n C dX6_fillDownTo_39 rfl 1 rfl ?_
          refine V_dup C dX6_fillDownTo_40 rfl ?_
          refine V_get (v := .int (cI u 3 + nI (L - (i + 1)))) C dX6_fillDownTo_41 hi6 2 (cw_a rfl) rfl 8 (by decide) (List.mem_of_getElem? (i := 4) rfl) rfl rfl ?_
          refine V_iconst (v := 1) C dX6_fillDownTo_44 (by decide) ?_
          refine V_iadd C dX6_fillDownTo_45 ?_
          refine V_put (ws' := (cw K h (tI (tL (tI (tL u 2 (cpy (cL u 2) (cL u 3) (i + 1) L) (cpy (cZ u 2) (cZ u 3) (i + 1) L)) 3 (cI u 3 + nI (L - (i + 1)))) 2 (cWv 120 (cpy (cL u 2) (cL u 3) (i + 1) L) (Int32.toInt64 (nI i)) (cVal 120 (cL u 3) (Int32.toInt64 (nI i)))) (cWn 120 (cpy (cZ u 2) (cZ u 3) (i + 1) L) (Int32.toInt64 (nI i)) (cNat 120 (cZ u 3) (Int32.toInt64 (nI i))))) 3 ((cI u 3 + nI (L - (i + 1))) + 1)))) C dX6_fillDownTo_46 hi6 tyX6_ok nmX6 2 (cw_a rfl) rfl 8 (by decide) (List.mem_of_getElem? (i := 4) rfl) rfl rfl rfl rfl rfl (Nat.le_of_ble_eq_true rfl) (cw_sa (by decide) rfl rfl rfl) ?_
          refine V_iinc (lv' := [(2, .int ((nI i) - 1)), (0, .ref (h 2)), (1, .int (nI xB))]) C dX6_fillDownTo_49 (j := 0) rfl (by rw [Int32.sub_eq_add_neg]; rfl) (by decide) rfl ?_
          refine V_goto (tgt := 7) C dX6_fillDownTo_52 (by decide) ?_
          exact V_ws (congrArg (cw K h) (by rw [tLI2]; rw [cWv_dn (by decide) (by omega) (by omega), cWn_dn (by decide) (by omega) (by omega), Int32.add_assoc, nI_1, show L - (i + 1) + 1 = L - i by omega])) (V_sub [0, 1, 2] rfl (ih i (by omega) (Or.inl (by omega)) (by omega)))
    exact V_ws (congrArg (cw K h) (by rw [cpy_id _ _ (Nat.le_refl L), cpy_id _ _ (Nat.le_refl L), Nat.sub_self, nI_0, Int32.add_zero, tLI0])) (V_sub [0, 1, 2] rfl (zl (L - xB) L (Nat.le_refl L) (Or.inr rfl) rfl))
  refine V_aload_n C dX6_fillDownTo_55 rfl 0 rfl ?_
  refine V_aload_n C dX6_fillDownTo_56 rfl 0 rfl ?_
  refine V_get (v := .int (cI u 1)) C dX6_fillDownTo_57 hi6 2 (cw_a rfl) rfl 6 (by decide) (List.mem_of_getElem? (i := 1) rfl) rfl rfl ?_
  refine V_iload_n C dX6_fillDownTo_60 rfl 1 rfl ?_
  rw [hL]
  refine V_mmin C dX6_fillDownTo_61 (List.mem_of_getElem? (i := 5) rfl) (List.mem_of_getElem? (i := 6) rfl) (List.mem_of_getElem? (i := 7) rfl) (List.mem_of_getElem? (i := 8) rfl) (by decide) (Nat.le_of_ble_eq_true rfl) (by decide) (by decide) ?_
  rw [mn_nI (by omega) (by omega)]
  refine V_put (ws' := (cw K h (tI (tI (tL u 2 (cpy (cL u 2) (cL u 3) (min L xB) L) (cpy (cZ u 2) (cZ u 3) (min L xB) L)) 3 (cI u 3 + nI (L - (min L xB)))) 1 (nI (min L xB))))) C dX6_fillDownTo_64 hi6 tyX6_ok nmX6 2 (cw_a rfl) rfl 6 (by decide) (List.mem_of_getElem? (i := 1) rfl) rfl rfl rfl rfl rfl (Nat.le_of_ble_eq_true rfl) (cw_sa (by decide) rfl rfl rfl) ?_
  exact E (tI (tI (tL u 2 (cpy (cL u 2) (cL u 3) (min L xB) L) (cpy (cZ u 2) (cZ u 3) (min L xB) L)) 3 (cI u 3 + nI (L - (min L xB)))) 1 (nI (min L xB))) _ _ dX6_fillDownTo_67 (rfl)

