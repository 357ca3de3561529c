theorem mBk1_e (u : MS) (H T : Nat) : (ga (mBk1 u H T) = ga u ∧ gz (mBk1 u H T) = gz u ∧ gl (mBk1 u H T) = gl u ∧ gb (mBk1 u H T) = gb u) ∧ ∀ k, k ≠ 22 → gi (mBk1 u H T) k = gi u k := by
  unfold mBk1
  split
  · exact ⟨⟨rfl, rfl, rfl, rfl⟩, fun k hk => by rw [gi_si, if_neg hk]⟩
  · exact ⟨⟨rfl, rfl, rfl, rfl⟩, fun k hk => rfl⟩
theorem mBk2_e (u : MS) (L B : Nat) (hL : L < 2 ^ 31) : (ga (mBk2 u L B) = ga u ∧ gz (mBk2 u L B) = gz u ∧ gl (mBk2 u L B) = gl u ∧ gb (mBk2 u L B) = gb u) ∧ (∀ k, k ≠ 21 → k ≠ 24 → gi (mBk2 u L B) k = gi u k) ∧ gi (mBk2 u L B) 24 = gi u 24 + nI (L - min L B) := by
  unfold mBk2
  split
  · rename_i h
    refine ⟨⟨rfl, rfl, rfl, rfl⟩, fun k hk hk2 => by rw [gi_si, if_neg hk, gi_si, if_neg hk2], ?_⟩
    show gi u 24 + nI L - nI B = _
    rw [show min L B = B by omega, Int32.sub_eq_add_neg, Int32.add_assoc, ← Int32.sub_eq_add_neg, nI_sub (by omega) hL]
  · rename_i h
    refine ⟨⟨rfl, rfl, rfl, rfl⟩, fun k hk hk2 => rfl, ?_⟩
    rw [show L - min L B = 0 by omega, nI_0, Int32.add_zero]
theorem sim_back {n : Nat} {u : CS} {v : MS} (h : RM n u v) (d : Nat) (hc : cC u = d + 1) :
    RM n (tI (rLv u d (fHi (cF u) (cC u)) (tn (cF u d 0)) (tn (cF u d 1)) (tn (cI u 1))) 4 (cF u d 5)) (mBack v (d + 1) (tn (cF u d 0)) (tn (cF u d 1)) (fHi (cF u) (cC u)) (tn (cI u 1))) := by
  obtain ⟨a1, a2, a3, hF, hL, hE, hS, hBk, hX, hM, hP, hat, h5, h6, h23, h24⟩ := h
  rw [hc] at hF hL hE a1 a3
  rw [hc]
  have hFOd := hF.2.1 d (by omega)
  have hFOc := hF.2.1 (d + 1) (Nat.le_refl _)
  have hsv := hF.2.2.2.2.1
  have hch := hF.2.2.1 d (by omega)
  generalize hHe : fHi (cF u) (d + 1) = H at *
  generalize hBe : tn (cF u d 0) = B at *
  generalize hSe : tn (cF u d 1) = S at *
  generalize hLe : tn (cI u 1) = L at *
  have hB120 : B + S ≤ 120 := by have := hFOd.2.2.2.2.2.2; omega
  have hS24 : S ≤ 24 := by have := hFOd.2.2.1; omega
  have hH : H ≤ 120 := by have := hFOc.2.2.2.2.2.2; rw [← hHe]; exact this
  have hLB : L ≤ tn (cF u (d + 1) 0) := hL.1
  have hLH : L ≤ H := by rw [← hHe]; unfold fHi; omega
  have hLd : B + S ≤ L + 24 := by have := hL.2 d (by omega); omega
  have hmx : max (min L B) (B + S - 24) = min L B := by omega
  have hLn : tn (nI (min L B)) = min L B := tn_nI (by omega)
  -- the reference's parts
  let w := mBk2 (mBk1 (mBk0 v (d + 1)) H (B + S)) L B
  have wg : ga w = ga (mBk0 v (d + 1)) := ((mBk2_e _ L B (by omega)).1.1).trans (mBk1_e _ _ _).1.1
  have wz : gz w = gz v := ((mBk2_e _ L B (by omega)).1.2.1).trans (mBk1_e _ _ _).1.2.1
  have wl : gl w = gl v := ((mBk2_e _ L B (by omega)).1.2.2.1).trans (mBk1_e _ _ _).1.2.2.1
  have wi : ∀ k, k ≠ 21 → k ≠ 22 → k ≠ 24 → gi w k = gi (mBk0 v (d + 1)) k := fun k h1 h2 h3 => ((mBk2_e _ L B (by omega)).2.1 k h1 h3).trans ((mBk1_e _ _ _).2 k h2)
  have w24 : gi w 24 = gi v 24 + nI (L - min L B) := ((mBk2_e _ L B (by omega)).2.2).trans (by rw [(mBk1_e _ _ _).2 24 (by omega)]; rfl)
  have G : ∀ k, ga w 25 k = if k = 4 then ga v 25 (6 * (d + 1) + 4) else if k = 3 then ga v 25 (6 * (d + 1) + 3) else if k = 2 then ga v 25 (6 * (d + 1) + 2) else if k = 1 then ga v 25 (6 * (d + 1) + 1) else if k = 0 then ga v 25 (6 * (d + 1) + 0) else ga v 25 k := by
    intro k
    rw [wg]
    unfold mBk0
    simp only [ga_si, ga_sa, true_and]
  have z0 : ∀ x : Int32, x + nI (min L B - min L B) = x := fun x => by rw [Nat.sub_self, nI_0, Int32.add_zero]
  unfold mBack
  refine ⟨⟨rfl, ?_⟩, ⟨?_, ?_⟩, ?_, ⟨?_, ?_, ?_, ?_, ?_, ?_⟩, ⟨?_, ?_⟩, ?_, ?_, ?_, ?_, ?_, ?_, ⟨?_, ?_⟩, ?_, ?_, ?_, ?_⟩
  · show gi w 26 = nI d
    rw [wi 26 (by omega) (by omega) (by omega)]
    show gi v 26 - 1 = nI d
    rw [a1.2, show nI (d + 1) - 1 = nI d from nI_pred d]
  · show isN (nI (min L B)); exact isN_nI (by omega)
  · show nI (max (min L B) (B + S - 24)) = nI (min L B); rw [hmx]
  · show nI (B + S) = nI (fHi (cF u) d); unfold fHi; rw [hBe, hSe]
  · show d ≤ 40; have := hF.1; omega
  · intro k hk; exact hF.2.1 k (by have : k ≤ d := hk; omega)
  · intro k hk; exact hF.2.2.1 k (by have : k < d := hk; omega)
  · intro k hk
    show ga w 25 k = cF u d k
    rw [G]
    rcases (by omega : k = 0 ∨ k = 1 ∨ k = 2 ∨ k = 3 ∨ k = 4) with e | e | e | e | e <;> subst e
    · exact hsv d (by omega) 0 (by omega)
    · exact hsv d (by omega) 1 (by omega)
    · exact hsv d (by omega) 2 (by omega)
    · exact hsv d (by omega) 3 (by omega)
    · exact hsv d (by omega) 4 (by omega)
  · intro e he k hk
    have he : e < d := he
    show ga w 25 (6 * (e + 1) + k) = cF u e k
    rw [G]
    repeat rw [if_neg (by omega)]
    exact hsv e (by omega) k hk
  · intro e he; exact hF.2.2.2.2.2 e (by have : e < d := he; omega)
  · show tn (nI (min L B)) ≤ tn (cF u d 0); rw [hLn, hBe]; omega
  · intro e he
    have he : e ≤ d := he
    show tn (cF u e 0) + tn (cF u e 1) ≤ tn (nI (min L B)) + 24
    rw [hLn]
    have q1 := hL.2 e (by omega)
    by_cases ee : e = d
    · subst ee; rw [hBe, hSe]; omega
    · -- the frames above begin no lower than what this one keeps
      have key : ∀ j, e + 1 + j ≤ d → tn (cF u (e + 1) 0) ≤ tn (cF u (e + 1 + j) 0) := by
        intro j
        induction j with
        | zero => intro _; exact Nat.le_refl _
        | succ j ih =>
          intro hj
          have q := ih (by omega)
          have q2 := hF.2.2.1 (e + 1 + j) (by omega)
          have q3 := (hF.2.1 (e + 1 + j) (by omega)).2.1
          rw [show e + 1 + j + 1 = e + 1 + (j + 1) by omega] at q2
          omega
      have k1 := key (d - (e + 1)) (by omega)
      rw [show e + 1 + (d - (e + 1)) = d by omega, hBe] at k1
      have q2 := hF.2.2.1 e (by omega)
      have q3 := hF.2.1 e (by omega)
      have q4 := q3.2.1
      have q5 := q3.2.2.1
      omega
  · show RE (fHi (cF u) d) _ _ _ _
    unfold fHi
    rw [hBe, hSe]
    intro p hp
    show (if min H (B + S) ≤ p ∧ p < B + S then (0 : Int64) else gl w 15 p) = cpy (zFn (cL u 2) H (B + S)) (cL u 3) (min L B) L p ∧ (if min H (B + S) ≤ p ∧ p < B + S then false else gz w 16 p) = cpy (zGn (cZ u 2) H (B + S)) (cZ u 3) (min L B) L p
    rw [wl, wz]
    unfold cpy
    by_cases q : min L B ≤ p ∧ p < L
    · rw [if_pos q, if_pos q, if_neg (by omega), if_neg (by omega)]
      have e1 := hE p (by omega)
      have e2 := hS p (by omega)
      exact ⟨e1.1.trans e2.1.symm, e1.2.trans e2.2.symm⟩
    · rw [if_neg q, if_neg q]
      unfold zFn zGn
      by_cases q2 : H ≤ p ∧ p < B + S
      · rw [if_pos q2, if_pos q2, if_pos (by omega), if_pos (by omega)]; exact ⟨rfl, rfl⟩
      · rw [if_neg q2, if_neg q2, if_neg (by omega), if_neg (by omega)]
        exact hE p (by omega)
  · show RE (tn (nI (min L B))) _ _ _ _
    rw [hLn]
    intro p hp
    show cL u 3 p = cpy (zFn (cL u 2) H (B + S)) (cL u 3) (min L B) L p ∧ cZ u 3 p = cpy (zGn (cZ u 2) H (B + S)) (cZ u 3) (min L B) L p
    unfold cpy
    rw [if_neg (by omega), if_neg (by omega)]
    unfold zFn zGn
    rw [if_neg (by omega), if_neg (by omega)]
    exact hS p (by omega)
  · intro p hp
    show (if min L B ≤ p ∧ p < max (min L B) (B + S - 24) then _ else gl w 17 p) = cL u 3 p
    rw [if_neg (by omega), wl]
    exact hBk p hp
  · show RE 8 (gl w 13) (gz w 14) _ _; rw [wl, wz]; exact hX
  · show RE 32 (gl w 18) (gz w 19) _ _; rw [wl, wz]; exact hM
  · show R8 (gz w 20) _; rw [wz]; exact hP
  · show gi w 27 = cF u d 5
    rw [wi 27 (by omega) (by omega) (by omega)]
    show ga v 25 (6 * (d + 1) + 5) = cF u d 5
    exact hsv d (by omega) 5 (by omega)
  · exact (hF.2.2.2.2.2 d (by omega)).1
  · show gi w 28 = cI u 5 ∧ _; rw [wi 28 (by omega) (by omega) (by omega)]; exact h5
  · show gi w 29 = cI u 6 ∧ _; rw [wi 29 (by omega) (by omega) (by omega)]; exact h6
  · show gi w 23 + nI (max (min L B) (B + S - 24) - min L B) = cI u 2
    rw [hmx, z0, wi 23 (by omega) (by omega) (by omega)]; exact h23
  · show gi w 24 = cI u 3 + nI (L - min L B)
    rw [w24, h24]
