/-! one step: both sides answer alike and keep the relation -/
def mStI (v : MS) (I : I6) : Int32 × MS := if gz v 20 (mSlot v (iQ I)).toNatClampNeg = false then (-1, mInc v) else if mMiss v (iO I) (iA I) (iB I) (iC I) = true then (1, v) else mStep5 v (iO I) (iA I) (iB I) (iC I)
theorem VI.nx {n i : Nat} {I : I6} (h : VI n i I) (hin : i < n) (ho : ¬ (iO I = 14 ∨ iO I = 16 ∨ iO I = 20)) : i + 1 < n := by
  rcases (by omega : i + 1 = n ∨ i + 1 < n) with e | e
  · have q := h.2.2.2 e
    unfold iMay mEnds at q
    rw [decide_eq_false ho] at q
    cases q
  · exact e
theorem VI.q0 {n i : Nat} {I : I6} (h : VI n i I) (e : i + 1 = n) : iQ I = 0 := by
  have q := h.2.2.2 e
  unfold iMay at q
  simp only [Bool.and_eq_true, decide_eq_true_eq] at q
  exact q.2
/-- a register that an instruction names, when none is missing -/
theorem rg_of {n i k : Nat} {u : CS} {v : MS} {I : I6} {x : Int32} (h : RM n u v) (hf : nFits (kd k (iO I)) x (nI n) = true) (hm : dMis u (kd k (iO I)) x = false) (hk : kd k (iO I) = 1 ∨ kd k (iO I) = 2) : ∃ r, r ≤ 31 ∧ x = nI r ∧ (kd k (iO I) = 2 → 1 ≤ r) ∧ r < 8 + tn (cF u (cC u) 1) := by
  obtain ⟨r, h1, h2, h3⟩ := nFits_r hf hk
  refine ⟨r, h1, h2, h3, ?_⟩
  unfold dMis at hm
  rw [decide_eq_true hk, Bool.true_and, h2] at hm
  exact (by_eq h h1).2.mp (by cases q : rHas u (nI r); rw [q] at hm; cases hm; rfl)
theorem dMiss_f {u : CS} {I : I6} (h : dMiss u I = false) : dMis u (kd 0 (iO I)) (iA I) = false ∧ dMis u (kd 1 (iO I)) (iB I) = false ∧ dMis u (kd 2 (iO I)) (iC I) = false := by
  unfold dMiss at h
  simp only [Bool.or_eq_false_iff] at h
  exact ⟨h.1.1, h.1.2, h.2⟩
theorem SR.nx {n i : Nat} {u : CS} {v : MS} (h : RM n u v) (hi : cI u 4 = nI i) (hin : i + 1 < n) (hn : n ≤ 40) : SR n u v (-1, tI u 4 (cI u 4 + 1)) (-1, si v 27 (gi v 27 + 1)) := by
  have e2 : gi v 27 = cI u 4 := h.2.2.2.2.2.2.2.2.2.2.2.1.1
  rw [e2, hi, nI_1]
  exact SR.go (h.at (isN_nI (by omega))) rfl rfl (by show tn (nI (i + 1)) < n; rw [tn_nI (by omega)]; exact hin) rfl rfl
theorem SR.at {n r : Nat} {u : CS} {v : MS} (h : RM n u v) (hr : r < n) (hn : n ≤ 40) : SR n u v (-1, tI u 4 (nI r)) (-1, si v 27 (nI r)) :=
  SR.go (h.at (isN_nI (by omega))) rfl rfl (by show tn (nI r) < n; rw [tn_nI (by omega)]; exact hr) rfl rfl
theorem cHas32 (k : Int64) : cHas 32 k = decide (0 ≤ k ∧ k < 32) := rfl
theorem cell_eq {n : Nat} {u : CS} {v : MS} (h : RM n u v) {k : Int64} (hk : cHas 32 k = true) : gl v 18 k.toInt32.toNatClampNeg = cVal 32 (cL u 0) k ∧ gz v 19 k.toInt32.toNatClampNeg = cNat 32 (cZ u 0) k := by
  have hM := h.2.2.2.2.2.2.2.2.2.1
  have hin := cHas_in (by decide) hk
  have hlt : k.toInt32.toNatClampNeg < 32 := Nat.not_le.mp fun q => hin (Or.inr q)
  unfold cVal cNat
  rw [if_pos hk, hk, Bool.true_and]
  exact hM _ hlt
theorem SR.mem {n i : Nat} {u : CS} {v : MS} (h : RM n u v) (hi : cI u 4 = nI i) (hin : i + 1 < n) (hn : n ≤ 40) {k : Int64} (hk : cHas 32 k = true) (x : Int64) (b : Bool) : SR n u v (-1, tI (tL u 0 (cWv 32 (cL u 0) k x) (cWn 32 (cZ u 0) k b)) 4 (cI u 4 + 1)) (-1, mInc (sz (sl v 18 k.toInt32.toNatClampNeg x) 19 k.toInt32.toNatClampNeg b)) := by
  have e2 : gi v 27 = cI u 4 := h.2.2.2.2.2.2.2.2.2.2.2.1.1
  have e3 : cWv 32 (cL u 0) k x = vp_updL (cL u 0) (ix64 k) x := by unfold cWv; rw [if_pos hk]
  have e4 : cWn 32 (cZ u 0) k b = va_up (cZ u 0) (ix64 k) b := by unfold cWn; rw [if_pos hk]
  unfold mInc
  rw [show gi (sz (sl v 18 k.toInt32.toNatClampNeg x) 19 k.toInt32.toNatClampNeg b) 27 = cI u 4 from e2, hi, nI_1, e3, e4]
  obtain ⟨a1, a2, a3, hF, hL, hE, hS, hB, hX, hM, hP, hat, r9⟩ := h
  refine SR.go ⟨a1, a2, a3, hF, hL, hE, hS, hB, hX, RE_up hM x b, hP, ⟨rfl, isN_nI (by omega)⟩, r9⟩ rfl rfl (by show tn (nI (i + 1)) < n; rw [tn_nI (by omega)]; exact hin) rfl rfl
theorem sim_turn {n i t : Nat} {u : CS} {v : MS} (h : RM n u v) (hi : cI u 4 = nI i) (hin : i + 1 < n) (hn : n ≤ 40) (ht : t < n) : SR n u v (-1, dTurn u (nI t)) (-1, si (mTurnU v) 27 (mTurnR v (nI t))) := by
  have e27 : gi v 27 = cI u 4 := h.2.2.2.2.2.2.2.2.2.2.2.1.1
  obtain ⟨e28, n5, l5⟩ := h.2.2.2.2.2.2.2.2.2.2.2.2.1
  obtain ⟨e29, n6, l6⟩ := h.2.2.2.2.2.2.2.2.2.2.2.2.2.1
  generalize ha : tn (cI u 5) = a at *
  generalize hb : tn (cI u 6) = b at *
  have n5 : cI u 5 = nI a := by rw [n5, ha]
  have n6 : cI u 6 = nI b := by rw [n6, hb]
  have c5 : (0 < cI u 5) ↔ 0 < a := by rw [n5, ← nI_0, nI_ltI (by omega) (by omega)]
  have c6 : (0 < cI u 6) ↔ 0 < b := by rw [n6, ← nI_0, nI_ltI (by omega) (by omega)]
  have c61 : (1 < cI u 6) ↔ 1 < b := by rw [n6, show (1 : Int32) = nI 1 from rfl, nI_ltI (by omega) (by omega)]
  have z5 : (cI u 5 = 0) ↔ a = 0 := by rw [n5, ← nI_0, nI_eq (by omega) (by omega)]
  have z6 : (cI u 6 = 0) ↔ b = 0 := by rw [n6, ← nI_0, nI_eq (by omega) (by omega)]
  unfold dTurn mTurnU mTurnR
  rw [e28, e29, e27]
  by_cases hz : a = 0 ∧ b = 0
  · rw [if_pos (show ¬ 0 < cI u 5 ∧ ¬ 0 < cI u 6 from ⟨fun q => by have := c5.mp q; omega, fun q => by have := c6.mp q; omega⟩), if_pos (show cI u 5 = 0 ∧ cI u 6 = 0 from ⟨z5.mpr hz.1, z6.mpr hz.2⟩), if_pos (show cI u 5 = 0 ∧ cI u 6 = 0 from ⟨z5.mpr hz.1, z6.mpr hz.2⟩)]
    rw [← e27]; rw [e27]; have := SR.nx h hi hin hn; rw [e27] at this; exact this
  · rw [if_neg (show ¬ (¬ 0 < cI u 5 ∧ ¬ 0 < cI u 6) from fun q => hz ⟨by have : ¬ 0 < a := fun z => q.1 (c5.mpr z); omega, by have : ¬ 0 < b := fun z => q.2 (c6.mpr z); omega⟩), if_neg (show ¬ (cI u 5 = 0 ∧ cI u 6 = 0) from fun q => hz ⟨z5.mp q.1, z6.mp q.2⟩), if_neg (show ¬ (cI u 5 = 0 ∧ cI u 6 = 0) from fun q => hz ⟨z5.mp q.1, z6.mp q.2⟩)]
    -- the counts
    let a2 := if 0 < a then a - 1 else 0
    let b2 := if 0 < a then b else b - 1
    have eA : (if 0 < cI u 5 then cI u 5 - 1 else (0 : Int32)) = nI a2 := by
      show _ = nI (if 0 < a then a - 1 else 0)
      by_cases q : 0 < a
      · rw [if_pos q, if_pos (c5.mpr q), n5]; have := nI_pred (a - 1); rw [show a - 1 + 1 = a by omega] at this; exact this
      · rw [if_neg q, if_neg (fun z => q (c5.mp z))]; rfl
    have eB : (if 0 < cI u 5 then cI u 6 else cI u 6 - 1) = nI b2 := by
      show _ = nI (if 0 < a then b else b - 1)
      by_cases q : 0 < a
      · rw [if_pos q, if_pos (c5.mpr q), n6]
      · rw [if_neg q, if_neg (fun z => q (c5.mp z)), n6]; have := nI_pred (b - 1); rw [show b - 1 + 1 = b by omega] at this; exact this
    have la : a2 ≤ 20 := by show (if 0 < a then a - 1 else 0) ≤ 20; split <;> omega
    have lb : b2 ≤ 20 := by show (if 0 < a then b else b - 1) ≤ 20; split <;> omega
    have eu : dTu0 u = tI (tI u 5 (nI a2)) 6 (nI b2) := by
      unfold dTu0
      by_cases q : 0 < a
      · rw [if_pos (c5.mpr q)]
        rw [if_pos (c5.mpr q)] at eA eB
        rw [eA]
        refine CS_ext ?_ rfl rfl rfl rfl rfl rfl rfl rfl rfl
        funext j
        show (if j = 5 then nI a2 else cI u j) = (if j = 6 then nI b2 else if j = 5 then nI a2 else cI u j)
        by_cases j6 : j = 6
        · subst j6; rw [if_neg (by decide), if_pos rfl]; exact eB
        · rw [if_neg j6]
      · rw [if_neg (fun z => q (c5.mp z))]
        rw [if_neg (fun z => q (c5.mp z))] at eA eB
        rw [eB]
        refine CS_ext ?_ rfl rfl rfl rfl rfl rfl rfl rfl rfl
        funext j
        show (if j = 6 then nI b2 else cI u j) = (if j = 6 then nI b2 else if j = 5 then nI a2 else cI u j)
        by_cases j5 : j = 5
        · subst j5; rw [if_neg (by decide), if_neg (by decide), if_pos rfl, ← eA]; exact z5.mpr (by omega)
        · rw [if_neg j5]
    rw [eA, eB, eu]
    obtain ⟨r, hr, er, er2⟩ := h.rot
    let r2 := if r = 0 then 15 else r - 1
    have hr2 : r2 ≤ 15 := by show (if r = 0 then 15 else r - 1) ≤ 15; split <;> omega
    have eR : (if nI r = 0 then (15 : Int32) else nI r - 1) = nI r2 := by
      show _ = nI (if r = 0 then 15 else r - 1)
      by_cases q : r = 0
      · subst q; rfl
      · rw [if_neg q, if_neg (nI_ne0 (by omega) (by omega))]; have := nI_pred (r - 1); rw [show r - 1 + 1 = r by omega] at this; exact this
    have h1 := (h.cnt (isN_nI (show a2 < 2 ^ 31 by omega)) (by rw [tn_nI (by omega)]; exact la) (isN_nI (show b2 < 2 ^ 31 by omega)) (by rw [tn_nI (by omega)]; exact lb)).rotate hr2
    have h2 := pred_put h1 (p := 8) (by omega) (by omega) (decide (0 < cI u 5))
    have eT : (if 0 < cI u 5 ∨ 1 < cI u 6 then nI t else cI u 4 + 1) = nI (if 0 < a ∨ 1 < b then t else i + 1) := by
      by_cases q : 0 < a ∨ 1 < b
      · rw [if_pos q, if_pos (q.elim (fun z => Or.inl (c5.mpr z)) (fun z => Or.inr (c61.mpr z)))]
      · rw [if_neg q, if_neg (fun z => q (z.elim (fun y => Or.inl (c5.mp y)) (fun y => Or.inr (c61.mp y)))), hi, nI_1]
    have lT : (if 0 < a ∨ 1 < b then t else i + 1) < n := by split <;> omega
    have h3 := h2.at (isN_nI (show (if 0 < a ∨ 1 < b then t else i + 1) < 2 ^ 31 by omega))
    have eRot : rRot (tI (tI u 5 (nI a2)) 6 (nI b2)) = tF (tI (tI u 5 (nI a2)) 6 (nI b2)) (cC u) 4 (nI r2) := by
      unfold rRot
      rw [show cF (tI (tI u 5 (nI a2)) 6 (nI b2)) (cC (tI (tI u 5 (nI a2)) 6 (nI b2))) 4 = nI r from er, eR]; rfl
    rw [eRot, er2, eR, eT]
    refine SR.go h3 rfl rfl (by show tn (nI _) < n; rw [tn_nI (by omega)]; exact lT) rfl rfl
