/-! the step, operation by operation -/
theorem cI0 {n : Nat} {u : CS} {v : MS} (h : RM n u v) : tn (cI u 0) = cC u ∧ tn (gi v 26) = cC u ∧ cC u ≤ 40 := by
  have h40 := h.2.2.2.1.1
  exact ⟨by rw [h.1.1]; exact tn_nI (by omega), by rw [h.1.2]; exact tn_nI (by omega), h40⟩
theorem fFits_n {I : I6} (h : fFits I = true) : ∃ a b t, a ≤ 24 ∧ b ≤ a ∧ (t = 0 ∨ t = 8 ∨ t = 16) ∧ t ≤ a ∧ iA I = nI a ∧ iB I = nI b ∧ iC I = nI t := by
  unfold fFits at h
  simp only [Bool.and_eq_true, decide_eq_true_eq] at h
  obtain ⟨⟨⟨h1, h2⟩, h3⟩, h4⟩ := h
  obtain ⟨a, -, ha, ea⟩ := rng (lo := 0) (hi := 24) (by omega) (by omega) (Bool.not_eq_true' _ |>.mp h1)
  rw [ea] at h2 h4
  obtain ⟨b, -, hb, eb⟩ := rng (lo := 0) (hi := a) (by omega) (by omega) (Bool.not_eq_true' _ |>.mp h2)
  rcases h3 with q | q | q
  · exact ⟨a, b, 0, ha, hb, Or.inl rfl, by omega, ea, eb, q⟩
  · rw [q, show (8 : Int32) = nI 8 from rfl, nI_leI (by omega) (by omega)] at h4
    exact ⟨a, b, 8, ha, hb, Or.inr (Or.inl rfl), h4, ea, eb, q⟩
  · rw [q, show (16 : Int32) = nI 16 from rfl, nI_leI (by omega) (by omega)] at h4
    exact ⟨a, b, 16, ha, hb, Or.inr (Or.inr rfl), h4, ea, eb, q⟩
theorem lim120 {n : Nat} {u : CS} {v : MS} (h : RM n u v) {a : Nat} (ha : a ≤ 24) : (120 < cF u (cC u) 0 + nI a) ↔ 120 < tn (cF u (cC u) 0) + a := by
  have hFO := h.2.2.2.1.2.1 _ (Nat.le_refl _)
  have h120 := hFO.2.2.2.2.2.2
  have e0 : cF u (cC u) 0 = nI (tn (cF u (cC u) 0)) := hFO.1.1
  generalize tn (cF u (cC u) 0) = B at *
  rw [e0, nI_add, show (120 : Int32) = nI 120 from rfl, nI_ltI (by omega) (by omega)]
theorem st_0 {n i : Nat} {u : CS} {v : MS} {I : I6} (h : RM n u v) (hi : cI u 4 = nI i) (hin : i < n) (hn : n ≤ 40) (hV : VI n i I) (hp : pIs (cZ u 4) (iQ I) (cF u (cC u) 4) = true) (hm : dMiss u I = false) (eo : iO I = 0) : SR n u v (dStep u I) (mStep5 v 0 (iA I) (iB I) (iC I)) := by
  have hnx := hV.nx hin (by rw [eo]; decide)
  have hd : dStep u I = (-1, tI u 4 (cI u 4 + 1)) := by simp (decide := true) [dStep, dWork, eo, hp, hm]
  have hs : mStep5 v 0 (iA I) (iB I) (iC I) = (-1, si v 27 (gi v 27 + 1)) := by simp (decide := true) [mStep5]
  rw [hd, hs]
  exact SR.nx h hi hnx hn
theorem st_1 {n i : Nat} {u : CS} {v : MS} {I : I6} (h : RM n u v) (hi : cI u 4 = nI i) (hin : i < n) (hn : n ≤ 40) (hV : VI n i I) (hp : pIs (cZ u 4) (iQ I) (cF u (cC u) 4) = true) (hm : dMiss u I = false) (eo : iO I = 1) : SR n u v (dStep u I) (mStep5 v 1 (iA I) (iB I) (iC I)) := by
  have hnx := hV.nx hin (by rw [eo]; decide)
  obtain ⟨f0, f1, f2⟩ := nFit_k hV.2.2.1 (by rw [eo]; decide) (by rw [eo]; decide)
  obtain ⟨m0, m1, m2⟩ := dMiss_f hm
  obtain ⟨ra, la, ea, pa, sa⟩ := rg_of (i := i) h f0 m0 (by rw [eo]; decide)
  have hd : dStep u I = (-1, tI (rWr u (iA I) (iB I).toInt64 false) 4 (cI (rWr u (iA I) (iB I).toInt64 false) 4 + 1)) := by simp (decide := true) [dStep, dWork, eo, hp, hm]
  have hs : mStep5 v 1 (iA I) (iB I) (iC I) = (-1, si (mPut v (iA I) (iB I).toInt64 false) 27 (gi v 27 + 1)) := by simp (decide := true) [mStep5, mReck]
  rw [hd, hs]
  rw [ea]
  exact SR.put h hi hnx hn (pa (by rw [eo]; decide)) la sa _ _
theorem st_2 {n i : Nat} {u : CS} {v : MS} {I : I6} (h : RM n u v) (hi : cI u 4 = nI i) (hin : i < n) (hn : n ≤ 40) (hV : VI n i I) (hp : pIs (cZ u 4) (iQ I) (cF u (cC u) 4) = true) (hm : dMiss u I = false) (eo : iO I = 2) : SR n u v (dStep u I) (mStep5 v 2 (iA I) (iB I) (iC I)) := by
  have hnx := hV.nx hin (by rw [eo]; decide)
  obtain ⟨f0, f1, f2⟩ := nFit_k hV.2.2.1 (by rw [eo]; decide) (by rw [eo]; decide)
  obtain ⟨m0, m1, m2⟩ := dMiss_f hm
  obtain ⟨ra, la, ea, pa, sa⟩ := rg_of (i := i) h f0 m0 (by rw [eo]; decide)
  obtain ⟨rb, lb, eb, pb, sb⟩ := rg_of (i := i) h f1 m1 (by rw [eo]; decide)
  obtain ⟨rc, lc, ec, pc, sc⟩ := rg_of (i := i) h f2 m2 (by rw [eo]; decide)
  have hd : dStep u I = (-1, tI (rWr u (iA I) (rVal u (iB I) + rVal u (iC I)) (rNat u (iB I) || rNat u (iC I))) 4 (cI (rWr u (iA I) (rVal u (iB I) + rVal u (iC I)) (rNat u (iB I) || rNat u (iC I))) 4 + 1)) := by simp (decide := true) [dStep, dWork, eo, hp, hm, dCalc, dRes]
  have hs : mStep5 v 2 (iA I) (iB I) (iC I) = (-1, si (mPut v (iA I) (mGet v (iB I) + mGet v (iC I)) (mNat v (iB I) || mNat v (iC I))) 27 (gi v 27 + 1)) := by simp (decide := true) [mStep5, mReck]
  rw [hd, hs]
  obtain ⟨-, gb1, gb2⟩ := reg_ok h lb sb
  obtain ⟨-, gc1, gc2⟩ := reg_ok h lc sc
  rw [ea, eb, ec, gb1, gb2, gc1, gc2]
  exact SR.put h hi hnx hn (pa (by rw [eo]; decide)) la sa _ _
theorem st_3 {n i : Nat} {u : CS} {v : MS} {I : I6} (h : RM n u v) (hi : cI u 4 = nI i) (hin : i < n) (hn : n ≤ 40) (hV : VI n i I) (hp : pIs (cZ u 4) (iQ I) (cF u (cC u) 4) = true) (hm : dMiss u I = false) (eo : iO I = 3) : SR n u v (dStep u I) (mStep5 v 3 (iA I) (iB I) (iC I)) := by
  have hnx := hV.nx hin (by rw [eo]; decide)
  obtain ⟨f0, f1, f2⟩ := nFit_k hV.2.2.1 (by rw [eo]; decide) (by rw [eo]; decide)
  obtain ⟨m0, m1, m2⟩ := dMiss_f hm
  obtain ⟨ra, la, ea, pa, sa⟩ := rg_of (i := i) h f0 m0 (by rw [eo]; decide)
  obtain ⟨rb, lb, eb, pb, sb⟩ := rg_of (i := i) h f1 m1 (by rw [eo]; decide)
  obtain ⟨rc, lc, ec, pc, sc⟩ := rg_of (i := i) h f2 m2 (by rw [eo]; decide)
  have hd : dStep u I = (-1, tI (rWr u (iA I) (rVal u (iB I) - rVal u (iC I)) (rNat u (iB I) || rNat u (iC I))) 4 (cI (rWr u (iA I) (rVal u (iB I) - rVal u (iC I)) (rNat u (iB I) || rNat u (iC I))) 4 + 1)) := by simp (decide := true) [dStep, dWork, eo, hp, hm, dCalc, dRes]
  have hs : mStep5 v 3 (iA I) (iB I) (iC I) = (-1, si (mPut v (iA I) (mGet v (iB I) - mGet v (iC I)) (mNat v (iB I) || mNat v (iC I))) 27 (gi v 27 + 1)) := by simp (decide := true) [mStep5, mReck]
  rw [hd, hs]
  obtain ⟨-, gb1, gb2⟩ := reg_ok h lb sb
  obtain ⟨-, gc1, gc2⟩ := reg_ok h lc sc
  rw [ea, eb, ec, gb1, gb2, gc1, gc2]
  exact SR.put h hi hnx hn (pa (by rw [eo]; decide)) la sa _ _
theorem st_4 {n i : Nat} {u : CS} {v : MS} {I : I6} (h : RM n u v) (hi : cI u 4 = nI i) (hin : i < n) (hn : n ≤ 40) (hV : VI n i I) (hp : pIs (cZ u 4) (iQ I) (cF u (cC u) 4) = true) (hm : dMiss u I = false) (eo : iO I = 4) : SR n u v (dStep u I) (mStep5 v 4 (iA I) (iB I) (iC I)) := by
  have hnx := hV.nx hin (by rw [eo]; decide)
  obtain ⟨f0, f1, f2⟩ := nFit_k hV.2.2.1 (by rw [eo]; decide) (by rw [eo]; decide)
  obtain ⟨m0, m1, m2⟩ := dMiss_f hm
  obtain ⟨ra, la, ea, pa, sa⟩ := rg_of (i := i) h f0 m0 (by rw [eo]; decide)
  obtain ⟨rb, lb, eb, pb, sb⟩ := rg_of (i := i) h f1 m1 (by rw [eo]; decide)
  obtain ⟨rc, lc, ec, pc, sc⟩ := rg_of (i := i) h f2 m2 (by rw [eo]; decide)
  have hd : dStep u I = (-1, tI (rWr u (iA I) (rVal u (iB I) * rVal u (iC I)) (rNat u (iB I) || rNat u (iC I))) 4 (cI (rWr u (iA I) (rVal u (iB I) * rVal u (iC I)) (rNat u (iB I) || rNat u (iC I))) 4 + 1)) := by simp (decide := true) [dStep, dWork, eo, hp, hm, dCalc, dRes]
  have hs : mStep5 v 4 (iA I) (iB I) (iC I) = (-1, si (mPut v (iA I) (mGet v (iB I) * mGet v (iC I)) (mNat v (iB I) || mNat v (iC I))) 27 (gi v 27 + 1)) := by simp (decide := true) [mStep5, mReck]
  rw [hd, hs]
  obtain ⟨-, gb1, gb2⟩ := reg_ok h lb sb
  obtain ⟨-, gc1, gc2⟩ := reg_ok h lc sc
  rw [ea, eb, ec, gb1, gb2, gc1, gc2]
  exact SR.put h hi hnx hn (pa (by rw [eo]; decide)) la sa _ _
theorem st_5 {n i : Nat} {u : CS} {v : MS} {I : I6} (h : RM n u v) (hi : cI u 4 = nI i) (hin : i < n) (hn : n ≤ 40) (hV : VI n i I) (hp : pIs (cZ u 4) (iQ I) (cF u (cC u) 4) = true) (hm : dMiss u I = false) (eo : iO I = 5) : SR n u v (dStep u I) (mStep5 v 5 (iA I) (iB I) (iC I)) := by
  have hnx := hV.nx hin (by rw [eo]; decide)
  obtain ⟨f0, f1, f2⟩ := nFit_k hV.2.2.1 (by rw [eo]; decide) (by rw [eo]; decide)
  obtain ⟨m0, m1, m2⟩ := dMiss_f hm
  obtain ⟨ra, la, ea, pa, sa⟩ := rg_of (i := i) h f0 m0 (by rw [eo]; decide)
  obtain ⟨rb, lb, eb, pb, sb⟩ := rg_of (i := i) h f1 m1 (by rw [eo]; decide)
  obtain ⟨rc, lc, ec, pc, sc⟩ := rg_of (i := i) h f2 m2 (by rw [eo]; decide)
  have hd : dStep u I = (-1, tI (rWr u (iA I) (rVal u (iB I) &&& rVal u (iC I)) (rNat u (iB I) || rNat u (iC I))) 4 (cI (rWr u (iA I) (rVal u (iB I) &&& rVal u (iC I)) (rNat u (iB I) || rNat u (iC I))) 4 + 1)) := by simp (decide := true) [dStep, dWork, eo, hp, hm, dCalc, dRes]
  have hs : mStep5 v 5 (iA I) (iB I) (iC I) = (-1, si (mPut v (iA I) (mGet v (iB I) &&& mGet v (iC I)) (mNat v (iB I) || mNat v (iC I))) 27 (gi v 27 + 1)) := by simp (decide := true) [mStep5, mReck]
  rw [hd, hs]
  obtain ⟨-, gb1, gb2⟩ := reg_ok h lb sb
  obtain ⟨-, gc1, gc2⟩ := reg_ok h lc sc
  rw [ea, eb, ec, gb1, gb2, gc1, gc2]
  exact SR.put h hi hnx hn (pa (by rw [eo]; decide)) la sa _ _
theorem st_6 {n i : Nat} {u : CS} {v : MS} {I : I6} (h : RM n u v) (hi : cI u 4 = nI i) (hin : i < n) (hn : n ≤ 40) (hV : VI n i I) (hp : pIs (cZ u 4) (iQ I) (cF u (cC u) 4) = true) (hm : dMiss u I = false) (eo : iO I = 6) : SR n u v (dStep u I) (mStep5 v 6 (iA I) (iB I) (iC I)) := by
  have hnx := hV.nx hin (by rw [eo]; decide)
  obtain ⟨f0, f1, f2⟩ := nFit_k hV.2.2.1 (by rw [eo]; decide) (by rw [eo]; decide)
  obtain ⟨m0, m1, m2⟩ := dMiss_f hm
  obtain ⟨rb, lb, eb, pb, sb⟩ := rg_of (i := i) h f1 m1 (by rw [eo]; decide)
  obtain ⟨rc, lc, ec, pc, sc⟩ := rg_of (i := i) h f2 m2 (by rw [eo]; decide)
  have f3 : nFits 3 (iA I) (nI n) = true := by have q := f0; rw [eo] at q; exact q
  obtain ⟨a, a1, a14, ea⟩ := nFits_3 f3
  obtain ⟨-, gb1, gb2⟩ := reg_ok h lb sb
  obtain ⟨-, gc1, gc2⟩ := reg_ok h lc sc
  have hd : dStep u I = (-1, tI (dCmp u I) 4 (cI (dCmp u I) 4 + 1)) := by simp (decide := true) [dStep, dWork, eo, hp, hm]
  have hs : mStep5 v 6 (iA I) (iB I) (iC I) = (-1, si (sz (sz v 20 (mSlot v (iA I)).toNatClampNeg (decide (mGet v (iB I) < mGet v (iC I)) && !(mNat v (iB I) || mNat v (iC I)))) 20 (mSlot v (iA I + 1)).toNatClampNeg (!decide (mGet v (iB I) < mGet v (iC I)) && !(mNat v (iB I) || mNat v (iC I)))) 27 (gi v 27 + 1)) := by simp (decide := true) [mStep5, mReck]
  rw [hd, hs]
  have hX : (decide (mGet v (iB I) < mGet v (iC I)) && !(mNat v (iB I) || mNat v (iC I))) = (dKn u I && dHol u I) := by
    rw [eb, ec, gb1, gb2, gc1, gc2]; unfold dKn dHol; rw [if_pos eo, eb, ec, Bool.not_or, Bool.and_comm]
  have hY : (!decide (mGet v (iB I) < mGet v (iC I)) && !(mNat v (iB I) || mNat v (iC I))) = (dKn u I && !dHol u I) := by
    rw [eb, ec, gb1, gb2, gc1, gc2]; unfold dKn dHol; rw [if_pos eo, eb, ec, Bool.not_or, Bool.and_comm]
  rw [hX, hY]
  unfold dCmp
  rw [ea, nI_1]
  generalize (dKn u I && dHol u I) = x1
  generalize (dKn u I && !dHol u I) = x2
  have h2 := pred_put (pred_put h a1 (by omega) x1) (p := a + 1) (by omega) (by omega) x2
  have e27 : gi v 27 = cI u 4 := h.2.2.2.2.2.2.2.2.2.2.2.1.1
  rw [e27, show cI (tZ (tZ u (pWr (cZ u 4) (nI a) (cF u (cC u) 4) x1)) (pWr (pWr (cZ u 4) (nI a) (cF u (cC u) 4) x1) (nI (a + 1)) (cF u (cC u) 4) x2)) 4 = cI u 4 from rfl, hi, nI_1]
  exact SR.go (h2.at (isN_nI (by omega))) rfl rfl (by show tn (nI (i + 1)) < n; rw [tn_nI (by omega)]; exact hnx) rfl rfl
theorem st_7 {n i : Nat} {u : CS} {v : MS} {I : I6} (h : RM n u v) (hi : cI u 4 = nI i) (hin : i < n) (hn : n ≤ 40) (hV : VI n i I) (hp : pIs (cZ u 4) (iQ I) (cF u (cC u) 4) = true) (hm : dMiss u I = false) (eo : iO I = 7) : SR n u v (dStep u I) (mStep5 v 7 (iA I) (iB I) (iC I)) := by
  have hnx := hV.nx hin (by rw [eo]; decide)
  obtain ⟨f0, f1, f2⟩ := nFit_k hV.2.2.1 (by rw [eo]; decide) (by rw [eo]; decide)
  obtain ⟨m0, m1, m2⟩ := dMiss_f hm
  obtain ⟨rb, lb, eb, pb, sb⟩ := rg_of (i := i) h f1 m1 (by rw [eo]; decide)
  obtain ⟨rc, lc, ec, pc, sc⟩ := rg_of (i := i) h f2 m2 (by rw [eo]; decide)
  have f3 : nFits 3 (iA I) (nI n) = true := by have q := f0; rw [eo] at q; exact q
  obtain ⟨a, a1, a14, ea⟩ := nFits_3 f3
  obtain ⟨-, gb1, gb2⟩ := reg_ok h lb sb
  obtain ⟨-, gc1, gc2⟩ := reg_ok h lc sc
  have hd : dStep u I = (-1, tI (dCmp u I) 4 (cI (dCmp u I) 4 + 1)) := by simp (decide := true) [dStep, dWork, eo, hp, hm]
  have hs : mStep5 v 7 (iA I) (iB I) (iC I) = (-1, si (sz (sz v 20 (mSlot v (iA I)).toNatClampNeg (decide (mGet v (iB I) = mGet v (iC I)) && !(mNat v (iB I) || mNat v (iC I)))) 20 (mSlot v (iA I + 1)).toNatClampNeg (!decide (mGet v (iB I) = mGet v (iC I)) && !(mNat v (iB I) || mNat v (iC I)))) 27 (gi v 27 + 1)) := by simp (decide := true) [mStep5, mReck]
  rw [hd, hs]
  have hX : (decide (mGet v (iB I) = mGet v (iC I)) && !(mNat v (iB I) || mNat v (iC I))) = (dKn u I && dHol u I) := by
    rw [eb, ec, gb1, gb2, gc1, gc2]; unfold dKn dHol; rw [if_neg (by rw [eo]; decide), eb, ec, Bool.not_or, Bool.and_comm]
  have hY : (!decide (mGet v (iB I) = mGet v (iC I)) && !(mNat v (iB I) || mNat v (iC I))) = (dKn u I && !dHol u I) := by
    rw [eb, ec, gb1, gb2, gc1, gc2]; unfold dKn dHol; rw [if_neg (by rw [eo]; decide), eb, ec, Bool.not_or, Bool.and_comm]
  rw [hX, hY]
  unfold dCmp
  rw [ea, nI_1]
  generalize (dKn u I && dHol u I) = x1
  generalize (dKn u I && !dHol u I) = x2
  have h2 := pred_put (pred_put h a1 (by omega) x1) (p := a + 1) (by omega) (by omega) x2
  have e27 : gi v 27 = cI u 4 := h.2.2.2.2.2.2.2.2.2.2.2.1.1
  rw [e27, show cI (tZ (tZ u (pWr (cZ u 4) (nI a) (cF u (cC u) 4) x1)) (pWr (pWr (cZ u 4) (nI a) (cF u (cC u) 4) x1) (nI (a + 1)) (cF u (cC u) 4) x2)) 4 = cI u 4 from rfl, hi, nI_1]
  exact SR.go (h2.at (isN_nI (by omega))) rfl rfl (by show tn (nI (i + 1)) < n; rw [tn_nI (by omega)]; exact hnx) rfl rfl
theorem st_8 {n i : Nat} {u : CS} {v : MS} {I : I6} (h : RM n u v) (hi : cI u 4 = nI i) (hin : i < n) (hn : n ≤ 40) (hV : VI n i I) (hp : pIs (cZ u 4) (iQ I) (cF u (cC u) 4) = true) (hm : dMiss u I = false) (eo : iO I = 8) : SR n u v (dStep u I) (mStep5 v 8 (iA I) (iB I) (iC I)) := by
  have hnx := hV.nx hin (by rw [eo]; decide)
  obtain ⟨f0, f1, f2⟩ := nFit_k hV.2.2.1 (by rw [eo]; decide) (by rw [eo]; decide)
  obtain ⟨m0, m1, m2⟩ := dMiss_f hm
  obtain ⟨ra, la, ea, pa, sa⟩ := rg_of (i := i) h f0 m0 (by rw [eo]; decide)
  obtain ⟨rb, lb, eb, pb, sb⟩ := rg_of (i := i) h f1 m1 (by rw [eo]; decide)
  obtain ⟨-, ga1, ga2⟩ := reg_ok h la sa
  obtain ⟨-, gb1, gb2⟩ := reg_ok h lb sb
  have hs : mStep5 v 8 (iA I) (iB I) (iC I) = mMemory v 8 (iA I) (iB I) := by simp (decide := true) [mStep5]
  have hd : dStep u I = (if (dLoad u I).1 = -1 then (-1, tI (dLoad u I).2 4 (cI (dLoad u I).2 4 + 1)) else dLoad u I) := by simp (decide := true) [dStep, dWork, eo, hp, hm]
  rw [hd, hs]
  unfold mMemory mMem dLoad
  rw [ea, eb, show decide ((8 : Int32) = 10 ∨ (8 : Int32) = 11) = false from by decide]
  simp only [-eq_self, if_neg (show ¬ false = true from by decide), gb1, gb2]
  rw [if_neg (show ¬ ((8 : Int32) = 9 ∧ _) from fun q => absurd q.1 (by decide))]
  by_cases q1 : rNat u (nI rb) = true
  · rw [if_pos (Or.inl q1), if_pos q1, if_neg (by show ¬ (3 : Int32) = -1; decide)]
    exact SR.stop 3 (by decide)
  · rw [if_neg (show ¬ (rNat u (nI rb) = true ∨ ((8 : Int32) = 10 ∧ _)) from fun q => q.elim q1 (fun z => absurd z.1 (by decide))), if_neg q1]
    by_cases q2 : cHas 32 (rVal u (nI rb)) = false
    · rw [if_pos (show decide (0 ≤ rVal u (nI rb) ∧ rVal u (nI rb) < 32) = false from q2), if_pos q2, if_neg (by show ¬ (2 : Int32) = -1; decide)]
      exact SR.stop 2 (by decide)
    · have q3 : cHas 32 (rVal u (nI rb)) = true := by cases z : cHas 32 (rVal u (nI rb)); exact absurd z q2; rfl
      obtain ⟨c1, c2⟩ := cell_eq h q3
      rw [if_neg (show ¬ decide (0 ≤ rVal u (nI rb) ∧ rVal u (nI rb) < 32) = false from q2), if_neg q2, if_pos rfl, c1, c2, eo]
      have := SR.put h hi hnx hn (pa (by rw [eo]; decide)) la sa (cVal 32 (cL u 0) (rVal u (nI rb))) (decide ((8 : Int32) = 12) && cNat 32 (cZ u 0) (rVal u (nI rb)))
      unfold mInc
      rw [show gi (mPut v (nI ra) (cVal 32 (cL u 0) (rVal u (nI rb))) (decide ((8 : Int32) = 12) && cNat 32 (cZ u 0) (rVal u (nI rb)))) 27 = gi v 27 from congrFun (reg_put h (pa (by rw [eo]; decide)) la sa _ _).2.2.2.2.1 27]
      exact this
theorem st_12 {n i : Nat} {u : CS} {v : MS} {I : I6} (h : RM n u v) (hi : cI u 4 = nI i) (hin : i < n) (hn : n ≤ 40) (hV : VI n i I) (hp : pIs (cZ u 4) (iQ I) (cF u (cC u) 4) = true) (hm : dMiss u I = false) (eo : iO I = 12) : SR n u v (dStep u I) (mStep5 v 12 (iA I) (iB I) (iC I)) := by
  have hnx := hV.nx hin (by rw [eo]; decide)
  obtain ⟨f0, f1, f2⟩ := nFit_k hV.2.2.1 (by rw [eo]; decide) (by rw [eo]; decide)
  obtain ⟨m0, m1, m2⟩ := dMiss_f hm
  obtain ⟨ra, la, ea, pa, sa⟩ := rg_of (i := i) h f0 m0 (by rw [eo]; decide)
  obtain ⟨rb, lb, eb, pb, sb⟩ := rg_of (i := i) h f1 m1 (by rw [eo]; decide)
  obtain ⟨-, ga1, ga2⟩ := reg_ok h la sa
  obtain ⟨-, gb1, gb2⟩ := reg_ok h lb sb
  have hs : mStep5 v 12 (iA I) (iB I) (iC I) = mMemory v 12 (iA I) (iB I) := by simp (decide := true) [mStep5]
  have hd : dStep u I = (if (dLoad u I).1 = -1 then (-1, tI (dLoad u I).2 4 (cI (dLoad u I).2 4 + 1)) else dLoad u I) := by simp (decide := true) [dStep, dWork, eo, hp, hm]
  rw [hd, hs]
  unfold mMemory mMem dLoad
  rw [ea, eb, show decide ((12 : Int32) = 10 ∨ (12 : Int32) = 11) = false from by decide]
  simp only [-eq_self, if_neg (show ¬ false = true from by decide), gb1, gb2]
  rw [if_neg (show ¬ ((12 : Int32) = 9 ∧ _) from fun q => absurd q.1 (by decide))]
  by_cases q1 : rNat u (nI rb) = true
  · rw [if_pos (Or.inl q1), if_pos q1, if_neg (by show ¬ (3 : Int32) = -1; decide)]
    exact SR.stop 3 (by decide)
  · rw [if_neg (show ¬ (rNat u (nI rb) = true ∨ ((12 : Int32) = 10 ∧ _)) from fun q => q.elim q1 (fun z => absurd z.1 (by decide))), if_neg q1]
    by_cases q2 : cHas 32 (rVal u (nI rb)) = false
    · rw [if_pos (show decide (0 ≤ rVal u (nI rb) ∧ rVal u (nI rb) < 32) = false from q2), if_pos q2, if_neg (by show ¬ (2 : Int32) = -1; decide)]
      exact SR.stop 2 (by decide)
    · have q3 : cHas 32 (rVal u (nI rb)) = true := by cases z : cHas 32 (rVal u (nI rb)); exact absurd z q2; rfl
      obtain ⟨c1, c2⟩ := cell_eq h q3
      rw [if_neg (show ¬ decide (0 ≤ rVal u (nI rb) ∧ rVal u (nI rb) < 32) = false from q2), if_neg q2, if_pos rfl, c1, c2, eo]
      have := SR.put h hi hnx hn (pa (by rw [eo]; decide)) la sa (cVal 32 (cL u 0) (rVal u (nI rb))) (decide ((12 : Int32) = 12) && cNat 32 (cZ u 0) (rVal u (nI rb)))
      unfold mInc
      rw [show gi (mPut v (nI ra) (cVal 32 (cL u 0) (rVal u (nI rb))) (decide ((12 : Int32) = 12) && cNat 32 (cZ u 0) (rVal u (nI rb)))) 27 = gi v 27 from congrFun (reg_put h (pa (by rw [eo]; decide)) la sa _ _).2.2.2.2.1 27]
      exact this
theorem st_9 {n i : Nat} {u : CS} {v : MS} {I : I6} (h : RM n u v) (hi : cI u 4 = nI i) (hin : i < n) (hn : n ≤ 40) (hV : VI n i I) (hp : pIs (cZ u 4) (iQ I) (cF u (cC u) 4) = true) (hm : dMiss u I = false) (eo : iO I = 9) : SR n u v (dStep u I) (mStep5 v 9 (iA I) (iB I) (iC I)) := by
  have hnx := hV.nx hin (by rw [eo]; decide)
  obtain ⟨f0, f1, f2⟩ := nFit_k hV.2.2.1 (by rw [eo]; decide) (by rw [eo]; decide)
  obtain ⟨m0, m1, m2⟩ := dMiss_f hm
  obtain ⟨ra, la, ea, pa, sa⟩ := rg_of (i := i) h f0 m0 (by rw [eo]; decide)
  obtain ⟨rb, lb, eb, pb, sb⟩ := rg_of (i := i) h f1 m1 (by rw [eo]; decide)
  obtain ⟨-, ga1, ga2⟩ := reg_ok h la sa
  obtain ⟨-, gb1, gb2⟩ := reg_ok h lb sb
  have hs : mStep5 v 9 (iA I) (iB I) (iC I) = mMemory v 9 (iA I) (iB I) := by simp (decide := true) [mStep5]
  have hd : dStep u I = (-1, tI (dAdv u I) 4 (cI (dAdv u I) 4 + 1)) := by simp (decide := true) [dStep, dWork, eo, hp, hm]
  rw [hd, hs]
  unfold mMemory mMem dAdv
  rw [ea, eb, show decide ((9 : Int32) = 10 ∨ (9 : Int32) = 11) = false from by decide]
  simp only [-eq_self, if_neg (show ¬ false = true from by decide), gb1, gb2]
  have key : ∀ (x : Int64) (b : Bool), SR n u v (-1, tI (rWr u (nI ra) x b) 4 (cI (rWr u (nI ra) x b) 4 + 1)) (-1, mInc (mPut v (nI ra) x b)) := by
    intro x b
    have := SR.put h hi hnx hn (pa (by rw [eo]; decide)) la sa x b
    unfold mInc
    rw [show gi (mPut v (nI ra) x b) 27 = gi v 27 from congrFun (reg_put h (pa (by rw [eo]; decide)) la sa _ _).2.2.2.2.1 27]
    exact this
  by_cases q1 : rNat u (nI rb) = true ∨ cHas 32 (rVal u (nI rb)) = false
  · rw [if_pos q1, if_pos (show (9 : Int32) = 9 ∧ (rNat u (nI rb) = true ∨ decide (0 ≤ rVal u (nI rb) ∧ rVal u (nI rb) < 32) = false) from ⟨rfl, q1⟩)]
    exact key 0 true
  · have q3 : cHas 32 (rVal u (nI rb)) = true := by cases z : cHas 32 (rVal u (nI rb)); exact absurd (Or.inr z) q1; rfl
    obtain ⟨c1, c2⟩ := cell_eq h q3
    rw [if_neg q1, if_neg (show ¬ ((9 : Int32) = 9 ∧ (rNat u (nI rb) = true ∨ decide (0 ≤ rVal u (nI rb) ∧ rVal u (nI rb) < 32) = false)) from fun q => q1 q.2), if_neg (show ¬ (rNat u (nI rb) = true ∨ ((9 : Int32) = 10 ∧ _)) from fun q => q.elim (fun z => q1 (Or.inl z)) (fun z => absurd z.1 (by decide))), if_neg (show ¬ decide (0 ≤ rVal u (nI rb) ∧ rVal u (nI rb) < 32) = false from fun q => q1 (Or.inr q)), c1, show (decide ((9 : Int32) = 12) && gz v 19 (rVal u (nI rb)).toInt32.toNatClampNeg) = false from by rw [show decide ((9 : Int32) = 12) = false from by decide]; rfl]
    exact key _ false
theorem st_10 {n i : Nat} {u : CS} {v : MS} {I : I6} (h : RM n u v) (hi : cI u 4 = nI i) (hin : i < n) (hn : n ≤ 40) (hV : VI n i I) (hp : pIs (cZ u 4) (iQ I) (cF u (cC u) 4) = true) (hm : dMiss u I = false) (eo : iO I = 10) : SR n u v (dStep u I) (mStep5 v 10 (iA I) (iB I) (iC I)) := by
  have hnx := hV.nx hin (by rw [eo]; decide)
  obtain ⟨f0, f1, f2⟩ := nFit_k hV.2.2.1 (by rw [eo]; decide) (by rw [eo]; decide)
  obtain ⟨m0, m1, m2⟩ := dMiss_f hm
  obtain ⟨ra, la, ea, pa, sa⟩ := rg_of (i := i) h f0 m0 (by rw [eo]; decide)
  obtain ⟨rb, lb, eb, pb, sb⟩ := rg_of (i := i) h f1 m1 (by rw [eo]; decide)
  obtain ⟨-, ga1, ga2⟩ := reg_ok h la sa
  obtain ⟨-, gb1, gb2⟩ := reg_ok h lb sb
  have hs : mStep5 v 10 (iA I) (iB I) (iC I) = mMemory v 10 (iA I) (iB I) := by simp (decide := true) [mStep5]
  have hd : dStep u I = (if (dSto u I).1 = -1 then (-1, tI (dSto u I).2 4 (cI (dSto u I).2 4 + 1)) else dSto u I) := by simp (decide := true) [dStep, dWork, eo, hp, hm]
  rw [hd, hs]
  unfold mMemory mMem dSto
  rw [ea, eb, eo, show decide ((10 : Int32) = 10 ∨ (10 : Int32) = 11) = true from by decide]
  simp only [-eq_self, if_pos (show true = true from rfl), ga1, ga2, gb1, gb2]
  rw [if_neg (show ¬ ((10 : Int32) = 9 ∧ _) from fun q => absurd q.1 (by decide))]
  by_cases q1 : rNat u (nI ra) = true ∨ ((10 : Int32) = 10 ∧ rNat u (nI rb) = true)
  · rw [if_pos q1, if_pos q1, if_neg (by show ¬ (3 : Int32) = -1; decide)]
    exact SR.stop 3 (by decide)
  · rw [if_neg q1, if_neg q1]
    by_cases q2 : cHas 32 (rVal u (nI ra)) = false
    · rw [if_pos (show decide (0 ≤ rVal u (nI ra) ∧ rVal u (nI ra) < 32) = false from q2), if_pos q2, if_neg (by show ¬ (2 : Int32) = -1; decide)]
      exact SR.stop 2 (by decide)
    · have q3 : cHas 32 (rVal u (nI ra)) = true := by cases z : cHas 32 (rVal u (nI ra)); exact absurd z q2; rfl
      rw [if_neg (show ¬ decide (0 ≤ rVal u (nI ra) ∧ rVal u (nI ra) < 32) = false from q2), if_neg q2, if_pos rfl]
      exact SR.mem h hi hnx hn q3 _ _
theorem st_11 {n i : Nat} {u : CS} {v : MS} {I : I6} (h : RM n u v) (hi : cI u 4 = nI i) (hin : i < n) (hn : n ≤ 40) (hV : VI n i I) (hp : pIs (cZ u 4) (iQ I) (cF u (cC u) 4) = true) (hm : dMiss u I = false) (eo : iO I = 11) : SR n u v (dStep u I) (mStep5 v 11 (iA I) (iB I) (iC I)) := by
  have hnx := hV.nx hin (by rw [eo]; decide)
  obtain ⟨f0, f1, f2⟩ := nFit_k hV.2.2.1 (by rw [eo]; decide) (by rw [eo]; decide)
  obtain ⟨m0, m1, m2⟩ := dMiss_f hm
  obtain ⟨ra, la, ea, pa, sa⟩ := rg_of (i := i) h f0 m0 (by rw [eo]; decide)
  obtain ⟨rb, lb, eb, pb, sb⟩ := rg_of (i := i) h f1 m1 (by rw [eo]; decide)
  obtain ⟨-, ga1, ga2⟩ := reg_ok h la sa
  obtain ⟨-, gb1, gb2⟩ := reg_ok h lb sb
  have hs : mStep5 v 11 (iA I) (iB I) (iC I) = mMemory v 11 (iA I) (iB I) := by simp (decide := true) [mStep5]
  have hd : dStep u I = (if (dSto u I).1 = -1 then (-1, tI (dSto u I).2 4 (cI (dSto u I).2 4 + 1)) else dSto u I) := by simp (decide := true) [dStep, dWork, eo, hp, hm]
  rw [hd, hs]
  unfold mMemory mMem dSto
  rw [ea, eb, eo, show decide ((11 : Int32) = 10 ∨ (11 : Int32) = 11) = true from by decide]
  simp only [-eq_self, if_pos (show true = true from rfl), ga1, ga2, gb1, gb2]
  rw [if_neg (show ¬ ((11 : Int32) = 9 ∧ _) from fun q => absurd q.1 (by decide))]
  by_cases q1 : rNat u (nI ra) = true ∨ ((11 : Int32) = 10 ∧ rNat u (nI rb) = true)
  · rw [if_pos q1, if_pos q1, if_neg (by show ¬ (3 : Int32) = -1; decide)]
    exact SR.stop 3 (by decide)
  · rw [if_neg q1, if_neg q1]
    by_cases q2 : cHas 32 (rVal u (nI ra)) = false
    · rw [if_pos (show decide (0 ≤ rVal u (nI ra) ∧ rVal u (nI ra) < 32) = false from q2), if_pos q2, if_neg (by show ¬ (2 : Int32) = -1; decide)]
      exact SR.stop 2 (by decide)
    · have q3 : cHas 32 (rVal u (nI ra)) = true := by cases z : cHas 32 (rVal u (nI ra)); exact absurd z q2; rfl
      rw [if_neg (show ¬ decide (0 ≤ rVal u (nI ra) ∧ rVal u (nI ra) < 32) = false from q2), if_neg q2, if_pos rfl]
      exact SR.mem h hi hnx hn q3 _ _
theorem st_13 {n i : Nat} {u : CS} {v : MS} {I : I6} (h : RM n u v) (hi : cI u 4 = nI i) (hin : i < n) (hn : n ≤ 40) (hV : VI n i I) (hp : pIs (cZ u 4) (iQ I) (cF u (cC u) 4) = true) (hm : dMiss u I = false) (eo : iO I = 13) : SR n u v (dStep u I) (mStep5 v 13 (iA I) (iB I) (iC I)) := by
  have hnx := hV.nx hin (by rw [eo]; decide)
  obtain ⟨f0, f1, f2⟩ := nFit_k hV.2.2.1 (by rw [eo]; decide) (by rw [eo]; decide)
  obtain ⟨m0, m1, m2⟩ := dMiss_f hm
  obtain ⟨ra, la, ea, pa, sa⟩ := rg_of (i := i) h f0 m0 (by rw [eo]; decide)
  have f4 : nFits 4 (iB I) (nI n) = true := by have q := f1; rw [eo] at q; exact q
  obtain ⟨t, ht, et⟩ := nFits_4 (by omega) hn f4
  obtain ⟨-, -, ga2⟩ := reg_ok h la sa
  have hd : dStep u I = (-1, tI u 4 (if rNat u (iA I) = true then iB I else cI u 4 + 1)) := by simp (decide := true) [dStep, dWork, eo, hp, hm]
  have hs : mStep5 v 13 (iA I) (iB I) (iC I) = (-1, si v 27 (if mNat v (iA I) = true then iB I else gi v 27 + 1)) := by simp (decide := true) [mStep5]
  rw [hd, hs]
  rw [ea, ga2, et]
  by_cases q : rNat u (nI ra) = true
  · rw [if_pos q, if_pos q]; exact SR.at h ht hn
  · rw [if_neg q, if_neg q]; exact SR.nx h hi hnx hn
theorem st_14 {n i : Nat} {u : CS} {v : MS} {I : I6} (h : RM n u v) (hi : cI u 4 = nI i) (hin : i < n) (hn : n ≤ 40) (hV : VI n i I) (hp : pIs (cZ u 4) (iQ I) (cF u (cC u) 4) = true) (hm : dMiss u I = false) (eo : iO I = 14) : SR n u v (dStep u I) (mStep5 v 14 (iA I) (iB I) (iC I)) := by
  obtain ⟨f0, f1, f2⟩ := nFit_k hV.2.2.1 (by rw [eo]; decide) (by rw [eo]; decide)
  have f4 : nFits 4 (iA I) (nI n) = true := by have q := f0; rw [eo] at q; exact q
  obtain ⟨t, ht, et⟩ := nFits_4 (by omega) hn f4
  have hd : dStep u I = (-1, tI u 4 (iA I)) := by simp (decide := true) [dStep, dWork, eo, hp, hm]
  have hs : mStep5 v 14 (iA I) (iB I) (iC I) = (-1, si v 27 (iA I)) := by simp (decide := true) [mStep5]
  rw [hd, hs]
  rw [et]; exact SR.at h ht hn
theorem st_15 {n i : Nat} {u : CS} {v : MS} {I : I6} (h : RM n u v) (hi : cI u 4 = nI i) (hin : i < n) (hn : n ≤ 40) (hV : VI n i I) (hp : pIs (cZ u 4) (iQ I) (cF u (cC u) 4) = true) (hm : dMiss u I = false) (eo : iO I = 15) : SR n u v (dStep u I) (mStep5 v 15 (iA I) (iB I) (iC I)) := by
  have hnx := hV.nx hin (by rw [eo]; decide)
  obtain ⟨f0, f1, f2⟩ := nFit_k hV.2.2.1 (by rw [eo]; decide) (by rw [eo]; decide)
  have f4 : nFits 4 (iA I) (nI n) = true := by have q := f0; rw [eo] at q; exact q
  obtain ⟨t, ht, et⟩ := nFits_4 (by omega) hn f4
  obtain ⟨c1, c2, c3⟩ := cI0 h
  have hs : mStep5 v 15 (iA I) (iB I) (iC I) = (if gi v 26 = 40 then (4, v) else (-1, mCallU v (tn (gi v 26)) (iA I))) := by simp (decide := true) [mStep5]
  have hd : dStep u I = (if tn (cI u 0) + 1 < 41 then (-1, tI (rEn u (cI u 4 + 1) (tn (cI u 0))) 4 (iA I)) else (4, u)) := by simp (decide := true) [dStep, eo, hp, hm]
  rw [hd, hs, c1, c2, h.1.2, et]
  by_cases q : cC u + 1 < 41
  · rw [if_pos q, if_neg (show ¬ nI (cC u) = 40 from fun z => by rw [show (40 : Int32) = nI 40 from rfl, nI_eq (by omega) (by omega)] at z; omega)]
    have e1 : cI u 4 + 1 = nI (i + 1) := by rw [hi]; exact nI_1 i
    have hc := sim_call h (by omega) (x := nI t) (by rw [e1]; exact isN_nI (by omega)) (by rw [e1, tn_nI (by omega)]; exact hnx) (isN_nI (by omega))
    exact SR.go hc rfl rfl (by show tn (nI t) < n; rw [tn_nI (by omega)]; exact ht) rfl rfl
  · rw [if_neg q, if_pos (show nI (cC u) = 40 from by rw [show cC u = 40 by omega]; rfl)]
    exact SR.stop 4 (by decide)
theorem st_16 {n i : Nat} {u : CS} {v : MS} {I : I6} (h : RM n u v) (hi : cI u 4 = nI i) (hin : i < n) (hn : n ≤ 40) (hV : VI n i I) (hp : pIs (cZ u 4) (iQ I) (cF u (cC u) 4) = true) (hm : dMiss u I = false) (eo : iO I = 16) : SR n u v (dStep u I) (mStep5 v 16 (iA I) (iB I) (iC I)) := by
  obtain ⟨c1, c2, c3⟩ := cI0 h
  have hs : mStep5 v 16 (iA I) (iB I) (iC I) = (if gi v 26 = 0 then (0, v) else (-1, mBack v (tn (gi v 26)) (tn (ga v 25 (6 * tn (gi v 26) + 0))) (tn (ga v 25 (6 * tn (gi v 26) + 1))) (tn (gi v 22)) (tn (gi v 21)))) := by simp (decide := true) [mStep5]
  have hd : dStep u I = (if cI u 0 = 0 then (0, tE u true) else (-1, tI (dLv u) 4 (cF u (tn (cI u 0) - 1) 5))) := by simp (decide := true) [dStep, eo, hp, hm]
  rw [hd, hs, h.1.2, h.1.1]
  by_cases q : cC u = 0
  · rw [q, if_pos (show nI 0 = 0 from rfl), if_pos (show nI 0 = 0 from rfl)]; exact SR.fin
  · rw [if_neg (nI_ne0 (by omega) (by omega)), if_neg (nI_ne0 (by omega) (by omega)), tn_nI (by omega)]
    obtain ⟨d, hd9⟩ : ∃ d, cC u = d + 1 := ⟨cC u - 1, by omega⟩
    have hF := h.2.2.2.1
    have hb := sim_back h d hd9
    have s0 := hF.2.2.2.2.1 d (by omega) 0 (by omega)
    have s1 := hF.2.2.2.2.1 d (by omega) 1 (by omega)
    have hFO := hF.2.1 _ (Nat.le_refl _)
    have e22 : tn (gi v 22) = fHi (cF u) (cC u) := by rw [h.2.2.1]; exact tn_nI (by have := hFO.2.2.2.2.2.2; unfold fHi; omega)
    have eE : tn (cF u (cC u) 0 + cF u (cC u) 1) = fHi (cF u) (cC u) := by
      have q0 : cF u (cC u) 0 = nI (tn (cF u (cC u) 0)) := hFO.1.1
      have q1 : cF u (cC u) 1 = nI (tn (cF u (cC u) 1)) := hFO.1.2.1
      have q2 := hFO.2.2.2.2.2.2
      unfold fHi
      generalize tn (cF u (cC u) 0) = B at *
      generalize tn (cF u (cC u) 1) = S at *
      rw [q0, q1, nI_add]; exact tn_nI (by omega)
    unfold dLv
    rw [c1, e22, h.2.1.2, eE]
    rw [hd9] at hb ⊢
    rw [show d + 1 - 1 = d by omega, s0, s1]
    rw [← hd9] at hb ⊢
    refine SR.go hb rfl ?_ (hF.2.2.2.2.2 d (by omega)).2 rfl ?_
    · unfold mBack
      show MK (mBk2 (mBk1 (mBk0 v (cC u)) _ _) _ _) = MK v
      have a9 := mBk2_e (mBk1 (mBk0 v (cC u)) (fHi (cF u) (cC u)) (tn (cF u d 0) + tn (cF u d 1))) (tn (cI u 1)) (tn (cF u d 0)) (tn_lt _)
      have b9 := mBk1_e (mBk0 v (cC u)) (fHi (cF u) (cC u)) (tn (cF u d 0) + tn (cF u d 1))
      unfold MK
      rw [a9.1.1, a9.1.2.1, a9.2.1 5 (by omega) (by omega), a9.2.1 6 (by omega) (by omega), a9.2.1 7 (by omega) (by omega), a9.2.1 8 (by omega) (by omega), b9.1.1, b9.1.2.1, b9.2 5 (by omega), b9.2 6 (by omega), b9.2 7 (by omega), b9.2 8 (by omega)]
      rfl
    · unfold mBack
      show gb (mBk2 (mBk1 (mBk0 v (cC u)) _ _) _ _) 30 = gb v 30
      rw [(mBk2_e _ _ _ (tn_lt _)).1.2.2.2, (mBk1_e _ _ _).1.2.2.2]; rfl
theorem st_17 {n i : Nat} {u : CS} {v : MS} {I : I6} (h : RM n u v) (hi : cI u 4 = nI i) (hin : i < n) (hn : n ≤ 40) (hV : VI n i I) (hp : pIs (cZ u 4) (iQ I) (cF u (cC u) 4) = true) (hm : dMiss u I = false) (eo : iO I = 17) : SR n u v (dStep u I) (mStep5 v 17 (iA I) (iB I) (iC I)) := by
  have hnx := hV.nx hin (by rw [eo]; decide)
  have hf : fFits I = true := by have q := hV.2.2.1; unfold nFit at q; rw [if_pos eo] at q; exact q
  obtain ⟨a, b, t, a1, a2, a3, a4, ea, eb, et⟩ := fFits_n hf
  have hF := h.2.2.2.1
  have hg0 : ga v 25 0 = cF u (cC u) 0 := hF.2.2.2.1 0 (by omega)
  have hs : mStep5 v 17 (iA I) (iB I) (iC I) = (if 120 < ga v 25 0 + iA I then (4, v) else (-1, si (mReach (mFrm v (iA I) (iB I) (iC I)) (tn (gi v 22)) (tn (ga v 25 0) + tn (iA I)) (tn (gi v 21))) 27 (gi v 27 + 1))) := by simp (decide := true) [mStep5]
  have hw : dWork u I = (if 120 < cF u (cC u) 0 + iA I then (4, u) else (-1, dFr u I)) := by simp (decide := true) [dWork, eo]
  have hd : dStep u I = (if (dWork u I).1 = -1 then (-1, tI (dWork u I).2 4 (cI (dWork u I).2 4 + 1)) else dWork u I) := by simp (decide := true) [dStep, eo, hp, hm]
  rw [hd, hs, hw, hg0, ea]
  by_cases q : 120 < cF u (cC u) 0 + nI a
  · rw [if_pos q, if_pos q, if_neg (by show ¬ (4 : Int32) = -1; decide)]; exact SR.stop 4 (by decide)
  · rw [if_neg q, if_neg q, if_pos rfl]
    have q2 : tn (cF u (cC u) 0) + a ≤ 120 := Nat.not_lt.mp (fun z => q ((lim120 h a1).mpr z))
    have hb := sim_frame h a1 a2 a3 a4 q2
    unfold dFr
    rw [ea, eb, et, tn_nI (show a < 2 ^ 31 by omega)]
    rw [hg0] at hb
    have e27 : gi v 27 = cI u 4 := h.2.2.2.2.2.2.2.2.2.2.2.1.1
    rw [e27, show cI (rRs u (nI a) (nI b) (nI t) (tn (cF u (cC u) 0)) (tn (cF u (cC u) 1)) a (tn (cI u 1))) 4 = cI u 4 from rfl, hi, nI_1]
    exact SR.go (hb.at (isN_nI (by omega))) rfl rfl (by show tn (nI (i + 1)) < n; rw [tn_nI (by omega)]; exact hnx) rfl rfl
theorem st_18 {n i : Nat} {u : CS} {v : MS} {I : I6} (h : RM n u v) (hi : cI u 4 = nI i) (hin : i < n) (hn : n ≤ 40) (hV : VI n i I) (hp : pIs (cZ u 4) (iQ I) (cF u (cC u) 4) = true) (hm : dMiss u I = false) (eo : iO I = 18) : SR n u v (dStep u I) (mStep5 v 18 (iA I) (iB I) (iC I)) := by
  have hnx := hV.nx hin (by rw [eo]; decide)
  have hf : (!mOut (iA I) 0 20 && !mOut (iB I) 0 20) = true := by have q := hV.2.2.1; unfold nFit at q; rw [if_neg (by rw [eo]; decide), if_pos eo] at q; exact q
  simp only [Bool.and_eq_true] at hf
  obtain ⟨a, -, a2, ea⟩ := rng (lo := 0) (hi := 20) (by omega) (by omega) (Bool.not_eq_true' _ |>.mp hf.1)
  obtain ⟨b, -, b2, eb⟩ := rng (lo := 0) (hi := 20) (by omega) (by omega) (Bool.not_eq_true' _ |>.mp hf.2)
  have hd : dStep u I = (-1, tI (tI (tI u 5 (iA I)) 6 (iB I)) 4 (cI (tI (tI u 5 (iA I)) 6 (iB I)) 4 + 1)) := by simp (decide := true) [dStep, dWork, eo, hp, hm]
  have hs : mStep5 v 18 (iA I) (iB I) (iC I) = (-1, si (si (si v 28 (iA I)) 29 (iB I)) 27 (gi v 27 + 1)) := by simp (decide := true) [mStep5]
  rw [hd, hs]
  rw [ea, eb]
  have h2 := h.cnt (isN_nI (show a < 2 ^ 31 by omega)) (by rw [tn_nI (by omega)]; exact a2) (isN_nI (show b < 2 ^ 31 by omega)) (by rw [tn_nI (by omega)]; exact b2)
  have h3 := SR.nx (u := tI (tI u 5 (nI a)) 6 (nI b)) (v := si (si v 28 (nI a)) 29 (nI b)) h2 (i := i) hi hnx hn
  exact ⟨rfl, fun q => h3.2.1 q, fun q => absurd rfl q⟩
theorem st_19 {n i : Nat} {u : CS} {v : MS} {I : I6} (h : RM n u v) (hi : cI u 4 = nI i) (hin : i < n) (hn : n ≤ 40) (hV : VI n i I) (hp : pIs (cZ u 4) (iQ I) (cF u (cC u) 4) = true) (hm : dMiss u I = false) (eo : iO I = 19) : SR n u v (dStep u I) (mStep5 v 19 (iA I) (iB I) (iC I)) := by
  have hnx := hV.nx hin (by rw [eo]; decide)
  obtain ⟨f0, f1, f2⟩ := nFit_k hV.2.2.1 (by rw [eo]; decide) (by rw [eo]; decide)
  have f4 : nFits 4 (iA I) (nI n) = true := by have q := f0; rw [eo] at q; exact q
  obtain ⟨t, ht, et⟩ := nFits_4 (by omega) hn f4
  have hd : dStep u I = (-1, dTurn u (iA I)) := by simp (decide := true) [dStep, dWork, eo, hp, hm]
  have hs : mStep5 v 19 (iA I) (iB I) (iC I) = (-1, si (mTurnU v) 27 (mTurnR v (iA I))) := by simp (decide := true) [mStep5]
  rw [hd, hs]
  rw [et]; exact sim_turn h hi hnx hn ht
theorem st_20 {n i : Nat} {u : CS} {v : MS} {I : I6} (h : RM n u v) (hi : cI u 4 = nI i) (hin : i < n) (hn : n ≤ 40) (hV : VI n i I) (hp : pIs (cZ u 4) (iQ I) (cF u (cC u) 4) = true) (hm : dMiss u I = false) (eo : iO I = 20) : SR n u v (dStep u I) (mStep5 v 20 (iA I) (iB I) (iC I)) := by
  have hd : dStep u I = (0, tE u true) := by simp (decide := true) [dStep, dWork, eo, hp, hm]
  have hs : mStep5 v 20 (iA I) (iB I) (iC I) = (0, v) := by simp (decide := true) [mStep5]
  rw [hd, hs]
  exact SR.fin
theorem sim_step {n i : Nat} {u : CS} {v : MS} {I : I6} (h : RM n u v) (hi : cI u 4 = nI i) (hin : i < n) (hn : n ≤ 40) (hV : VI n i I) : SR n u v (dStep u I) (mStI v I) := by
  obtain ⟨q, -, hq, eq⟩ := rng (lo := 0) (hi := 15) (by omega) (by omega) hV.2.1
  obtain ⟨-, hpe⟩ := pred_eq h (p := q) (by omega)
  unfold mStI
  rw [miss_eq h hV]
  by_cases hp : pIs (cZ u 4) (iQ I) (cF u (cC u) 4) = false
  · have hp2 : gz v 20 (mSlot v (iQ I)).toNatClampNeg = false := by rw [eq, ← hpe, ← eq]; exact hp
    rw [if_pos hp2]
    have hd : dStep u I = (-1, tI u 4 (cI u 4 + 1)) := by unfold dStep; rw [if_pos hp]
    rw [hd]
    have hnx : i + 1 < n := by
      rcases (by omega : i + 1 = n ∨ i + 1 < n) with e | e
      · have z := hV.q0 e
        unfold pIs at hp
        rw [z] at hp
        cases hp
      · exact e
    exact SR.nx h hi hnx hn
  · have hp1 : pIs (cZ u 4) (iQ I) (cF u (cC u) 4) = true := by cases z : pIs (cZ u 4) (iQ I) (cF u (cC u) 4); exact absurd z hp; rfl
    have hp2 : ¬ gz v 20 (mSlot v (iQ I)).toNatClampNeg = false := by rw [eq, ← hpe, ← eq]; exact hp
    rw [if_neg hp2]
    by_cases hm : dMiss u I = true
    · rw [if_pos hm]
      have hd : dStep u I = (1, u) := by unfold dStep; rw [if_neg hp, if_pos hm]
      rw [hd]
      exact SR.stop 1 (by decide)
    · have hm1 : dMiss u I = false := by cases z : dMiss u I; rfl; exact absurd z hm
      rw [if_neg hm]
      obtain ⟨o, -, ho, eo⟩ := rng (lo := 0) (hi := 20) (by omega) (by omega) hV.1
      rw [eo]
      rcases (by omega : o = 0 ∨ o = 1 ∨ o = 2 ∨ o = 3 ∨ o = 4 ∨ o = 5 ∨ o = 6 ∨ o = 7 ∨ o = 8 ∨ o = 9 ∨ o = 10 ∨ o = 11 ∨ o = 12 ∨ o = 13 ∨ o = 14 ∨ o = 15 ∨ o = 16 ∨ o = 17 ∨ o = 18 ∨ o = 19 ∨ o = 20) with e | e | e | e | e | e | e | e | e | e | e | e | e | e | e | e | e | e | e | e | e <;> subst e
      · exact st_0 h hi hin hn hV hp1 hm1 eo
      · exact st_1 h hi hin hn hV hp1 hm1 eo
      · exact st_2 h hi hin hn hV hp1 hm1 eo
      · exact st_3 h hi hin hn hV hp1 hm1 eo
      · exact st_4 h hi hin hn hV hp1 hm1 eo
      · exact st_5 h hi hin hn hV hp1 hm1 eo
      · exact st_6 h hi hin hn hV hp1 hm1 eo
      · exact st_7 h hi hin hn hV hp1 hm1 eo
      · exact st_8 h hi hin hn hV hp1 hm1 eo
      · exact st_9 h hi hin hn hV hp1 hm1 eo
      · exact st_10 h hi hin hn hV hp1 hm1 eo
      · exact st_11 h hi hin hn hV hp1 hm1 eo
      · exact st_12 h hi hin hn hV hp1 hm1 eo
      · exact st_13 h hi hin hn hV hp1 hm1 eo
      · exact st_14 h hi hin hn hV hp1 hm1 eo
      · exact st_15 h hi hin hn hV hp1 hm1 eo
      · exact st_16 h hi hin hn hV hp1 hm1 eo
      · exact st_17 h hi hin hn hV hp1 hm1 eo
      · exact st_18 h hi hin hn hV hp1 hm1 eo
      · exact st_19 h hi hin hn hV hp1 hm1 eo
      · exact st_20 h hi hin hn hV hp1 hm1 eo
