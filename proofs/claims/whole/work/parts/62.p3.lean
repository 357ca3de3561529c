/-! FRAME, CALL, RETURN keep the relation -/
theorem nI_sub {a b : Nat} (h : b ≤ a) (ha : a < 2 ^ 31) : nI a - nI b = nI (a - b) := by
  apply Int32.toInt_inj.mp
  rw [Int32.toInt_sub, nI_toInt ha, nI_toInt (by omega), nI_toInt (by omega)]
  have : ((a : Int) - (b : Int)) = ((a - b : Nat) : Int) := by omega
  rw [this]
  exact Int.bmod_eq_of_le (by omega) (by omega)
theorem sim_frame {n : Nat} {u : CS} {v : MS} (h : RM n u v) {a b t : Nat} (ha : a ≤ 24) (hb : b ≤ a) (ht : t = 0 ∨ t = 8 ∨ t = 16) (hta : t ≤ a) (hB : tn (cF u (cC u) 0) + a ≤ 120) :
    RM n (rRs u (nI a) (nI b) (nI t) (tn (cF u (cC u) 0)) (tn (cF u (cC u) 1)) a (tn (cI u 1))) (mReach (mFrm v (nI a) (nI b) (nI t)) (tn (gi v 22)) (tn (ga v 25 0) + a) (tn (gi v 21))) := by
  obtain ⟨a1, a2, a3, hF, hL, hE, hS, hBk, hX, hM, hP, hat, h5, h6, h23, h24⟩ := h
  have hFO := hF.2.1 _ (Nat.le_refl _)
  have hg0 : ga v 25 0 = cF u (cC u) 0 := hF.2.2.2.1 0 (by omega)
  have hs24 := hFO.2.2.1
  have h120 := hFO.2.2.2.2.2.2
  have e22 : tn (gi v 22) = tn (cF u (cC u) 0) + tn (cF u (cC u) 1) := by rw [a3]; exact tn_nI (by unfold fHi; omega)
  rw [e22, hg0, a2.2]
  generalize hBe : tn (cF u (cC u) 0) = B at *
  generalize hSe : tn (cF u (cC u) 1) = S at *
  generalize hLe : tn (cI u 1) = L at *
  have hL1 : L ≤ B := by have := hL.1; omega
  -- the new frames
  let F := cF (rRs u (nI a) (nI b) (nI t) B S a L)
  have F1 : F (cC u) 1 = nI a := by show (if cC u = cC u ∧ 1 = 3 then _ else if cC u = cC u ∧ 1 = 2 then _ else if cC u = cC u ∧ 1 = 1 then nI a else _) = _; simp
  have F2 : F (cC u) 2 = nI b := by show (if cC u = cC u ∧ 2 = 3 then _ else if cC u = cC u ∧ 2 = 2 then nI b else _) = _; simp
  have F3 : F (cC u) 3 = nI t := by show (if cC u = cC u ∧ 3 = 3 then nI t else _) = _; simp
  have Fk : ∀ d k, ¬ (d = cC u ∧ (k = 1 ∨ k = 2 ∨ k = 3)) → F d k = cF u d k := by
    intro d k hk
    show (if d = cC u ∧ k = 3 then _ else if d = cC u ∧ k = 2 then _ else if d = cC u ∧ k = 1 then _ else cF u d k) = _
    rw [if_neg (fun q => hk ⟨q.1, by omega⟩), if_neg (fun q => hk ⟨q.1, by omega⟩), if_neg (fun q => hk ⟨q.1, by omega⟩)]
  have hhi : fHi F (cC u) = B + a := by unfold fHi; rw [F1, Fk _ 0 (by omega), hBe, tn_nI (by omega)]
  have hLn : tn (nI (max L (B + a - 24))) = max L (B + a - 24) := tn_nI (by omega)
  have G : ∀ k, ga (mReach (mFrm v (nI a) (nI b) (nI t)) (B + S) (B + a) L) 25 k = if k = 3 then nI t else if k = 2 then nI b else if k = 1 then nI a else ga v 25 k := by
    intro k
    show ga (mFrm v (nI a) (nI b) (nI t)) 25 k = _
    unfold mFrm
    rw [ga_sa, ga_sa, ga_sa]
    simp
  refine ⟨a1, ⟨?_, ?_⟩, ?_, ⟨hF.1, ?_, ?_, ?_, ?_, ?_⟩, ⟨?_, ?_⟩, ?_, ?_, ?_, hX, hM, hP, hat, h5, h6, ?_, h24⟩
  · show isN (nI (max L (B + a - 24))); exact isN_nI (by omega)
  · rfl
  · show nI (B + a) = nI (fHi F (cC u)); rw [hhi]
  · intro d hd
    have q := hF.2.1 d hd
    by_cases e : d = cC u
    · subst e
      show FO (F (cC u))
      unfold FO
      rw [F1, F2, F3, Fk _ 0 (by omega), Fk _ 4 (by omega), hBe, tn_nI (show a < 2 ^ 31 by omega), tn_nI (show b < 2 ^ 31 by omega), tn_nI (show t < 2 ^ 31 by omega)]
      obtain ⟨⟨b0, b1, b2, b3, b4⟩, b5, b6, b7, b8, b9, b10⟩ := q
      exact ⟨⟨b0, isN_nI (by omega), isN_nI (by omega), isN_nI (by omega), b4⟩, hb, ha, ht, hta, b9, hB⟩
    · refine FO_c (fun k _ => ?_) q
      exact Fk d k (fun z => e z.1)
  · intro d hd
    have hd : d < cC u := hd
    show tn (F (d + 1) 0) + tn (F d 2) = tn (F d 0) + tn (F d 1)
    rw [Fk (d + 1) 0 (by omega), Fk d 2 (by omega), Fk d 0 (by omega), Fk d 1 (by omega)]
    exact hF.2.2.1 d hd
  · intro k hk
    rw [G]
    show _ = F (cC u) k
    by_cases e1 : k = 1
    · subst e1; rw [F1]; rfl
    by_cases e2 : k = 2
    · subst e2; rw [F2]; rfl
    by_cases e3 : k = 3
    · subst e3; rw [F3]; rfl
    rw [if_neg e3, if_neg e2, if_neg e1, Fk _ k (by omega)]
    exact hF.2.2.2.1 k hk
  · intro d hd k hk
    have hd : d < cC u := hd
    rw [G, if_neg (by omega), if_neg (by omega), if_neg (by omega), hF.2.2.2.2.1 d hd k hk]
    exact (Fk d k (by omega)).symm
  · intro d hd
    have hd : d < cC u := hd
    show isN (F d 5) ∧ tn (F d 5) < n
    rw [Fk d 5 (by omega)]
    exact hF.2.2.2.2.2 d hd
  · show tn (nI (max L (B + a - 24))) ≤ tn (F (cC u) 0)
    rw [hLn, Fk _ 0 (by omega), hBe]
    omega
  · intro d hd
    have hd : d ≤ cC u := hd
    show tn (F d 0) + tn (F d 1) ≤ tn (nI (max L (B + a - 24))) + 24
    rw [hLn]
    by_cases e : d = cC u
    · subst e; rw [F1, Fk _ 0 (by omega), hBe, tn_nI (by omega)]; omega
    · rw [Fk d 0 (by omega), Fk d 1 (by omega)]
      have := hL.2 d hd
      omega
  · show RE (fHi F (cC u)) _ _ _ _
    rw [hhi]
    intro p hp
    show (if B + S ≤ p ∧ p < B + a then (0 : Int64) else gl v 15 p) = zFn (cL u 2) (B + S) (B + a) p ∧ (if B + S ≤ p ∧ p < B + a then false else gz v 16 p) = zGn (cZ u 2) (B + S) (B + a) p
    unfold zFn zGn
    by_cases q : B + S ≤ p ∧ p < B + a
    · rw [if_pos q, if_pos q, if_pos q, if_pos q]; exact ⟨rfl, rfl⟩
    · rw [if_neg q, if_neg q, if_neg q, if_neg q]
      exact hE p (by unfold fHi; rw [hBe, hSe]; omega)
  · show RE (tn (nI (max L (B + a - 24)))) _ _ _ _
    rw [hLn]
    intro p hp
    show cpy (cL u 3) (zFn (cL u 2) (B + S) (B + a)) L (max L (B + a - 24)) p = zFn (cL u 2) (B + S) (B + a) p ∧ cpy (cZ u 3) (zGn (cZ u 2) (B + S) (B + a)) L (max L (B + a - 24)) p = zGn (cZ u 2) (B + S) (B + a) p
    unfold cpy
    by_cases q : L ≤ p ∧ p < max L (B + a - 24)
    · rw [if_pos q, if_pos q]; exact ⟨rfl, rfl⟩
    · rw [if_neg q, if_neg q]
      unfold zFn zGn
      rw [if_neg (by omega), if_neg (by omega)]
      exact hS p (by omega)
  · intro p hp
    show (if L ≤ p ∧ p < max L (B + a - 24) then (if B + S ≤ p ∧ p < B + a then (0 : Int64) else gl v 15 p) else gl v 17 p) = cpy (cL u 3) (zFn (cL u 2) (B + S) (B + a)) L (max L (B + a - 24)) p
    unfold cpy
    by_cases q : L ≤ p ∧ p < max L (B + a - 24)
    · rw [if_pos q, if_pos q]
      unfold zFn
      rw [if_neg (by omega), if_neg (by omega)]
      exact (hE p (by unfold fHi; rw [hBe, hSe]; omega)).1
    · rw [if_neg q, if_neg q]; exact hBk p hp
  · show gi v 23 + nI (max L (B + a - 24) - L) = cI u 2 + nI (max L (B + a - 24) - L)
    rw [h23]
theorem sim_call {n : Nat} {u : CS} {v : MS} (h : RM n u v) (hc : cC u + 1 ≤ 40) {x : Int32} (hx : isN (cI u 4 + 1)) (hxn : tn (cI u 4 + 1) < n) (hxx : isN x) :
    RM n (tI (rEn u (cI u 4 + 1) (cC u)) 4 x) (mCallU v (cC u) x) := by
  obtain ⟨a1, a2, a3, hF, hL, hE, hS, hBk, hX, hM, hP, hat, h5, h6, h23, h24⟩ := h
  have hFO := hF.2.1 _ (Nat.le_refl _)
  have hgk := hF.2.2.2.1
  obtain ⟨⟨b0, b1, b2, b3, b4⟩, b5, b6, b7, b8, b9, b10⟩ := hFO
  generalize hBe : tn (cF u (cC u) 0) = B at *
  generalize hSe : tn (cF u (cC u) 1) = S at *
  generalize hOe : tn (cF u (cC u) 2) = O at *
  have nb : cF u (cC u) 0 + cF u (cC u) 1 - cF u (cC u) 2 = nI (B + S - O) := by
    rw [b0, b1, b2, hBe, hSe, hOe, nI_add, nI_sub (by omega) (by omega)]
  have nO : cF u (cC u) 2 = nI O := by rw [b2, hOe]
  let c := cC u
  let F := cF (tI (rEn u (cI u 4 + 1) c) 4 x)
  have Fd : ∀ d k, F d k = if d = c + 1 then (if k = 0 then cF u c 0 + cF u c 1 - cF u c 2 else if k = 1 then cF u c 2 else 0) else if d = c ∧ k = 5 then cI u 4 + 1 else cF u d k := fun d k => rfl
  have Fn : ∀ d k, d ≤ c → k < 5 → F d k = cF u d k := fun d k hd hk => by rw [Fd, if_neg (by omega), if_neg (by omega)]
  have F0 : F (c + 1) 0 = nI (B + S - O) := by rw [Fd, if_pos rfl, if_pos rfl]; exact nb
  have F1 : F (c + 1) 1 = nI O := by rw [Fd, if_pos rfl, if_neg (by omega), if_pos rfl]; exact nO
  have Fz : ∀ k, 2 ≤ k → F (c + 1) k = 0 := fun k hk => by rw [Fd, if_pos rfl, if_neg (by omega), if_neg (by omega)]
  have hhi : fHi F (c + 1) = B + S := by unfold fHi; rw [F0, F1, tn_nI (by omega), tn_nI (by omega)]; omega
  have t0 : tn (0 : Int32) = 0 := by decide
  have G : ∀ k, ga (mCallU v c x) 25 k = if k = 4 then 0 else if k = 3 then 0 else if k = 2 then 0 else if k = 1 then ga v 25 2 else if k = 0 then ga v 25 0 + ga v 25 1 - ga v 25 2 else if k = 6 * (c + 1) + 5 then gi v 27 + 1 else if k = 6 * (c + 1) + 4 then ga v 25 4 else if k = 6 * (c + 1) + 3 then ga v 25 3 else if k = 6 * (c + 1) + 2 then ga v 25 2 else if k = 6 * (c + 1) + 1 then ga v 25 1 else if k = 6 * (c + 1) + 0 then ga v 25 0 else ga v 25 k := by
    intro k
    unfold mCallU
    simp only [ga_si, ga_sa, true_and]
  refine ⟨⟨rfl, ?_⟩, a2, ?_, ⟨hc, ?_, ?_, ?_, ?_, ?_⟩, ⟨?_, ?_⟩, ?_, hS, hBk, hX, hM, hP, ⟨rfl, hxx⟩, h5, h6, h23, h24⟩
  · show gi v 26 + 1 = nI (c + 1); rw [a1.2]; exact nI_1 _
  · show gi v 22 = nI (fHi F (c + 1)); rw [hhi, a3]; unfold fHi; rw [hBe, hSe]
  · intro d hd
    have hd : d ≤ c + 1 := hd
    by_cases e : d = c + 1
    · subst e
      show FO (F (c + 1))
      unfold FO
      rw [F0, F1, Fz 2 (by omega), Fz 3 (by omega), Fz 4 (by omega), t0, tn_nI (show O < 2 ^ 31 by omega), tn_nI (show B + S - O < 2 ^ 31 by omega)]
      have z : isN (0 : Int32) := by decide
      exact ⟨⟨isN_nI (by omega), isN_nI (by omega), z, z, z⟩, by omega, by omega, Or.inl rfl, by omega, by omega, by omega⟩
    · exact FO_c (fun k hk => Fn d k (by omega) hk) (hF.2.1 d (by show d ≤ c; omega))
  · intro d hd
    have hd : d < c + 1 := hd
    show tn (F (d + 1) 0) + tn (F d 2) = tn (F d 0) + tn (F d 1)
    by_cases e : d = c
    · subst e; rw [F0, Fn c 2 (by omega) (by omega), Fn c 0 (by omega) (by omega), Fn c 1 (by omega) (by omega), hBe, hSe, hOe, tn_nI (by omega)]; omega
    · rw [Fn (d + 1) 0 (by omega) (by omega), Fn d 2 (by omega) (by omega), Fn d 0 (by omega) (by omega), Fn d 1 (by omega) (by omega)]
      exact hF.2.2.1 d (by show d < c; omega)
  · intro k hk
    rw [G]
    show _ = F (c + 1) k
    rcases (by omega : k = 0 ∨ k = 1 ∨ k = 2 ∨ k = 3 ∨ k = 4) with e | e | e | e | e <;> subst e
    · rw [F0, ← nb, hgk 0 (by omega), hgk 1 (by omega), hgk 2 (by omega)]; rfl
    · rw [F1, ← nO, hgk 2 (by omega)]; rfl
    · rw [Fz 2 (by omega)]; rfl
    · rw [Fz 3 (by omega)]; rfl
    · rw [Fz 4 (by omega)]; rfl
  · intro d hd k hk
    have hd : d < c + 1 := hd
    rw [G]
    show _ = F d k
    by_cases e : d = c
    · subst e
      rcases (by omega : k = 0 ∨ k = 1 ∨ k = 2 ∨ k = 3 ∨ k = 4 ∨ k = 5) with e | e | e | e | e | e <;> subst e
      · rw [Fn c 0 (by omega) (by omega), ← hgk 0 (by omega)]; repeat rw [if_neg (by omega)]
        rw [if_pos rfl]
      · rw [Fn c 1 (by omega) (by omega), ← hgk 1 (by omega)]; repeat rw [if_neg (by omega)]
        rw [if_pos rfl]
      · rw [Fn c 2 (by omega) (by omega), ← hgk 2 (by omega)]; repeat rw [if_neg (by omega)]
        rw [if_pos rfl]
      · rw [Fn c 3 (by omega) (by omega), ← hgk 3 (by omega)]; repeat rw [if_neg (by omega)]
        rw [if_pos rfl]
      · rw [Fn c 4 (by omega) (by omega), ← hgk 4 (by omega)]; repeat rw [if_neg (by omega)]
        rw [if_pos rfl]
      · have F5 : F c 5 = gi v 27 + 1 := by rw [Fd, if_neg (by omega), if_pos ⟨rfl, rfl⟩, hat.1]
        rw [F5]; repeat rw [if_neg (by omega)]
        rw [if_pos rfl]
    · have hd2 : d < c := by omega
      repeat rw [if_neg (by omega)]
      rw [hF.2.2.2.2.1 d hd2 k hk, Fd, if_neg (by omega), if_neg (by omega)]
  · intro d hd
    have hd : d < c + 1 := hd
    show isN (F d 5) ∧ tn (F d 5) < n
    by_cases e : d = c
    · subst e; rw [Fd, if_neg (by omega), if_pos ⟨rfl, rfl⟩]; exact ⟨hx, hxn⟩
    · rw [Fd, if_neg (by omega), if_neg (by omega)]; exact hF.2.2.2.2.2 d (by show d < c; omega)
  · show tn (cI u 1) ≤ tn (F (c + 1) 0); rw [F0, tn_nI (by omega)]; have := hL.1; rw [hBe] at this; omega
  · intro d hd
    have hd : d ≤ c + 1 := hd
    show tn (F d 0) + tn (F d 1) ≤ tn (cI u 1) + 24
    by_cases e : d = c + 1
    · subst e; rw [F0, F1, tn_nI (by omega), tn_nI (by omega)]; have := hL.2 c (Nat.le_refl _); rw [show cF u c 0 = cF u (cC u) 0 from rfl, hBe, show cF u c 1 = cF u (cC u) 1 from rfl, hSe] at this; omega
    · rw [Fn d 0 (by omega) (by omega), Fn d 1 (by omega) (by omega)]; exact hL.2 d (by show d ≤ c; omega)
  · show RE (fHi F (c + 1)) _ _ _ _
    rw [hhi]
    unfold fHi at hE
    rw [hBe, hSe] at hE
    exact hE
