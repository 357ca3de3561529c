/-! ranges, missing registers, and the small operations -/
theorem rng {x : Int32} {lo hi : Nat} (hl : lo < 2 ^ 31) (hh : hi < 2 ^ 31) (h : mOut x (nI lo) (nI hi) = false) : ∃ r, lo ≤ r ∧ r ≤ hi ∧ x = nI r := by
  have q := mOut_f h
  rw [nI_toInt hl, nI_toInt hh] at q
  refine ⟨tn x, ?_, ?_, nI_tn (by omega)⟩
  · have := tn_toInt (x := x) (by omega); omega
  · have := tn_toInt (x := x) (by omega); omega
def VI (n i : Nat) (I : I6) : Prop := mOut (iO I) 0 20 = false ∧ mOut (iQ I) 0 15 = false ∧ nFit I (nI n) = true ∧ (i + 1 = n → iMay I = true)
theorem by_eq {n : Nat} {u : CS} {v : MS} (h : RM n u v) {r : Nat} (h31 : r ≤ 31) : mBy v (nI r) = !rHas u (nI r) ∧ (rHas u (nI r) = true ↔ r < 8 + tn (cF u (cC u) 1)) := by
  have hF := h.2.2.2.1
  have hFO := hF.2.1 _ (Nat.le_refl _)
  have e1 : ga v 25 1 = nI (tn (cF u (cC u) 1)) := (hF.2.2.2.1 1 (by omega)).trans hFO.1.2.1
  have e2 : cF u (cC u) 1 = nI (tn (cF u (cC u) 1)) := hFO.1.2.1
  have h24 := hFO.2.2.1
  generalize tn (cF u (cC u) 1) = s at *
  have k1 : rHas u (nI r) = decide (r < 8 + s) := by
    unfold rHas
    rw [e2, show (8 : Int32) = nI 8 from rfl, nI_add]
    rw [decide_eq_decide]
    rw [nI_ltI (by omega) (by omega)]
    exact ⟨fun q => q.2, fun q => ⟨nI_pos' (by omega), q⟩⟩
  refine ⟨?_, by rw [k1]; exact decide_eq_true_iff⟩
  rw [k1]
  unfold mBy
  rw [e1]
  by_cases h8 : 8 ≤ r
  · have e3 : nI r - 8 = nI (r - 8) := by have := nI_s8 (r - 8) (by omega); rw [show r - 8 + 8 = r by omega] at this; exact this
    rw [e3]
    by_cases q : s ≤ r - 8
    · rw [decide_eq_true ⟨(nI_le8 (by omega)).mpr h8, nI_le q (by omega)⟩, decide_eq_false (by omega)]; rfl
    · rw [decide_eq_false (fun z => q ((nI_leI (by omega) (by omega)).mp z.2)), decide_eq_true (by omega)]; rfl
  · rw [decide_eq_false (fun z => h8 ((nI_le8 (by omega)).mp z.1)), decide_eq_true (by omega)]; rfl
theorem kd_rw : ∀ o, o < 21 → ∀ k, k < 3 → (mRd (nI o) (nI k) || mWr (nI o) (nI k)) = decide (kd k (nI o) = 1 ∨ kd k (nI o) = 2) := by decide +kernel
theorem kd_17 : kd 0 17 = 0 ∧ kd 1 17 = 0 ∧ kd 2 17 = 0 ∧ kd 0 18 = 0 ∧ kd 1 18 = 0 ∧ kd 2 18 = 0 := by decide +kernel
theorem nFits_r {k x c : Int32} (h : nFits k x c = true) (hk : k = 1 ∨ k = 2) : ∃ r, r ≤ 31 ∧ x = nI r ∧ (k = 2 → 1 ≤ r) := by
  unfold nFits at h
  rcases hk with e | e
  · rw [if_pos e] at h
    obtain ⟨r, h1, h2, h3⟩ := rng (lo := 0) (hi := 31) (by omega) (by omega) (Bool.not_eq_true' _ |>.mp h)
    exact ⟨r, h2, h3, fun q => by rw [e] at q; exact absurd q (by decide)⟩
  · rw [if_neg (by rw [e]; decide), if_pos e] at h
    obtain ⟨r, h1, h2, h3⟩ := rng (lo := 1) (hi := 31) (by omega) (by omega) (Bool.not_eq_true' _ |>.mp h)
    exact ⟨r, h2, h3, fun _ => h1⟩
theorem nFits_3 {x c : Int32} (h : nFits 3 x c = true) : ∃ r, 1 ≤ r ∧ r ≤ 14 ∧ x = nI r := by
  unfold nFits at h
  rw [if_neg (by decide), if_neg (by decide), if_pos rfl] at h
  exact rng (lo := 1) (hi := 14) (by omega) (by omega) (Bool.not_eq_true' _ |>.mp h)
theorem nFits_4 {x : Int32} {n : Nat} (hn : 1 ≤ n) (hn2 : n ≤ 40) (h : nFits 4 x (nI n) = true) : ∃ r, r < n ∧ x = nI r := by
  unfold nFits at h
  rw [if_neg (by decide), if_neg (by decide), if_neg (by decide), if_pos rfl] at h
  have e : nI n - 1 = nI (n - 1) := by have := nI_pred (n - 1); rw [show n - 1 + 1 = n by omega] at this; exact this
  rw [e] at h
  obtain ⟨r, h1, h2, h3⟩ := rng (lo := 0) (hi := n - 1) (by omega) (by omega) (Bool.not_eq_true' _ |>.mp h)
  exact ⟨r, by omega, h3⟩
/-- the parts of nFit that speak of registers -/
theorem nFit_k {I : I6} {c : Int32} (h : nFit I c = true) (h17 : ¬ iO I = 17) (h18 : ¬ iO I = 18) : nFits (kd 0 (iO I)) (iA I) c = true ∧ nFits (kd 1 (iO I)) (iB I) c = true ∧ nFits (kd 2 (iO I)) (iC I) c = true := by
  unfold nFit at h
  rw [if_neg h17, if_neg h18] at h
  simp only [Bool.and_eq_true] at h
  exact ⟨h.1.1, h.1.2, h.2⟩
theorem dMis_eq {n : Nat} {u : CS} {v : MS} (h : RM n u v) {k x c : Int32} (hf : nFits k x c = true) : (decide (k = 1 ∨ k = 2) && mBy v x) = dMis u k x := by
  unfold dMis
  by_cases hk : k = 1 ∨ k = 2
  · obtain ⟨r, h1, h2, -⟩ := nFits_r hf hk
    rw [h2, (by_eq h h1).1]
  · rw [decide_eq_false hk, Bool.false_and, Bool.false_and]
theorem miss_eq {n i : Nat} {u : CS} {v : MS} {I : I6} (h : RM n u v) (hV : VI n i I) : mMiss v (iO I) (iA I) (iB I) (iC I) = dMiss u I := by
  obtain ⟨o, -, ho, eo⟩ := rng (lo := 0) (hi := 20) (by omega) (by omega) hV.1
  unfold mMiss dMiss
  have k0 := kd_rw o (by omega) 0 (by omega)
  have k1 := kd_rw o (by omega) 1 (by omega)
  have k2 := kd_rw o (by omega) 2 (by omega)
  rw [← eo] at k0 k1 k2
  rw [show (0 : Int32) = nI 0 from rfl, show (1 : Int32) = nI 1 from rfl, show (2 : Int32) = nI 2 from rfl, k0, k1, k2]
  by_cases h17 : iO I = 17
  · rw [h17]; obtain ⟨q0, q1, q2, -⟩ := kd_17; unfold dMis; rw [q0, q1, q2]; rfl
  by_cases h18 : iO I = 18
  · rw [h18]; obtain ⟨-, -, -, q0, q1, q2⟩ := kd_17; unfold dMis; rw [q0, q1, q2]; rfl
  obtain ⟨f0, f1, f2⟩ := nFit_k hV.2.2.1 h17 h18
  rw [← dMis_eq h f0, ← dMis_eq h f1, ← dMis_eq h f2]
/-- what a step is to keep -/
def SR (n : Nat) (u : CS) (v : MS) (x : Int32 × CS) (y : Int32 × MS) : Prop := x.1 = y.1 ∧ (x.1 = -1 → RM n x.2 y.2 ∧ CK x.2 = CK u ∧ MK y.2 = MK v ∧ tn (cI x.2 4) < n ∧ cE x.2 = cE u ∧ gb y.2 30 = gb v 30) ∧ (¬ x.1 = -1 → 0 ≤ x.1 ∧ x.2 = (if x.1 = 0 then tE u true else u) ∧ y.2 = v)
theorem SR.go {n : Nat} {u u2 : CS} {v v2 : MS} (h : RM n u2 v2) (h1 : CK u2 = CK u) (h2 : MK v2 = MK v) (h3 : tn (cI u2 4) < n) (h4 : cE u2 = cE u) (h5 : gb v2 30 = gb v 30) : SR n u v (-1, u2) (-1, v2) := ⟨rfl, fun _ => ⟨h, h1, h2, h3, h4, h5⟩, fun q => absurd rfl q⟩
theorem SR.stop {n : Nat} {u : CS} {v : MS} (r : Int32) (hr : 0 < r) : SR n u v (r, u) (r, v) := ⟨rfl, fun q => by have q : r = -1 := q; rw [q] at hr; exact absurd hr (by decide), fun _ => ⟨Int32.le_of_lt hr, by show u = (if r = 0 then tE u true else u); rw [if_neg (fun q => by rw [q] at hr; exact absurd hr (by decide))], rfl⟩⟩
theorem SR.fin {n : Nat} {u : CS} {v : MS} : SR n u v (0, tE u true) (0, v) := ⟨rfl, fun q => absurd (show (0 : Int32) = -1 from q) (by decide), fun _ => ⟨show (0 : Int32) ≤ 0 by decide, rfl, rfl⟩⟩
/-- a write of a register, and on to the next instruction -/
theorem SR.put {n i : Nat} {u : CS} {v : MS} (h : RM n u v) (hi : cI u 4 = nI i) (hin : i + 1 < n) (hn : n ≤ 40) {r : Nat} (h1 : 1 ≤ r) (h31 : r ≤ 31) (hr : r < 8 + tn (cF u (cC u) 1)) (x : Int64) (b : Bool) : SR n u v (-1, tI (rWr u (nI r) x b) 4 (cI (rWr u (nI r) x b) 4 + 1)) (-1, si (mPut v (nI r) x b) 27 (gi v 27 + 1)) := by
  obtain ⟨p1, p2, p3, p4, p5, p6⟩ := reg_put h h1 h31 hr x b
  have e1 : cI (rWr u (nI r) x b) 4 + 1 = nI (i + 1) := by rw [p4, hi]; exact nI_1 i
  have e2 : gi v 27 + 1 = nI (i + 1) := by rw [h.2.2.2.2.2.2.2.2.2.2.2.1.1, hi]; exact nI_1 i
  rw [e1, e2]
  refine SR.go (p1.at (isN_nI (by omega))) p2 p3 (by show tn (nI (i + 1)) < n; rw [tn_nI (by omega)]; exact hin) p6 ?_
  show gb (mPut v (nI r) x b) 30 = _
  unfold mPut; split <;> rfl
