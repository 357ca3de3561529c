/-! what a step needs holds; runs -/
theorem step_dpre {n i : Nat} {u : CS} {v : MS} {I : I6} (h : RM n u v) (hV : VI n i I) : dPre u I := by
  obtain ⟨c1, c2, c3⟩ := cI0 h
  have hF := h.2.2.2.1
  have hL := h.2.2.2.2.1
  have hFO := hF.2.1 _ (Nat.le_refl _)
  have h120 := hFO.2.2.2.2.2.2
  have hl : isN (cI u 1) ∧ tn (cI u 1) ≤ 120 := ⟨h.2.1.1, by have := hL.1; omega⟩
  refine ⟨⟨by rw [c1]; exact h.1.1, by omega⟩, fun e17 => ?_, fun e16 hz => ?_⟩
  · have hf : fFits I = true := by have q := hV.2.2.1; unfold nFit at q; rw [if_pos e17] at q; exact q
    obtain ⟨a, b, t, a1, a2, a3, a4, ea, eb, et⟩ := fFits_n hf
    rw [ea]
    exact ⟨hFO.1.1, hFO.1.2.1, fun q => ⟨isN_nI (by omega), by rw [tn_nI (by omega)]; exact Nat.not_lt.mp (fun z => q ((lim120 h a1).mpr z))⟩, h120, hl.1, hl.2⟩
  · have hc0 : ¬ cC u = 0 := fun q => hz (by rw [h.1.1, q]; rfl)
    rw [c1]
    have hFd := hF.2.1 (cC u - 1) (by omega)
    have e : cF u (cC u) 0 + cF u (cC u) 1 = nI (tn (cF u (cC u) 0) + tn (cF u (cC u) 1)) := by
      have q0 : cF u (cC u) 0 = nI (tn (cF u (cC u) 0)) := hFO.1.1
      have q1 : cF u (cC u) 1 = nI (tn (cF u (cC u) 1)) := hFO.1.2.1
      generalize tn (cF u (cC u) 0) = B at *
      generalize tn (cF u (cC u) 1) = S at *
      rw [q0, q1, nI_add]
    refine ⟨?_, ?_, hFd.1.1, hFd.1.2.1, hFd.2.2.2.2.2.2, hl.1, hl.2⟩
    · rw [e, tn_nI (by omega)]
    · rw [e, tn_nI (by omega)]; exact h120
theorem turn_in : ∀ r, r < 16 → vp_in (8 + ((8 + (nI r - 1)) - (8 + (nI r - 1)) / 8 * 8)) 16 := by
  intro r hr
  rw [vp_in_iff]
  revert r
  decide +kernel
theorem step_mpre {n i : Nat} {u : CS} {v : MS} {I : I6} (h : RM n u v) (hn : n ≤ 40) (hV : VI n i I) (hm : mMiss v (iO I) (iA I) (iB I) (iC I) = false) : mPre v (iO I) (iA I) (iB I) (iC I) := by
  rw [miss_eq h hV] at hm
  obtain ⟨m0, m1, m2⟩ := dMiss_f hm
  obtain ⟨c1, c2, c3⟩ := cI0 h
  have hF := h.2.2.2.1
  have hL := h.2.2.2.2.1
  have hFO := hF.2.1 _ (Nat.le_refl _)
  have h120 := hFO.2.2.2.2.2.2
  have hg0 : ga v 25 0 = cF u (cC u) 0 := hF.2.2.2.1 0 (by omega)
  have hg1 : ga v 25 1 = cF u (cC u) 1 := hF.2.2.2.1 1 (by omega)
  obtain ⟨o, -, ho, eo⟩ := rng (lo := 0) (hi := 20) (by omega) (by omega) hV.1
  -- a register's place is good
  have okA : (kd 0 (iO I) = 1 ∨ kd 0 (iO I) = 2) → mOk v (iA I) := fun hk => by
    obtain ⟨f0, -, -⟩ := nFit_k hV.2.2.1 (fun q => by rw [q] at hk; revert hk; decide) (fun q => by rw [q] at hk; revert hk; decide)
    obtain ⟨r, l, e, -, s⟩ := rg_of (i := i) h f0 m0 hk
    rw [e]; exact (reg_ok h l s).1
  have okB : (kd 1 (iO I) = 1 ∨ kd 1 (iO I) = 2) → mOk v (iB I) := fun hk => by
    obtain ⟨-, f1, -⟩ := nFit_k hV.2.2.1 (fun q => by rw [q] at hk; revert hk; decide) (fun q => by rw [q] at hk; revert hk; decide)
    obtain ⟨r, l, e, -, s⟩ := rg_of (i := i) h f1 m1 hk
    rw [e]; exact (reg_ok h l s).1
  have okC : (kd 2 (iO I) = 1 ∨ kd 2 (iO I) = 2) → mOk v (iC I) := fun hk => by
    obtain ⟨-, -, f2⟩ := nFit_k hV.2.2.1 (fun q => by rw [q] at hk; revert hk; decide) (fun q => by rw [q] at hk; revert hk; decide)
    obtain ⟨r, l, e, -, s⟩ := rg_of (i := i) h f2 m2 hk
    rw [e]; exact (reg_ok h l s).1
  have tab1 : ∀ o, o < 21 → 8 ≤ nI o → nI o ≤ 12 → (kd 0 (nI o) = 1 ∨ kd 0 (nI o) = 2) ∧ (kd 1 (nI o) = 1 ∨ kd 1 (nI o) = 2) := by decide +kernel
  have tab2 : ∀ o, o < 21 → 0 < nI o → nI o ≤ 7 → (nI o = 1 ∨ nI o < 6 → kd 0 (nI o) = 1 ∨ kd 0 (nI o) = 2) := by decide +kernel
  have tab3 : ∀ o, o < 21 → 0 < nI o → nI o ≤ 7 → (¬ nI o = 1 → kd 1 (nI o) = 1 ∨ kd 1 (nI o) = 2) := by decide +kernel
  have tab4 : ∀ o, o < 21 → 0 < nI o → nI o ≤ 7 → (¬ nI o = 1 → kd 2 (nI o) = 1 ∨ kd 2 (nI o) = 2) := by decide +kernel
  have tab5 : ∀ o, o < 21 → 0 < nI o → nI o ≤ 7 → (6 ≤ nI o → kd 0 (nI o) = 3) := by decide +kernel
  have tab6 : ∀ o, o < 21 → nI o = 13 → kd 0 (nI o) = 1 ∨ kd 0 (nI o) = 2 := by decide +kernel
  have hto : o < 21 := by omega
  have T : (8 ≤ nI o → nI o ≤ 12 → (kd 0 (nI o) = 1 ∨ kd 0 (nI o) = 2) ∧ (kd 1 (nI o) = 1 ∨ kd 1 (nI o) = 2)) ∧ (0 < nI o → nI o ≤ 7 → (nI o = 1 ∨ nI o < 6 → kd 0 (nI o) = 1 ∨ kd 0 (nI o) = 2) ∧ (¬ nI o = 1 → kd 1 (nI o) = 1 ∨ kd 1 (nI o) = 2) ∧ (¬ nI o = 1 → kd 2 (nI o) = 1 ∨ kd 2 (nI o) = 2) ∧ (6 ≤ nI o → kd 0 (nI o) = 3)) ∧ (nI o = 13 → kd 0 (nI o) = 1 ∨ kd 0 (nI o) = 2) := ⟨tab1 o hto, fun x y => ⟨tab2 o hto x y, tab3 o hto x y, tab4 o hto x y, tab5 o hto x y⟩, tab6 o hto⟩
  rw [← eo] at T
  refine ⟨fun h8 h12 => ⟨okA (T.1 h8 h12).1, okB (T.1 h8 h12).2⟩, fun h0 h7 => ⟨fun q => okA ((T.2.1 h0 h7).1 q), fun q => okB ((T.2.1 h0 h7).2.1 q), fun q => okC ((T.2.1 h0 h7).2.2.1 q), fun q => ?_⟩, fun q => okA (T.2.2 q), fun q x hx => ?_, ⟨by rw [c2]; exact h.1.2, by omega⟩, fun q => ?_, ⟨?_, ?_, ?_, ?_⟩, fun q hq => ?_⟩
  · have hk := (T.2.1 h0 h7).2.2.2 q
    obtain ⟨f0, -, -⟩ := nFit_k hV.2.2.1 (fun z => by rw [z] at hk; revert hk; decide) (fun z => by rw [z] at hk; revert hk; decide)
    rw [hk] at f0
    obtain ⟨a, a1, a14, ea⟩ := nFits_3 f0
    rw [ea, nI_1]
    exact ⟨(pred_eq h (p := a) (by omega)).1, (pred_eq h (p := a + 1) (by omega)).1⟩
  · obtain ⟨r, hr, -, e2⟩ := h.rot
    show vp_in (if (8 : Int32) ≤ 8 then 8 + ((8 + ga (sa v 25 4 x) 25 4) - (8 + ga (sa v 25 4 x) 25 4) / 8 * 8) else 8) 16
    rw [if_pos (by decide), ga_sa_eq]
    rcases hx with e | e
    · rw [e, vp_in_iff]; decide
    · rw [e, e2]; exact turn_in r (by omega)
  · rw [h.1.2]
    by_cases hc0 : cC u = 0
    · rw [hc0, show tn (nI 0) = 0 from rfl]
      refine ⟨fun z => absurd rfl z, fun z => absurd rfl z, ?_⟩
      rw [show 6 * 0 + 0 = 0 from rfl, show 6 * 0 + 1 = 1 from rfl, hg0, hg1]; exact h120
    · obtain ⟨d, hd⟩ : ∃ d, cC u = d + 1 := ⟨cC u - 1, by omega⟩
      rw [hd, tn_nI (by omega), hF.2.2.2.2.1 d (by omega) 0 (by omega), hF.2.2.2.2.1 d (by omega) 1 (by omega)]
      have hFd := hF.2.1 d (by omega)
      exact ⟨fun _ => hFd.1.1, fun _ => hFd.1.2.1, hFd.2.2.2.2.2.2⟩
  · rw [h.2.2.1]; exact isN_nI (by unfold fHi; omega)
  · rw [h.2.1.2]; exact h.2.1.1
  · rw [h.2.2.1, tn_nI (by unfold fHi; omega)]; exact h120
  · rw [h.2.1.2]; have := hL.1; omega
  · have hf : fFits I = true := by have z := hV.2.2.1; unfold nFit at z; rw [if_pos q] at z; exact z
    obtain ⟨a, b, t, a1, a2, a3, a4, ea, eb, et⟩ := fFits_n hf
    rw [hg0, ea] at hq ⊢
    have q2 : tn (cF u (cC u) 0) + a ≤ 120 := Nat.not_lt.mp (fun z => hq ((lim120 h a1).mpr z))
    rw [h.2.1.2, tn_nI (show a < 2 ^ 31 by omega)]
    refine ⟨?_, q2, by have := hL.1; omega⟩
    have q0 : cF u (cC u) 0 = nI (tn (cF u (cC u) 0)) := hFO.1.1
    generalize tn (cF u (cC u) 0) = B at *
    rw [q0, nI_add]
/-- the program's part of the relation; its listing is number j of the class's, its count field c -/
def RP (b : Bool) (n : Nat) (PP : Nat → I6) (ad pI : Nat → Nat) (u : CS) (v : MS) : Prop := n ≤ 40 ∧ cI u (if b then 7 else 8) = nI n ∧ gi v 6 = nI n ∧ (∀ i, i < n → VI n i (PP i)) ∧ (∀ i, i < n → ga v 1 (40 + i) = iO (PP i) ∧ ga v 2 (40 + i) = iQ (PP i) ∧ ga v 3 (3 * (40 + i)) = iA (PP i) ∧ ga v 3 (3 * (40 + i) + 1) = iB (PP i) ∧ ga v 3 (3 * (40 + i) + 2) = iC (PP i)) ∧ (∀ i, i < n → cQ u (if b then 0 else 1) i = some (ad i) ∧ (cP u)[pI i]? = some (ad i, PP i))
theorem RP_k {b : Bool} {n : Nat} {PP : Nat → I6} {ad pI : Nat → Nat} {u u2 : CS} {v v2 : MS} (h : RP b n PP ad pI u v) (hu : CK u2 = CK u) (hv : MK v2 = MK v) : RP b n PP ad pI u2 v2 := by
  simp only [CK, MK, Prod.mk.injEq] at hu hv
  obtain ⟨⟨u7, u8⟩, uQ, uS, uP, uN⟩ := hu
  obtain ⟨v1, v2', v3, v4, v5, v6, v7, v8⟩ := hv
  unfold RP at h ⊢
  rw [uQ, uP, v1, v2', v3, v6]
  cases b
  · rw [show cI u2 (if false = true then 7 else 8) = cI u (if false = true then 7 else 8) from u8]; exact h
  · rw [show cI u2 (if true = true then 7 else 8) = cI u (if true = true then 7 else 8) from u7]; exact h
/-- both while they run -/
def JJ (b : Bool) (n : Nat) (PP : Nat → I6) (ad pI : Nat → Nat) (u0 : CS) (v0 : MS) (u : CS) (v : MS) : Prop := RM n u v ∧ RP b n PP ad pI u v ∧ CK u = CK u0 ∧ MK v = MK v0 ∧ tn (cI u 4) < n ∧ cE u = cE u0 ∧ gb v 30 = gb v0 30
abbrev Nw (PP : Nat → I6) (u : CS) : I6 := PP (tn (cI u 4))
theorem JJ.st {b : Bool} {n : Nat} {PP : Nat → I6} {ad pI : Nat → Nat} {u0 u : CS} {v0 v : MS} (h : JJ b n PP ad pI u0 v0 u v) : mStep v (mN v) = mStI v (Nw PP u) ∧ SR n u v (dStep u (Nw PP u)) (mStep v (mN v)) := by
  obtain ⟨hR, hP, -, -, hat, -, -⟩ := h
  have e27 : gi v 27 = cI u 4 := hR.2.2.2.2.2.2.2.2.2.2.2.1.1
  have e4 : isN (cI u 4) := hR.2.2.2.2.2.2.2.2.2.2.2.1.2
  have eN : mN v = 40 + tn (cI u 4) := by unfold mN; rw [e27]
  obtain ⟨q1, q2, q3, q4, q5⟩ := hP.2.2.2.2.1 _ hat
  have e : mStep v (mN v) = mStI v (Nw PP u) := by
    unfold mStep mStI
    rw [eN, q1, q2, q3, q4, q5]
  exact ⟨e, by rw [e]; exact sim_step hR e4 hat hP.1 (hP.2.2.2.1 _ hat)⟩
theorem JJ.nx {b : Bool} {n : Nat} {PP : Nat → I6} {ad pI : Nat → Nat} {u0 u : CS} {v0 v : MS} (h : JJ b n PP ad pI u0 v0 u v) (hr : (dStep u (Nw PP u)).1 = -1) : JJ b n PP ad pI u0 v0 (dStep u (Nw PP u)).2 (mStep v (mN v)).2 := by
  obtain ⟨k1, k2, k3, k4, k5, k6⟩ := h.st.2.2.1 hr
  exact ⟨k1, RP_k h.2.1 k2 k3, k2.trans h.2.2.1, k3.trans h.2.2.2.1, k4, k5.trans h.2.2.2.2.2.1, k6.trans h.2.2.2.2.2.2⟩
theorem JJ.good {b : Bool} {n : Nat} {PP : Nat → I6} {ad pI : Nat → Nat} {u0 u : CS} {v0 v : MS} (h : JJ b n PP ad pI u0 v0 u v) (hS : cS u0 = b) : dGood b (if b then 7 else 8) (if b then 0 else 1) u (Nw PP u) := by
  obtain ⟨hR, hP, hu, -, hat, -, -⟩ := h
  have e4 : isN (cI u 4) := hR.2.2.2.2.2.2.2.2.2.2.2.1.2
  have hV := hP.2.2.2.1 _ hat
  obtain ⟨-, -, c3⟩ := cI0 hR
  simp only [CK, Prod.mk.injEq] at hu
  obtain ⟨w1, w2⟩ := hP.2.2.2.2.2 _ hat
  refine ⟨by omega, hu.2.2.1.trans hS, step_dpre hR hV, _, _, w2, ?_⟩
  have key : ∀ i, cI u 4 = nI i → i < n → lAt (nI n) (cQ u (if b = true then 0 else 1)) (cI u 4) = cQ u (if b = true then 0 else 1) i := fun i hi hlt => by rw [hi]; exact lAt_nI hlt hP.1
  rw [hP.2.1]
  exact (key _ e4 hat).trans w1
theorem JJ.mgood {b : Bool} {n : Nat} {PP : Nat → I6} {ad pI : Nat → Nat} {u0 u : CS} {v0 v : MS} (h : JJ b n PP ad pI u0 v0 u v) : mGood v := by
  obtain ⟨hR, hP, -, -, hat, -, -⟩ := h
  have e27 : gi v 27 = cI u 4 := hR.2.2.2.2.2.2.2.2.2.2.2.1.1
  have e4 : cI u 4 = nI (tn (cI u 4)) := hR.2.2.2.2.2.2.2.2.2.2.2.1.2
  have eN : mN v = 40 + tn (cI u 4) := by unfold mN; rw [e27]
  have hV := hP.2.2.2.1 _ hat
  have hn := hP.1
  obtain ⟨q1, q2, q3, q4, q5⟩ := hP.2.2.2.2.1 _ hat
  unfold mGood
  rw [eN, q1, q2, q3, q4, q5]
  obtain ⟨q, -, hq, eq⟩ := rng (lo := 0) (hi := 15) (by omega) (by omega) hV.2.1
  refine ⟨?_, by omega, by rw [eq]; exact (pred_eq hR (by omega)).1, fun hm => step_mpre hR hn hV hm⟩
  rw [e27]
  generalize tn (cI u 4) = i at *
  rw [e4, show (40 : Int32) = nI 40 from rfl, nI_add]
/-- the whole of a run -/
theorem run_sim {b : Bool} {n : Nat} {PP : Nat → I6} {ad pI : Nat → Nat} {u0 : CS} {v0 : MS} : ∀ (f : Nat) (u : CS) (v : MS), JJ b n PP ad pI u0 v0 u v → (dRunL (Nw PP) f u).1 = (mRunL f v).1 ∧ ∃ u2, JJ b n PP ad pI u0 v0 u2 (mRunL f v).2 ∧ (dRunL (Nw PP) f u).2 = (if (dRunL (Nw PP) f u).1 = 0 then tE u2 true else u2) := by
  intro f
  induction f with
  | zero => intro u v h; exact ⟨rfl, u, h, by show u = (if (5 : Int32) = 0 then _ else u); rw [if_neg (by decide)]⟩
  | succ f ih =>
    intro u v h
    have hs := h.st.2
    unfold dRunL mRunL
    by_cases hr : (dStep u (Nw PP u)).1 = -1
    · have hr2 : (mStep v (mN v)).1 < 0 := by rw [← hs.1, hr]; decide
      rw [if_pos hr, if_pos hr2]
      exact ih _ _ (h.nx hr)
    · obtain ⟨k1, k2, k3⟩ := hs.2.2 hr
      have hr2 : ¬ (mStep v (mN v)).1 < 0 := by rw [← hs.1]; exact Int32.not_lt.mpr k1
      rw [if_neg hr, if_neg hr2]
      refine ⟨hs.1, u, ?_, k2⟩
      rw [k3]; exact h
