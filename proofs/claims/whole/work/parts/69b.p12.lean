/-! instruction, take, run; the start -/
theorem mIns_a {v : MS} {k : Nat} {o q a b c : Int32} {s : Bool} : (∀ i, ga (mIns v k o q a b c s) 1 i = if i = k then o else ga v 1 i) ∧ (∀ i, ga (mIns v k o q a b c s) 2 i = if i = k then q else ga v 2 i) ∧ (∀ i, ga (mIns v k o q a b c s) 3 i = if i = 3 * k + 2 then c else if i = 3 * k + 1 then b else if i = 3 * k then a else ga v 3 i) ∧ (∀ i, gz (mIns v k o q a b c s) 4 i = if i = k then s else gz v 4 i) := by
  unfold mIns
  refine ⟨fun i => ?_, fun i => ?_, fun i => ?_, fun i => ?_⟩
  · simp [ga_si, ga_sz, ga_sa]
  · simp [ga_si, ga_sz, ga_sa]
  · simp [ga_si, ga_sz, ga_sa]
  · simp [gz_si, gz_sz, gz_sa]
def insU (b : Bool) (u : CS) (q : Nat) (I : I6) (k : Nat) : CS := tI (tQ (tP u q I) (if b then 1 else 0) k (some q)) (if b then 8 else 7) (cI u (if b then 8 else 7) + 1)
theorem RX.ins {u : CS} {v : MS} {n : Nat} {PP : Nat → I6} {ap pp : Nat → Nat} {k : Nat} {DD : Nat → I6} {ad pd : Nat → Nat} (h : RX n PP ap pp k DD ad pd u v) (hk : k < 40) {o q a b c : Int32} {s : Bool} (ho : mOut o 0 20 = false) (hq : mOut q 0 15 = false) (z : Nat) : RX n PP ap pp (k + 1) (fun i => if i = k then (o, q, a, b, c, s) else DD i) (fun i => if i = k then z else ad i) (fun i => if i = k then (cP u).length else pd i) (insU (cS u) u z (o, q, a, b, c, s) k) (mIns v k o q a b c s) := by
  obtain ⟨hR, hP, hDm, hDc, hN, hE, hat⟩ := h
  obtain ⟨m1, m2, m3, m4⟩ := mIns_a (v := v) (k := k) (o := o) (q := q) (a := a) (b := b) (c := c) (s := s)
  have hPl : ∀ (x : Nat) (y : Nat × I6), (cP u)[x]? = some y → (cP u ++ [(z, (o, q, a, b, c, s))])[x]? = some y := fun x y hx => by
    rw [List.getElem?_append_left (List.getElem?_eq_some_iff.mp hx).1]; exact hx
  have hPe : (cP u ++ [(z, (o, q, a, b, c, s))])[(cP u).length]? = some (z, (o, q, a, b, c, s)) := List.getElem?_concat_length ..
  refine ⟨?_, ?_, ⟨by omega, ?_, fun i hi => ?_⟩, ?_, hN, hE, ?_⟩
  · cases hb : cS u <;> exact hR
  · obtain ⟨p1, p2, p3, p4, p5, p6⟩ := hP
    show RP (cS u) n PP ap pp (insU (cS u) u z (o, q, a, b, c, s) k) (mIns v k o q a b c s)
    refine ⟨p1, ?_, p3, p4, fun i hi => ?_, fun i hi => ?_⟩
    · cases hb : cS u <;> rw [hb] at p2 <;> exact p2
    · obtain ⟨w1, w2, w3, w4, w5⟩ := p5 i hi
      rw [m1, m2, m3, m3, m3, if_neg (by omega), if_neg (by omega), if_neg (by omega), if_neg (by omega), if_neg (by omega), if_neg (by omega), if_neg (by omega), if_neg (by omega), if_neg (by omega), if_neg (by omega), if_neg (by omega)]
      exact ⟨w1, w2, w3, w4, w5⟩
    · obtain ⟨w1, w2⟩ := p6 i hi
      refine ⟨?_, hPl _ _ w2⟩
      cases hb : cS u <;> rw [hb] at w1 <;> exact w1
  · show gi v 5 + 1 = nI (k + 1); rw [hDm.2.1]; exact nI_1 k
  · rw [m1, m2, m3, m3, m3, m4]
    by_cases e : i = k
    · subst e
      simp only [if_true]
      rw [if_neg (show ¬ 3 * i = 3 * i + 2 by omega), if_neg (show ¬ 3 * i = 3 * i + 1 by omega), if_neg (show ¬ 3 * i + 1 = 3 * i + 2 by omega)]
      exact ⟨⟨rfl, rfl, rfl, rfl, rfl, rfl⟩, ho, hq⟩
    · have hi2 : i < k := by omega
      rw [if_neg e, if_neg e, if_neg e, if_neg (by omega), if_neg (by omega), if_neg (by omega), if_neg (by omega), if_neg (by omega), if_neg (by omega), if_neg (by omega), if_neg (by omega), if_neg (by omega)]
      simp only [if_neg e]
      exact hDm.2.2 i hi2
  · show RDc (cS u) (k + 1) _ _ _ (insU (cS u) u z (o, q, a, b, c, s) k)
    obtain ⟨d1, d2⟩ := hDc
    refine ⟨?_, fun i hi => ?_⟩
    · cases hb : cS u <;> rw [hb] at d1
      · show cI u 7 + 1 = nI (k + 1); rw [show cI u 7 = nI k from d1]; exact nI_1 k
      · show cI u 8 + 1 = nI (k + 1); rw [show cI u 8 = nI k from d1]; exact nI_1 k
    · by_cases e : i = k
      · subst e
        simp only [if_true]
        refine ⟨?_, hPe⟩
        cases hb : cS u
        · show va_up (cQ u 0) i (some z) i = some z; exact va_up_self ..
        · show va_up (cQ u 1) i (some z) i = some z; exact va_up_self ..
      · obtain ⟨w1, w2⟩ := d2 i (by omega)
        simp only [if_neg e]
        refine ⟨?_, hPl _ _ w2⟩
        cases hb : cS u <;> rw [hb] at w1
        · show va_up (cQ u 0) k (some z) i = _; rw [va_up_ne _ _ e]; exact w1
        · show va_up (cQ u 1) k (some z) i = _; rw [va_up_ne _ _ e]; exact w1
  · cases hb : cS u <;> exact hat
theorem s_ins {u : CS} {v : MS} {n : Nat} {PP : Nat → I6} {ap pp : Nat → Nat} {k : Nat} {DD : Nat → I6} {ad pd : Nat → Nat} (h : RX n PP ap pp k DD ad pd u v) (o q a b c : Int32) (s : Bool) :
    OUT (fun r9 u9 => (mOut o 0 20 = false ∧ mOut q 0 15 = false ∧ k < 40) ∧ r9 = cI u (if cS u then 8 else 7) + 1 ∧ ∃ z : Nat, u9 = insU (cS u) u z (o, q, a, b, c, s) k) (fun E9 u9 => (E9 = "java/lang/IllegalArgumentException" ∧ (mOut o 0 20 = true ∨ mOut q 0 15 = true) ∧ u9 = u) ∨ (E9 = "java/lang/IllegalStateException" ∧ mOut o 0 20 = false ∧ mOut q 0 15 = false ∧ k = 40 ∧ u9 = u))
      (if (mBad o q || (!mBad o q && decide (gi v 5 = 40))) = true then 0 else gi v 5 + 1) (if (mBad o q || (!mBad o q && decide (gi v 5 = 40))) = true then si v 0 (mThr (mBad o q) (!mBad o q && decide (gi v 5 = 40))) else mIns v k o q a b c s) := by
  have k40 := h.2.2.1.1
  have e5 : gi v 5 = nI k := h.2.2.1.2.1
  have hd : decide (gi v 5 = 40) = decide (k = 40) := by rw [e5, show (40 : Int32) = nI 40 from rfl, decide_eq_decide]; exact nI_eq (by omega) (by omega)
  rw [hd]
  refine ⟨fun r9 u9 hp => ?_, fun E u9 hp => ?_⟩
  · obtain ⟨⟨h1, h2, h3⟩, h4, z, h5⟩ := hp
    have hb : mBad o q = false := by unfold mBad; rw [h1, h2]; rfl
    have hk : decide (k = 40) = false := decide_eq_false (by omega)
    rw [hb, hk]
    refine ⟨rfl, ?_, ?_⟩
    · rw [h4]
      show _ = gi v 5 + 1
      have d1 := h.2.2.2.1.1
      rw [show cI u (if cS u = true then 8 else 7) = nI k from d1, e5]
    · rw [h5]; exact RW.mk (h.ins h3 h1 h2 z)
  · rcases hp with ⟨e, hb, hu⟩ | ⟨e, h1, h2, h3, hu⟩
    · subst hu
      have hb : mBad o q = true := by unfold mBad; rcases hb with z | z <;> rw [z] <;> simp
      rw [hb]
      exact ⟨Or.inl ⟨e, rfl⟩, (RW.mk h).thr _⟩
    · subst hu
      have hb : mBad o q = false := by unfold mBad; rw [h1, h2]; rfl
      have hk : decide (k = 40) = true := decide_eq_true h3
      rw [hb, hk]
      exact ⟨Or.inr ⟨e, rfl⟩, (RW.mk h).thr _⟩
theorem RDm_fr {k : Nat} {DD : Nat → I6} {v w : MS} (h : RDm k DD v) (hf : frk v w) : RDm k DD w := by
  unfold RDm
  rw [hf.1, hf.2.1, hf.2.2.2.1 5 (by omega)]
  exact h
theorem RM_fr {n : Nat} {u : CS} {v w : MS} (h : RM n u v) (hf : frk v w) : RM n u w := by
  unfold RM at h ⊢
  rw [hf.1, hf.2.1, hf.2.2.1, hf.2.2.2.1 26 (by omega), hf.2.2.2.1 21 (by omega), hf.2.2.2.1 22 (by omega), hf.2.2.2.1 27 (by omega), hf.2.2.2.1 28 (by omega), hf.2.2.2.1 29 (by omega), hf.2.2.2.1 23 (by omega), hf.2.2.2.1 24 (by omega)]
  exact h
/-- the class, where the draft has a fault -/
def tkF (b : Bool) (u : CS) (N : I6) : CS := tI (tN u N) (if b then 8 else 7) 0
/-- the class, where it takes -/
def tkS (b : Bool) (u : CS) (N : I6) : CS := dNew (tI (tS (tN u N) (!b)) (if b then 7 else 8) 0)
theorem RX.flt {u : CS} {v : MS} {n : Nat} {PP : Nat → I6} {ap pp : Nat → Nat} {k : Nat} {DD : Nat → I6} {ad pd : Nat → Nat} (h : RX n PP ap pp k DD ad pd u v) : RX n PP ap pp 0 DD ad pd (tkF (cS u) u (nInsp k DD)) (si (si (mCheck v k) 5 0) 0 1) := by
  obtain ⟨hR, hP, hDm, hDc, hN, hE, hat⟩ := h
  obtain ⟨c1, c2, c3, c4, c5⟩ := check_eq hDm
  have hRw := RM_fr hR c1
  refine ⟨?_, ?_, ⟨by omega, rfl, fun i hi => absurd hi (by omega)⟩, ?_, ⟨c2, c3⟩, ?_, ?_⟩
  · cases hb : cS u <;> exact hRw
  · obtain ⟨p1, p2, p3, p4, p5, p6⟩ := hP
    show RP (cS u) n PP ap pp (tkF (cS u) u (nInsp k DD)) _
    refine ⟨p1, ?_, ?_, p4, fun i hi => ?_, fun i hi => ?_⟩
    · cases hb : cS u <;> rw [hb] at p2 <;> exact p2
    · show gi (mCheck v k) 6 = nI n; rw [c1.2.2.2.1 6 (by omega)]; exact p3
    · show ga (mCheck v k) 1 (40 + i) = _ ∧ ga (mCheck v k) 2 (40 + i) = _ ∧ ga (mCheck v k) 3 (3 * (40 + i)) = _ ∧ ga (mCheck v k) 3 (3 * (40 + i) + 1) = _ ∧ ga (mCheck v k) 3 (3 * (40 + i) + 2) = _
      rw [c1.1]; exact p5 i hi
    · cases hb : cS u <;> have w := p6 i hi <;> rw [hb] at w <;> exact w
  · show RDc (cS u) 0 _ _ _ (tkF (cS u) u (nInsp k DD))
    refine ⟨?_, fun i hi => absurd hi (by omega)⟩
    cases hb : cS u <;> rfl
  · show cE u = gb (mCheck v k) 30; rw [c1.2.2.2.2 30 (by omega)]; exact hE
  · cases hb : cS u <;> exact hat
