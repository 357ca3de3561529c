theorem mPut_0 (v : MS) (r : Int32) (x : Int64) (b : Bool) : gi (mPut v r x b) 0 = gi v 0 := by unfold mPut; split <;> rfl
theorem mReck_0 (v : MS) (o a b c : Int32) : gi (mReck v o a b c) 0 = gi v 0 := by
  unfold mReck
  split
  · exact mPut_0 ..
  · split
    · rfl
    · exact mPut_0 ..
theorem mMem_0 (v : MS) (o a b : Int32) (s : Bool) (y : Int32) (k : Int64) (t : Bool) : gi (mMem v o a b s y k t).2 0 = gi v 0 := by
  unfold mMem
  split
  · exact mPut_0 ..
  · split
    · rfl
    · split
      · rfl
      · split
        · rfl
        · exact mPut_0 ..
theorem mBack_0 (v : MS) (c B S H L : Nat) : gi (mBack v c B S H L) 0 = gi v 0 := by
  unfold mBack
  show gi (mBk2 (mBk1 (mBk0 v c) H (B + S)) L B) 0 = gi v 0
  have e1 : ∀ w : MS, gi (mBk2 w L B) 0 = gi w 0 := fun w => by unfold mBk2; split <;> rfl
  have e2 : ∀ w : MS, gi (mBk1 w H (B + S)) 0 = gi w 0 := fun w => by unfold mBk1; split <;> rfl
  rw [e1, e2]; rfl
theorem mTurn_0 (v : MS) : gi (mTurnU v) 0 = gi v 0 := by unfold mTurnU; split <;> rfl
theorem mStep_0 (v : MS) (n : Nat) : gi (mStep v n).2 0 = gi v 0 := by
  unfold mStep
  split
  · rfl
  · split
    · rfl
    · unfold mStep5
      split
      · rfl
      · split
        · exact mMem_0 ..
        · split
          · split
            · rfl
            · exact mBack_0 ..
          · split
            · split <;> rfl
            · split
              · split <;> rfl
              · split
                · exact mReck_0 ..
                · split
                  · rfl
                  · split
                    · rfl
                    · split
                      · exact mTurn_0 v
                      · split <;> rfl
theorem mRun_0 : ∀ (f : Nat) (v : MS), gi v 0 = 0 → gi (mRunL f v).2 0 = 0 := by
  intro f
  induction f with
  | zero => intro v h; exact h
  | succ f ih =>
    intro v h
    unfold mRunL
    split
    · exact ih _ (by rw [mStep_0]; exact h)
    · rw [mStep_0]; exact h
theorem mTk_e {w : MS} {k : Nat} (k40 : k ≤ 40) : (∀ i, i < k → ga (mTk w k) 1 (40 + i) = ga w 1 i ∧ ga (mTk w k) 2 (40 + i) = ga w 2 i ∧ ga (mTk w k) 3 (3 * (40 + i)) = ga w 3 (3 * i) ∧ ga (mTk w k) 3 (3 * (40 + i) + 1) = ga w 3 (3 * i + 1) ∧ ga (mTk w k) 3 (3 * (40 + i) + 2) = ga w 3 (3 * i + 2)) := by
  intro i hi
  refine ⟨?_, ?_, ?_, ?_, ?_⟩
  · show (if 40 ≤ 40 + i ∧ 40 + i < 40 + k then ga w 1 (40 + i - 40) else ga w 1 (40 + i)) = _
    rw [if_pos (by omega), show 40 + i - 40 = i by omega]
  · show (if 40 ≤ 40 + i ∧ 40 + i < 40 + k then ga w 2 (40 + i - 40) else ga w 2 (40 + i)) = _
    rw [if_pos (by omega), show 40 + i - 40 = i by omega]
  · show (if 120 ≤ 3 * (40 + i) ∧ 3 * (40 + i) < 120 + 3 * k then ga w 3 (3 * (40 + i) - 120) else ga w 3 (3 * (40 + i))) = _
    rw [if_pos (by omega), show 3 * (40 + i) - 120 = 3 * i by omega]
  · show (if 120 ≤ 3 * (40 + i) + 1 ∧ 3 * (40 + i) + 1 < 120 + 3 * k then ga w 3 (3 * (40 + i) + 1 - 120) else ga w 3 (3 * (40 + i) + 1)) = _
    rw [if_pos (by omega), show 3 * (40 + i) + 1 - 120 = 3 * i + 1 by omega]
  · show (if 120 ≤ 3 * (40 + i) + 2 ∧ 3 * (40 + i) + 2 < 120 + 3 * k then ga w 3 (3 * (40 + i) + 2 - 120) else ga w 3 (3 * (40 + i) + 2)) = _
    rw [if_pos (by omega), show 3 * (40 + i) + 2 - 120 = 3 * i + 2 by omega]
/-- a fresh machine -/
theorem RM_new {n m : Nat} {u u1 : CS} {v w : MS} (h : RM n u v) (hf : frk v w) (hu : cL u1 = cL u ∧ cZ u1 = cZ u) (k : Nat) : RM m (dNew u1) (mTk w k) := by
  obtain ⟨a1, a2, a3, hF, hL, hE, hS, hB, hX, hM, hP, r9⟩ := RM_fr h hf
  have z : isN (0 : Int32) := by decide
  have t0 : tn (0 : Int32) = 0 := by decide
  have F0 : ∀ k, cF (dNew u1) 0 k = 0 := by
    intro k
    have e : cF (dNew u1) 0 k = (if 0 = 0 then (if k = 0 then (0 : Int32) else if k = 1 then 0 else 0) else cF u1 0 k) := rfl
    rw [e, if_pos rfl]; split; rfl; split <;> rfl
  refine ⟨⟨rfl, rfl⟩, ⟨z, rfl⟩, ?_, ⟨show 0 ≤ 40 from Nat.zero_le _, fun d hd => ?_, fun d hd => absurd hd (Nat.not_lt_zero d), fun k hk => ?_, fun d hd => absurd hd (Nat.not_lt_zero d), fun d hd => absurd hd (Nat.not_lt_zero d)⟩, ⟨show tn (0 : Int32) ≤ _ by rw [t0]; exact Nat.zero_le _, fun d hd => ?_⟩, fun p hp => ?_, fun p hp => ?_, fun p hp => ?_, ?_, ?_, ?_, ⟨rfl, z⟩, ⟨rfl, z, show tn (0 : Int32) ≤ 20 by decide⟩, ⟨rfl, z, show tn (0 : Int32) ≤ 20 by decide⟩, rfl, rfl⟩
  · show (0 : Int32) = nI (fHi (cF (dNew u1)) 0)
    unfold fHi; rw [F0, F0, t0]; rfl
  · have hd : d ≤ 0 := hd
    rw [show d = 0 by omega]
    unfold FO
    rw [F0, F0, F0, F0, F0, t0]
    exact ⟨⟨z, z, z, z, z⟩, by omega, by omega, Or.inl rfl, by omega, by omega, by omega⟩
  · show ga (mTk w _) 25 k = cF (dNew u1) 0 k
    rw [F0]
    show (if 0 ≤ k ∧ k < 6 then (0 : Int32) else ga w 25 k) = 0
    rw [if_pos (by omega)]
  · have hd : d ≤ 0 := hd
    rw [show d = 0 by omega, F0, F0, t0]; omega
  · have hp : p < fHi (cF (dNew u1)) 0 := hp
    unfold fHi at hp; rw [F0, F0, t0] at hp; omega
  · have hp : p < tn (0 : Int32) := hp
    rw [t0] at hp; omega
  · show (if 0 ≤ p ∧ p < 120 then (0 : Int64) else gl w 17 p) = (if 0 ≤ p ∧ p < 120 then (0 : Int64) else cL u1 3 p)
    rw [if_pos (by omega), if_pos (by omega)]
  · show RE 8 (gl w 13) (gz w 14) (cL u1 1) (cZ u1 1); rw [hu.1, hu.2]; exact hX
  · show RE 32 (gl w 18) (gz w 19) (cL u1 0) (cZ u1 0); rw [hu.1, hu.2]; exact hM
  · refine ⟨?_, fun p h1 h2 => ?_⟩
    · show (if 1 ≤ 0 ∧ 0 < 16 then false else gz w 20 0) = true
      rw [if_neg (by omega)]; exact hP.1
    · show (if 1 ≤ p ∧ p < 16 then false else gz w 20 p) = (if 0 ≤ p ∧ p < 16 then false else cZ u1 4 p)
      rw [if_pos (by omega), if_pos (by omega)]
/-- the draft taken: over any answer w of the check and any inspection N -/
theorem tak_P {u : CS} {w : MS} {N : I6} {k : Nat} {DD : Nat → I6} {ad pd : Nat → Nat} (k40 : k ≤ 40) (hV : ∀ i, i < k → VI k i (DD i)) (hw : ∀ i, i < k → ga w 1 i = iO (DD i) ∧ ga w 2 i = iQ (DD i) ∧ ga w 3 (3 * i) = iA (DD i) ∧ ga w 3 (3 * i + 1) = iB (DD i) ∧ ga w 3 (3 * i + 2) = iC (DD i)) (hD : RDc (cS u) k DD ad pd u) : RP (!cS u) k DD ad pd (tkS (cS u) u N) (mTk w k) := by
  obtain ⟨d1, d2⟩ := hD
  refine ⟨k40, ?_, rfl, hV, fun i hi => ?_, fun i hi => ?_⟩
  · cases hb : cS u <;> rw [hb] at d1 <;> exact d1
  · obtain ⟨e1, e2, e3, e4, e5⟩ := mTk_e (w := w) k40 i hi
    rw [e1, e2, e3, e4, e5]
    exact hw i hi
  · cases hb : cS u <;> have q := d2 i hi <;> rw [hb] at q <;> exact q
theorem tak_D {u : CS} {N : I6} {DD : Nat → I6} {ad pd : Nat → Nat} : RDc (!cS u) 0 DD ad pd (tkS (cS u) u N) := by
  refine ⟨?_, fun i hi => absurd hi (Nat.not_lt_zero i)⟩
  cases hb : cS u <;> rfl
theorem tak_0 {u : CS} {N : I6} {w : MS} {k : Nat} : cS (tkS (cS u) u N) = (!cS u) ∧ cN (tkS (cS u) u N) = N ∧ gi (mTk w k) 7 = gi w 7 ∧ gi (mTk w k) 8 = gi w 8 ∧ cE (tkS (cS u) u N) = false ∧ gb (mTk w k) 30 = false ∧ cI (tkS (cS u) u N) 4 = 0 ∧ gi (mTk w k) 5 = nI 0 := ⟨rfl, rfl, rfl, rfl, rfl, rfl, rfl, rfl⟩
theorem tak_R {n : Nat} {u : CS} {v w : MS} {N : I6} (h : RM n u v) (hf : frk v w) (k : Nat) : RM k (tkS (cS u) u N) (mTk w k) := RM_new (u1 := tI (tS (tN u N) (!cS u)) (if cS u then 7 else 8) 0) h hf ⟨rfl, rfl⟩ k
theorem tak_X {u : CS} {v w : MS} {n : Nat} {PP : Nat → I6} {ap pp : Nat → Nat} {k : Nat} {DD : Nat → I6} {ad pd : Nat → Nat} {N : I6} (h : RX n PP ap pp k DD ad pd u v) (c1 : frk v w) (c2 : iO N = gi w 7) (c3 : iQ N = gi w 8) (k1 : 1 ≤ k) (hV : ∀ i, i < k → VI k i (DD i)) : RX k DD ad pd 0 DD ad pd (tkS (cS u) u N) (mTk w k) := by
  obtain ⟨hR, hP, hDm, hDc, hN, hE, hat⟩ := h
  obtain ⟨t1, t2, t3, t4, t5, t6, t7, t8⟩ := tak_0 (u := u) (N := N) (w := w) (k := k)
  have k40 := hDm.1
  refine ⟨tak_R hR c1 k, ?_, ⟨Nat.zero_le _, t8, fun i hi => absurd hi (Nat.not_lt_zero i)⟩, ?_, ⟨?_, ?_⟩, t5.trans t6.symm, Or.inr ?_⟩
  · rw [t1]
    refine tak_P k40 hV (fun i hi => ?_) hDc
    obtain ⟨⟨w1, w2, w3, w4, w5, -⟩, -, -⟩ := hDm.2.2 i hi
    rw [c1.1]
    exact ⟨w1, w2, w3, w4, w5⟩
  · rw [t1]; exact tak_D
  · rw [t2, t3]; exact c2
  · rw [t2, t4]; exact c3
  · rw [t7]
    exact Nat.lt_of_lt_of_le (show tn (0 : Int32) < 1 by decide) k1
theorem RX.tak {u : CS} {v : MS} {n : Nat} {PP : Nat → I6} {ap pp : Nat → Nat} {k : Nat} {DD : Nat → I6} {ad pd : Nat → Nat} (h : RX n PP ap pp k DD ad pd u v) (h0 : iO (nInsp k DD) = 0) : RX k DD ad pd 0 DD ad pd (tkS (cS u) u (nInsp k DD)) (mTk (mCheck v k) k) :=
  have q := check_eq h.2.2.1
  tak_X h q.1 q.2.1 q.2.2.1 (q.2.2.2.2 h0).2.1 (q.2.2.2.2 h0).2.2
theorem s_take {u : CS} {v : MS} {n : Nat} {PP : Nat → I6} {ap pp : Nat → Nat} {k : Nat} {DD : Nat → I6} {ad pd : Nat → Nat} (h : RX n PP ap pp k DD ad pd u v) : OUT (fun r9 u9 => iO (nInsp k DD) = 0 ∧ r9 = iA (nInsp k DD) ∧ u9 = tkS (cS u) u (nInsp k DD)) (fun E9 u9 => E9 = "java/lang/IllegalArgumentException" ∧ ¬ iO (nInsp k DD) = 0 ∧ u9 = tkF (cS u) u (nInsp k DD))
    (if 0 < gi (mCheck v k) 7 then 0 else gi (mCheck v k) 9) (if 0 < gi (mCheck v k) 7 then si (si (mCheck v k) 5 0) 0 1 else mTk (mCheck v k) k) := by
  obtain ⟨c1, c2, c3, c4, c5⟩ := check_eq h.2.2.1
  have tk : iO (nInsp k DD) = 0 → RW (tkS (cS u) u (nInsp k DD)) (mTk (mCheck v k) k) := fun h1 => RW.mk (h.tak h1)
  have fl : RW (tkF (cS u) u (nInsp k DD)) (si (si (mCheck v k) 5 0) 0 1) := RW.mk h.flt
  generalize mCheck v k = w at *
  generalize nInsp k DD = N at *
  refine ⟨fun r9 u9 hp => ?_, fun E u9 hp => ?_⟩
  · obtain ⟨h1, h2, h3⟩ := hp
    have hn : ¬ 0 < gi w 7 := fun q => (c4.mp q) h1
    rw [if_neg hn, if_neg hn]
    exact ⟨rfl, by rw [h2]; exact (c5 h1).1, by rw [h3]; exact tk h1⟩
  · obtain ⟨h1, h2, h3⟩ := hp
    rw [if_pos (c4.mpr h2)]
    exact ⟨Or.inl ⟨h1, rfl⟩, by rw [h3]; exact fl⟩
/-- what a run starts from -/
theorem RX.jj {u : CS} {v : MS} {n : Nat} {PP : Nat → I6} {ap pp : Nat → Nat} {k : Nat} {DD : Nat → I6} {ad pd : Nat → Nat} (h : RX n PP ap pp k DD ad pd u v) (hn : ¬ n = 0) : JJ (cS u) n PP ap pp u (si v 0 0) u (si v 0 0) := by
  have h2 := h.kp (v2 := si v 0 0) h.1 rfl rfl h.2.2.2.2.2.1 h.2.2.2.2.2.2
  exact ⟨h2.1, h2.2.1, rfl, rfl, h2.2.2.2.2.2.2.elim (fun q => absurd q hn) id, rfl, rfl⟩
theorem s_run {u : CS} {v : MS} {n : Nat} {PP : Nat → I6} {ap pp : Nat → Nat} {k : Nat} {DD : Nat → I6} {ad pd : Nat → Nat} (h : RX n PP ap pp k DD ad pd u v) (x : Int32) (cI7 : Int32) (hc7 : cI7 = nI n) : OUT (fun r9 u9 => (mOut x 1 500 = false ∧ ¬ cI7 = 0 ∧ cE u = false) ∧ r9 = (dRunL (Nw PP) (tn x) u).1 ∧ u9 = (dRunL (Nw PP) (tn x) u).2) (fun E9 u9 => (E9 = "java/lang/IllegalArgumentException" ∧ mOut x 1 500 = true ∧ u9 = u) ∨ (E9 = "java/lang/IllegalStateException" ∧ mOut x 1 500 = false ∧ (cI7 = 0 ∨ cE u = true) ∧ u9 = u))
    (if (mOut x 1 500 || mNone v x) = true then 0 else (mRunL (tn x) (si v 0 0)).1) (if (mOut x 1 500 || mNone v x) = true then si v 0 (mThr (mOut x 1 500) (mNone v x)) else sb (mRunL (tn x) (si v 0 0)).2 30 (decide ((mRunL (tn x) (si v 0 0)).1 = 0))) := by
  have hn40 := h.2.1.1
  have e6 : gi v 6 = nI n := h.2.1.2.2.1
  have hE := h.2.2.2.2.2.1
  have hz : (gi v 6 = 0) ↔ n = 0 := by rw [e6, ← nI_0]; exact nI_eq (by omega) (by omega)
  have hz7 : (cI7 = 0) ↔ n = 0 := by rw [hc7, ← nI_0]; exact nI_eq (by omega) (by omega)
  refine ⟨fun r9 u9 hp => ?_, fun E u9 hp => ?_⟩
  · obtain ⟨⟨h1, h2, h3⟩, h4, h5⟩ := hp
    have hn : ¬ n = 0 := fun q => h2 (hz7.mpr q)
    have hN : mNone v x = false := by
      unfold mNone
      rw [h1, decide_eq_false (fun q => hn (hz.mp q)), ← hE, h3]; rfl
    rw [h1, hN]
    obtain ⟨q1, u2, q2, q3⟩ := run_sim (tn x) u (si v 0 0) (h.jj hn)
    have thr : gi (mRunL (tn x) (si v 0 0)).2 0 = 0 := mRun_0 (tn x) (si v 0 0) rfl
    refine ⟨?_, by rw [h4, q1]; rfl, ?_⟩
    · show gi (mRunL (tn x) (si v 0 0)).2 0 = 0; exact thr
    · rw [h5, q3]
      have hh2 := h.kp (u2 := u2) (v2 := (mRunL (tn x) (si v 0 0)).2) q2.1 q2.2.2.1 q2.2.2.2.1 (by rw [q2.2.2.2.2.2.1, q2.2.2.2.2.2.2]; exact hE) (Or.inr q2.2.2.2.2.1)
      rw [q1]
      show RW (if (mRunL (tn x) (si v 0 0)).1 = 0 then tE u2 true else u2) (sb (mRunL (tn x) (si v 0 0)).2 30 (decide ((mRunL (tn x) (si v 0 0)).1 = 0)))
      by_cases r0 : (mRunL (tn x) (si v 0 0)).1 = 0
      · rw [if_pos r0, decide_eq_true r0]
        exact RW.mk (hh2.kp (u2 := tE u2 true) (v2 := sb (mRunL (tn x) (si v 0 0)).2 30 true) hh2.1 rfl rfl rfl hh2.2.2.2.2.2.2)
      · rw [if_neg r0, decide_eq_false r0]
        refine RW.mk (hh2.kp (u2 := u2) (v2 := sb (mRunL (tn x) (si v 0 0)).2 30 false) hh2.1 rfl rfl ?_ hh2.2.2.2.2.2.2)
        rw [q2.2.2.2.2.2.1]; exact h3
  · rcases hp with ⟨e, hb, hu⟩ | ⟨e, h1, h2, hu⟩
    · subst hu
      rw [hb]
      exact ⟨Or.inl ⟨e, rfl⟩, (RW.mk h).thr _⟩
    · subst hu
      have hN : mNone v x = true := by
        unfold mNone
        rw [h1]
        rcases h2 with q | q
        · rw [decide_eq_true (hz.mpr (hz7.mp q))]; rfl
        · rw [← hE, q]; simp
      rw [h1, hN]
      exact ⟨Or.inr ⟨e, rfl⟩, (RW.mk h).thr _⟩
theorem FO_0 : FO (fun _ => (0 : Int32)) := by unfold FO; decide
theorem RW_0 : RW c0 m0 := by
  have z : isN (0 : Int32) := by decide
  have t0 : tn (0 : Int32) = 0 := by decide
  refine RW.mk (n := 0) (PP := fun _ => (0, 0, 0, 0, 0, false)) (ap := fun _ => 0) (pp := fun _ => 0) (k := 0) (DD := fun _ => (0, 0, 0, 0, 0, false)) (ad := fun _ => 0) (pd := fun _ => 0) ⟨?_, ?_, ⟨by omega, rfl, fun i hi => absurd hi (Nat.not_lt_zero i)⟩, ⟨rfl, fun i hi => absurd hi (Nat.not_lt_zero i)⟩, ⟨rfl, rfl⟩, rfl, Or.inl rfl⟩
  · refine ⟨⟨rfl, rfl⟩, ⟨z, rfl⟩, rfl, ⟨by decide, fun d hd => ?_, fun d hd => absurd hd (Nat.not_lt_zero d), fun k hk => rfl, fun d hd => absurd hd (Nat.not_lt_zero d), fun d hd => absurd hd (Nat.not_lt_zero d)⟩, ⟨by decide, fun d hd => by show tn (0 : Int32) + tn (0 : Int32) ≤ tn (0 : Int32) + 24; decide⟩, fun p hp => ⟨rfl, ?_⟩, fun p hp => ⟨rfl, rfl⟩, fun p hp => rfl, fun p hp => ⟨rfl, ?_⟩, fun p hp => ⟨rfl, ?_⟩, ⟨rfl, fun p h1 h2 => ?_⟩, ⟨rfl, z⟩, ⟨rfl, z, by decide⟩, ⟨rfl, z, by decide⟩, rfl, rfl⟩
    · show FO (fun _ => (0 : Int32))
      exact FO_0
    · rfl
    · rfl
    · rfl
    · show (decide (20 = 20) && decide (p = 0)) = false
      rw [decide_eq_false (show ¬ p = 0 by omega)]; rfl
  · exact ⟨by omega, rfl, rfl, fun i hi => absurd hi (Nat.not_lt_zero i), fun i hi => absurd hi (Nat.not_lt_zero i), fun i hi => absurd hi (Nat.not_lt_zero i)⟩
