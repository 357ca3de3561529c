/-! the whole relation, and every public call -/
def RDc (b : Bool) (k : Nat) (DD : Nat → I6) (ad pI : Nat → Nat) (u : CS) : Prop := cI u (if b then 8 else 7) = nI k ∧ ∀ i, i < k → cQ u (if b then 1 else 0) i = some (ad i) ∧ (cP u)[pI i]? = some (ad i, DD i)
def RX (n : Nat) (PP : Nat → I6) (ap pp : Nat → Nat) (k : Nat) (DD : Nat → I6) (ad pd : Nat → Nat) (u : CS) (v : MS) : Prop := RM n u v ∧ RP (cS u) n PP ap pp u v ∧ RDm k DD v ∧ RDc (cS u) k DD ad pd u ∧ (iO (cN u) = gi v 7 ∧ iQ (cN u) = gi v 8) ∧ cE u = gb v 30 ∧ (n = 0 ∨ tn (cI u 4) < n)
def RW (u : CS) (v : MS) : Prop := ∃ (n : Nat) (PP : Nat → I6) (ap pp : Nat → Nat) (k : Nat) (DD : Nat → I6) (ad pd : Nat → Nat), RX n PP ap pp k DD ad pd u v
theorem RW.mk {u : CS} {v : MS} {n : Nat} {PP : Nat → I6} {ap pp : Nat → Nat} {k : Nat} {DD : Nat → I6} {ad pd : Nat → Nat} (h : RX n PP ap pp k DD ad pd u v) : RW u v := ⟨n, PP, ap, pp, k, DD, ad, pd, h⟩
theorem RX.kp {u u2 : CS} {v v2 : MS} {n : Nat} {PP : Nat → I6} {ap pp : Nat → Nat} {k : Nat} {DD : Nat → I6} {ad pd : Nat → Nat} (h : RX n PP ap pp k DD ad pd u v) (hR : RM n u2 v2) (hu : CK u2 = CK u) (hv : MK v2 = MK v) (hE : cE u2 = gb v2 30) (hat : n = 0 ∨ tn (cI u2 4) < n) : RX n PP ap pp k DD ad pd u2 v2 := by
  obtain ⟨-, hP, hDm, hDc, hN, -, -⟩ := h
  have hP2 := RP_k hP hu hv
  simp only [CK, MK, Prod.mk.injEq] at hu hv
  obtain ⟨⟨u7, u8⟩, uQ, uS, uP, uN⟩ := hu
  obtain ⟨v1, v2', v3, v4, v5, v6, v7, v8⟩ := hv
  refine ⟨hR, by rw [uS]; exact hP2, ?_, ?_, by rw [uN, v7, v8]; exact hN, hE, hat⟩
  · unfold RDm; rw [v1, v2', v3, v4, v5]; exact hDm
  · rw [uS]
    unfold RDc at hDc ⊢
    rw [uQ, uP]
    cases hb : cS u
    · rw [hb] at hDc; rw [show cI u2 (if false = true then 8 else 7) = cI u (if false = true then 8 else 7) from u7]; exact hDc
    · rw [hb] at hDc; rw [show cI u2 (if true = true then 8 else 7) = cI u (if true = true then 8 else 7) from u8]; exact hDc
theorem RW.thr {u : CS} {v : MS} (h : RW u v) (x : Int32) : RW u (si v 0 x) := by
  obtain ⟨n, PP, ap, pp, k, DD, ad, pd, h⟩ := h
  exact RW.mk (h.kp (v2 := si v 0 x) h.1 rfl rfl h.2.2.2.2.2.1 h.2.2.2.2.2.2)
theorem mThr_f (b : Bool) : mThr b false = if b = true then 1 else 0 := by cases b <;> rfl
/-- what two outcomes have to do with each other: the class's end, the reference's answer and end -/
def OUT {T : Type} (post : T → CS → Prop) (px : String → CS → Prop) (r : T) (v : MS) : Prop := (∀ r9 u9, post r9 u9 → gi v 0 = 0 ∧ r9 = r ∧ RW u9 v) ∧ (∀ E u9, px E u9 → ((E = "java/lang/IllegalArgumentException" ∧ gi v 0 = 1) ∨ (E = "java/lang/IllegalStateException" ∧ gi v 0 = 2)) ∧ RW u9 v)
def OUTv (post : CS → Prop) (px : String → CS → Prop) (v : MS) : Prop := (∀ u9, post u9 → gi v 0 = 0 ∧ RW u9 v) ∧ (∀ E u9, px E u9 → ((E = "java/lang/IllegalArgumentException" ∧ gi v 0 = 1) ∨ (E = "java/lang/IllegalStateException" ∧ gi v 0 = 2)) ∧ RW u9 v)
/-- an asking that throws where b holds -/
theorem OUT_ask {T : Type} {u : CS} {v : MS} (h : RW u v) {b b2 : Bool} {r r2 : T} (hb : b = b2) (hr : b = false → r2 = r) : OUT (fun r9 u9 => b = false ∧ r9 = r2 ∧ u9 = u) (fun E9 u9 => E9 = "java/lang/IllegalArgumentException" ∧ b = true ∧ u9 = u) r (si v 0 (mThr b2 false)) := by
  subst hb
  refine ⟨fun r9 u9 hp => ?_, fun E u9 hp => ?_⟩
  · obtain ⟨h1, h2, h3⟩ := hp
    subst h3
    refine ⟨by show mThr b false = 0; rw [h1]; rfl, h2.trans (hr h1), h.thr _⟩
  · obtain ⟨h1, h2, h3⟩ := hp
    subst h3
    refine ⟨Or.inl ⟨h1, by show mThr b false = 1; rw [h2]; rfl⟩, h.thr _⟩
theorem s_fault {u : CS} {v : MS} (h : RW u v) (xw : Int32) : OUT (fun r9 u9 => mOut xw 0 1 = false ∧ r9 = (if xw = 0 then iO (cN u) else iQ (cN u)) ∧ u9 = u) (fun E9 u9 => E9 = "java/lang/IllegalArgumentException" ∧ mOut xw 0 1 = true ∧ u9 = u) (if mOut xw 0 1 = true then 0 else if xw = 0 then gi v 7 else gi v 8) (si v 0 (mThr (mOut xw 0 1) false)) := by
  refine OUT_ask h rfl (fun hb => ?_)
  obtain ⟨n, PP, ap, pp, k, DD, ad, pd, h⟩ := h
  rw [hb, if_neg (show ¬ false = true by decide), h.2.2.2.2.1.1, h.2.2.2.2.1.2]
theorem has_eq {n : Nat} {u : CS} {v : MS} (h : RM n u v) (x : Int32) : (mOut x 0 31 || mBy v x) = !rHas u x := by
  cases hx : mOut x 0 31
  · obtain ⟨r, -, hr, e⟩ := rng (lo := 0) (hi := 31) (by omega) (by omega) hx
    rw [e, (by_eq h hr).1]; rfl
  · have hF := h.2.2.2.1
    have hFO := hF.2.1 _ (Nat.le_refl _)
    have e2 : cF u (cC u) 1 = nI (tn (cF u (cC u) 1)) := hFO.1.2.1
    have h24 := hFO.2.2.1
    generalize tn (cF u (cC u) 1) = s at *
    have hf : rHas u x = false := by
      unfold rHas
      rw [e2, show (8 : Int32) = nI 8 from rfl, nI_add]
      apply decide_eq_false
      intro q
      unfold mOut at hx
      have hx := of_decide_eq_true hx
      have q1 := Int32.le_iff_toInt_le.mp q.1
      have q2 := Int32.lt_iff_toInt_lt.mp q.2
      rw [nI_toInt (by omega)] at q2
      have l0 : (0 : Int32).toInt = 0 := by decide
      have l1 : (31 : Int32).toInt = 31 := by decide
      rcases hx with z | z
      · have := Int32.lt_iff_toInt_lt.mp z; omega
      · have := Int32.lt_iff_toInt_lt.mp z; omega
    rw [hf]; rfl
theorem s_reg {u : CS} {v : MS} (h : RW u v) (x : Int32) : (mOut x 0 31 = false → mBy v x = false → mOk v x) ∧ (rHas u x = true → mGet v x = rVal u x ∧ mNat v x = rNat u x) ∧ (mOut x 0 31 || mBy v x) = !rHas u x := by
  obtain ⟨n, PP, ap, pp, k, DD, ad, pd, h⟩ := h
  have he := has_eq h.1 x
  have key : rHas u x = true → mOk v x ∧ mGet v x = rVal u x ∧ mNat v x = rNat u x := fun hh => by
    rw [hh] at he
    have ho : mOut x 0 31 = false := by cases z : mOut x 0 31; rfl; rw [z] at he; cases he
    obtain ⟨r, -, hr, e⟩ := rng (lo := 0) (hi := 31) (by omega) (by omega) ho
    rw [e] at hh ⊢
    exact reg_ok h.1 hr ((by_eq h.1 hr).2.mp hh)
  refine ⟨fun h1 h2 => ?_, fun hh => (key hh).2, he⟩
  rw [h1, h2] at he
  exact (key (by cases z : rHas u x; rw [z] at he; cases he; rfl)).1
theorem s_register {u : CS} {v : MS} (h : RW u v) (x : Int32) : OUT (fun r9 u9 => rHas u x = true ∧ r9 = rVal u x ∧ u9 = u) (fun E9 u9 => E9 = "java/lang/IllegalArgumentException" ∧ rHas u x = false ∧ u9 = u) (if (mOut x 0 31 || mBy v x) = true then 0 else mGet v x) (si v 0 (mThr (mOut x 0 31 || mBy v x) false)) := by
  obtain ⟨-, h2, h3⟩ := s_reg h x
  have := OUT_ask h (b := !rHas u x) (b2 := mOut x 0 31 || mBy v x) (r2 := rVal u x) (r := if (mOut x 0 31 || mBy v x) = true then 0 else mGet v x) h3.symm (fun hb => by
    rw [h3, hb, if_neg (by decide)]
    exact (h2 (by cases z : rHas u x; rw [z] at hb; cases hb; rfl)).1.symm)
  exact ⟨fun r9 u9 hp => this.1 r9 u9 ⟨by rw [hp.1]; rfl, hp.2⟩, fun E u9 hp => this.2 E u9 ⟨hp.1, by rw [hp.2.1]; rfl, hp.2.2⟩⟩
theorem s_nat {u : CS} {v : MS} (h : RW u v) (x : Int32) : OUT (fun r9 u9 => rHas u x = true ∧ r9 = b2i (rNat u x) ∧ u9 = u) (fun E9 u9 => E9 = "java/lang/IllegalArgumentException" ∧ rHas u x = false ∧ u9 = u) (b2i (!(mOut x 0 31 || mBy v x) && mNat v x)) (si v 0 (mThr (mOut x 0 31 || mBy v x) false)) := by
  obtain ⟨-, h2, h3⟩ := s_reg h x
  have := OUT_ask h (b := !rHas u x) (b2 := mOut x 0 31 || mBy v x) (r2 := b2i (rNat u x)) (r := b2i (!(mOut x 0 31 || mBy v x) && mNat v x)) h3.symm (fun hb => by
    rw [h3, hb, (h2 (by cases z : rHas u x; rw [z] at hb; cases hb; rfl)).2]; rfl)
  exact ⟨fun r9 u9 hp => this.1 r9 u9 ⟨by rw [hp.1]; rfl, hp.2⟩, fun E u9 hp => this.2 E u9 ⟨hp.1, by rw [hp.2.1]; rfl, hp.2.2⟩⟩
theorem s_predicate {u : CS} {v : MS} (h : RW u v) (x : Int32) : (mOut x 0 15 = false → vp_in (mSlot v x) 16) ∧ OUT (fun r9 u9 => mOut x 0 15 = false ∧ r9 = b2i (pIs (cZ u 4) x (cF u (cC u) 4)) ∧ u9 = u) (fun E9 u9 => E9 = "java/lang/IllegalArgumentException" ∧ mOut x 0 15 = true ∧ u9 = u) (b2i (!mOut x 0 15 && gz v 20 (mSlot v x).toNatClampNeg)) (si v 0 (mThr (mOut x 0 15) false)) := by
  have hh := h
  obtain ⟨n, PP, ap, pp, k, DD, ad, pd, h⟩ := h
  refine ⟨fun ho => ?_, OUT_ask hh rfl (fun ho => ?_)⟩
  · obtain ⟨r, -, hr, e⟩ := rng (lo := 0) (hi := 15) (by omega) (by omega) ho
    rw [e]; exact (pred_eq h.1 (by omega)).1
  · obtain ⟨r, -, hr, e⟩ := rng (lo := 0) (hi := 15) (by omega) (by omega) ho
    rw [ho, e, (pred_eq h.1 (by omega)).2]; rfl
theorem cHas_out {N : Nat} (hN : 1 ≤ N) (hN2 : N ≤ 1000) (x : Int32) : cHas N x.toInt64 = !mOut x 0 (nI (N - 1)) := by
  unfold cHas mOut
  have e : (0 ≤ x.toInt64 ∧ x.toInt64 < lN N) ↔ ¬ (x < 0 ∨ nI (N - 1) < x) := by
    rw [Int64.le_iff_toInt_le, Int64.lt_iff_toInt_lt, Int32.toInt_toInt64, lN_toInt (by omega), Int32.lt_iff_toInt_lt, Int32.lt_iff_toInt_lt, nI_toInt (by omega)]
    have l0 : (0 : Int32).toInt = 0 := by decide
    have l1 : (0 : Int64).toInt = 0 := by decide
    omega
  by_cases q : 0 ≤ x.toInt64 ∧ x.toInt64 < lN N
  · rw [decide_eq_true q, decide_eq_false (e.mp q)]; rfl
  · rw [decide_eq_false q, decide_eq_true (Decidable.byContradiction (fun z => q (e.mpr z)))]; rfl
theorem s_memory {u : CS} {v : MS} (h : RW u v) (x : Int32) : OUT (fun r9 u9 => cHas 32 x.toInt64 = true ∧ r9 = cVal 32 (cL u 0) x.toInt64 ∧ u9 = u) (fun E9 u9 => E9 = "java/lang/IllegalArgumentException" ∧ cHas 32 x.toInt64 = false ∧ u9 = u) (if mOut x 0 31 = true then 0 else gl v 18 x.toNatClampNeg) (si v 0 (mThr (mOut x 0 31) false)) := by
  have e : cHas 32 x.toInt64 = !mOut x 0 31 := cHas_out (N := 32) (by omega) (by omega) x
  have := OUT_ask h (b := mOut x 0 31) (b2 := mOut x 0 31) (r2 := cVal 32 (cL u 0) x.toInt64) (r := if mOut x 0 31 = true then 0 else gl v 18 x.toNatClampNeg) rfl (fun hb => by
    obtain ⟨n, PP, ap, pp, k, DD, ad, pd, h⟩ := h
    obtain ⟨r, -, hr, er⟩ := rng (lo := 0) (hi := 31) (by omega) (by omega) hb
    rw [hb, if_neg (by decide), er, cVal_nI (by omega) (by omega), nI_clamp (by omega)]
    exact (h.1.2.2.2.2.2.2.2.2.2.1 r (by omega)).1.symm)
  rw [e]
  exact ⟨fun r9 u9 hp => this.1 r9 u9 ⟨(by cases z : mOut x 0 31; rfl; rw [z] at hp; exact absurd hp.1 (by decide)), hp.2⟩, fun E u9 hp => this.2 E u9 ⟨hp.1, (by cases z : mOut x 0 31; rw [z] at hp; exact absurd hp.2.1 (by decide); rfl), hp.2.2⟩⟩
theorem s_backing {u : CS} {v : MS} (h : RW u v) (x : Int32) : OUT (fun r9 u9 => cHas 120 x.toInt64 = true ∧ r9 = cVal 120 (cL u 3) x.toInt64 ∧ u9 = u) (fun E9 u9 => E9 = "java/lang/IllegalArgumentException" ∧ cHas 120 x.toInt64 = false ∧ u9 = u) (if mOut x 0 119 = true then 0 else gl v 17 x.toNatClampNeg) (si v 0 (mThr (mOut x 0 119) false)) := by
  have e : cHas 120 x.toInt64 = !mOut x 0 119 := cHas_out (N := 120) (by omega) (by omega) x
  have := OUT_ask h (b := mOut x 0 119) (b2 := mOut x 0 119) (r2 := cVal 120 (cL u 3) x.toInt64) (r := if mOut x 0 119 = true then 0 else gl v 17 x.toNatClampNeg) rfl (fun hb => by
    obtain ⟨n, PP, ap, pp, k, DD, ad, pd, h⟩ := h
    obtain ⟨r, -, hr, er⟩ := rng (lo := 0) (hi := 119) (by omega) (by omega) hb
    rw [hb, if_neg (by decide), er, cVal_nI (by omega) (by omega), nI_clamp (by omega)]
    exact (h.1.2.2.2.2.2.2.2.1 r (by omega)).symm)
  rw [e]
  exact ⟨fun r9 u9 hp => this.1 r9 u9 ⟨(by cases z : mOut x 0 119; rfl; rw [z] at hp; exact absurd hp.1 (by decide)), hp.2⟩, fun E u9 hp => this.2 E u9 ⟨hp.1, (by cases z : mOut x 0 119; rw [z] at hp; exact absurd hp.2.1 (by decide); rfl), hp.2.2⟩⟩
theorem s_set {u : CS} {v : MS} (h : RW u v) (x : Int32) (y : Int64) : OUTv (fun u9 => mOut x 1 7 = false ∧ u9 = rWr u x y false) (fun E9 u9 => E9 = "java/lang/IllegalArgumentException" ∧ mOut x 1 7 = true ∧ u9 = u) (if mOut x 1 7 = true then si v 0 1 else mPut (si v 0 0) x y false) := by
  refine ⟨fun u9 hp => ?_, fun E u9 hp => ?_⟩
  · obtain ⟨hb, e⟩ := hp
    subst e
    rw [hb, if_neg (by decide)]
    obtain ⟨r, h1, hr, er⟩ := rng (lo := 1) (hi := 7) (by omega) (by omega) hb
    obtain ⟨n, PP, ap, pp, k, DD, ad, pd, h⟩ := h.thr 0
    rw [er]
    obtain ⟨p1, p2, p3, p4, p5, p6⟩ := reg_put h.1 h1 (by omega) (by omega) y false
    refine ⟨congrFun p5 0, RW.mk (h.kp p1 p2 p3 ?_ (by rw [p4]; exact h.2.2.2.2.2.2))⟩
    rw [p6, show gb (mPut (si v 0 0) (nI r) y false) 30 = gb v 30 from by rw [mPut_lo (by omega)]; rfl]
    exact h.2.2.2.2.2.1
  · obtain ⟨e1, hb, e⟩ := hp
    subst e
    rw [hb, if_pos rfl]
    exact ⟨Or.inl ⟨e1, rfl⟩, h.thr 1⟩
theorem s_poke {u : CS} {v : MS} (h : RW u v) (x : Int32) (y : Int64) : OUTv (fun u9 => cHas 32 x.toInt64 = true ∧ u9 = tL u 0 (cWv 32 (cL u 0) x.toInt64 y) (cWn 32 (cZ u 0) x.toInt64 false)) (fun E9 u9 => E9 = "java/lang/IllegalArgumentException" ∧ cHas 32 x.toInt64 = false ∧ u9 = u) (if mOut x 0 31 = true then si v 0 1 else sz (sl (si v 0 0) 18 x.toNatClampNeg y) 19 x.toNatClampNeg false) := by
  have e : cHas 32 x.toInt64 = !mOut x 0 31 := cHas_out (N := 32) (by omega) (by omega) x
  refine ⟨fun u9 hp => ?_, fun E u9 hp => ?_⟩
  · obtain ⟨hb, e9⟩ := hp
    subst e9
    rw [e] at hb
    have hb : mOut x 0 31 = false := by cases z : mOut x 0 31; rfl; rw [z] at hb; cases hb
    rw [hb, if_neg (by decide)]
    obtain ⟨r, h1, hr, er⟩ := rng (lo := 0) (hi := 31) (by omega) (by omega) hb
    obtain ⟨n, PP, ap, pp, k, DD, ad, pd, h⟩ := h.thr 0
    rw [er, cWv_nI (by omega) (by omega), cWn_nI (by omega) (by omega), nI_clamp (by omega)]
    refine ⟨rfl, RW.mk (h.kp ?_ rfl rfl h.2.2.2.2.2.1 h.2.2.2.2.2.2)⟩
    obtain ⟨a1, a2, a3, hF, hL, hE, hS, hB, hX, hM, hP, r9⟩ := h.1
    exact ⟨a1, a2, a3, hF, hL, hE, hS, hB, hX, RE_up hM y false, hP, r9⟩
  · obtain ⟨e1, hb, e9⟩ := hp
    subst e9
    rw [e] at hb
    have hb : mOut x 0 31 = true := by cases z : mOut x 0 31; rw [z] at hb; cases hb; rfl
    rw [hb, if_pos rfl]
    exact ⟨Or.inl ⟨e1, rfl⟩, h.thr 1⟩
theorem s_look {u : CS} {v : MS} (h : RW u v) (x : Int32) : OUT (fun r9 u9 => mOut x 0 11 = false ∧ r9 = dLook u x ∧ u9 = u) (fun E9 u9 => E9 = "java/lang/IllegalArgumentException" ∧ mOut x 0 11 = true ∧ u9 = u) (if mOut x 0 11 = true then 0 else mLook v x) (si v 0 (mThr (mOut x 0 11) false)) := by
  refine OUT_ask h rfl (fun hb => ?_)
  obtain ⟨n, PP, ap, pp, k, DD, ad, pd, h⟩ := h
  obtain ⟨r, -, hr, er⟩ := rng (lo := 0) (hi := 11) (by omega) (by omega) hb
  rw [hb, if_neg (by decide), er]
  obtain ⟨a1, a2, a3, hF, hL, hE, hS, hB, hX, hM, hP, hat, h5, h6, h23, h24⟩ := h.1
  have g := hF.2.2.2.1
  rcases (by omega : r = 0 ∨ r = 1 ∨ r = 2 ∨ r = 3 ∨ r = 4 ∨ r = 5 ∨ r = 6 ∨ r = 7 ∨ r = 8 ∨ r = 9 ∨ r = 10 ∨ r = 11) with e | e | e | e | e | e | e | e | e | e | e | e <;> subst e
  · exact hat.1.symm
  · exact (g 1 (by omega)).symm
  · exact (g 2 (by omega)).symm
  · exact (g 3 (by omega)).symm
  · exact (g 4 (by omega)).symm
  · exact a1.1.trans a1.2.symm
  · exact h5.1.symm
  · exact h6.1.symm
  · exact h23.symm
  · exact h24.symm
  · exact (g 0 (by omega)).symm
  · exact a2.2.symm
