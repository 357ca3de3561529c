/-! the check of a draft: both find the same fault at the same place, and as many groups -/
theorem kd_all : ∀ o, o < 21 → ∀ k, k < 3 → mWr (nI o) (nI k) = decide (kd k (nI o) = 2) ∧ mRd (nI o) (nI k) = decide (kd k (nI o) = 1) ∧ mPr (nI o) (nI k) = decide (kd k (nI o) = 3) ∧ mTg (nI o) (nI k) = decide (kd k (nI o) = 4) := by decide +kernel
theorem kd_w : ∀ o, o < 21 → ¬ kd 1 (nI o) = 2 ∧ ¬ kd 2 (nI o) = 2 ∧ ¬ kd 1 (nI o) = 3 ∧ ¬ kd 2 (nI o) = 3 := by decide +kernel
theorem mMk_k {d o n k : Int32} {g : Bool} {z : Int32} (h1 : mWr o k = decide (z = 2)) (h2 : mRd o k = decide (z = 1)) (h3 : mPr o k = decide (z = 3)) (h4 : mTg o k = decide (z = 4)) : mMk d o n k g = (g && nFits z n d) := by
  unfold mMk nFits
  rw [h1, h2, h3, h4]
  by_cases z1 : z = 1
  · rw [z1]; simp (decide := true)
  by_cases z2 : z = 2
  · rw [z2]; simp (decide := true)
  by_cases z3 : z = 3
  · rw [z3]; simp (decide := true)
  by_cases z4 : z = 4
  · rw [z4]; simp (decide := true)
  simp [z1, z2, z3, z4]
theorem made_eq {I : I6} {c : Int32} (ho : mOut (iO I) 0 20 = false) : mMade3 c (iO I) (iA I) (iB I) (iC I) = nFit I c := by
  obtain ⟨o, -, ho, eo⟩ := rng (lo := 0) (hi := 20) (by omega) (by omega) ho
  unfold mMade3 nFit
  by_cases h18 : iO I = 18
  · rw [if_pos h18, if_neg (by rw [h18]; decide), if_pos h18]
  by_cases h17 : iO I = 17
  · rw [if_neg h18, if_pos h17, if_pos h17]; rfl
  rw [if_neg h18, if_neg h17, if_neg h17, if_neg h18]
  have K := kd_all o (by omega)
  rw [← eo] at K
  obtain ⟨a1, a2, a3, a4⟩ := K 0 (by omega)
  obtain ⟨b1, b2, b3, b4⟩ := K 1 (by omega)
  obtain ⟨c1, c2, c3, c4⟩ := K 2 (by omega)
  show mMk c (iO I) (iC I) (nI 2) (mMk c (iO I) (iB I) (nI 1) (mMk c (iO I) (iA I) (nI 0) true)) = _
  rw [mMk_k c1 c2 c3 c4, mMk_k b1 b2 b3 b4, mMk_k a1 a2 a3 a4, Bool.true_and]
theorem bit_and (n : Int32) : (n &&& 31) &&& 31 = n &&& 31 := by rw [Int32.and_assoc]; rfl
theorem or0 (x : Int32) : (0 : Int32) ||| x = x := Int32.zero_or
theorem use_eq {I : I6} (ho : mOut (iO I) 0 20 = false) : mUse3 (iO I) (iA I) (iB I) (iC I) = (iRg I 1 ||| iRg I 2) ∧ mWrt3 (iO I) (iA I) (iB I) (iC I) = iRg I 2 ∧ mTel3 (iO I) (iA I) (iB I) (iC I) = iPw I := by
  obtain ⟨o, -, ho, eo⟩ := rng (lo := 0) (hi := 20) (by omega) (by omega) ho
  have K := kd_all o (by omega)
  have W := kd_w o (by omega)
  rw [← eo] at K W
  obtain ⟨a1, a2, a3, -⟩ := K 0 (by omega)
  obtain ⟨b1, b2, b3, -⟩ := K 1 (by omega)
  obtain ⟨c1, c2, c3, -⟩ := K 2 (by omega)
  rw [show nI 0 = 0 from rfl] at a1 a2 a3
  rw [show nI 1 = 1 from rfl] at b1 b2 b3
  rw [show nI 2 = 2 from rfl] at c1 c2 c3
  unfold mUse3 mUse mWrt3 mWrt mTel3 mTel iRg iPw
  rw [a1, a2, a3, b1, b2, b3, c1, c2, c3, bit_and, bit_and, bit_and]
  generalize kd 0 (iO I) = x at *
  generalize kd 1 (iO I) = y at *
  generalize kd 2 (iO I) = z at *
  generalize (1 : Int32) <<< (iA I &&& 31) = A
  generalize (1 : Int32) <<< (iB I &&& 31) = B
  generalize (1 : Int32) <<< (iC I &&& 31) = C
  obtain ⟨y2, z2, y3, z3⟩ := W
  refine ⟨?_, ?_, ?_⟩
  · rw [decide_eq_false y2, decide_eq_false z2, Bool.or_false, Bool.or_false, if_neg y2, if_neg z2]
    by_cases x1 : x = 1
    · have x2 : ¬ x = 2 := by rw [x1]; decide
      by_cases y1 : y = 1 <;> by_cases z1 : z = 1 <;> simp [x1, y1, z1, or0]
    · by_cases x2 : x = 2
      · by_cases y1 : y = 1 <;> by_cases z1 : z = 1 <;> simp [x2, y1, z1, or0] <;> first | (rw [Int32.or_comm]; done) | (rw [Int32.or_assoc, Int32.or_comm]; done)
      · by_cases y1 : y = 1 <;> by_cases z1 : z = 1 <;> simp [x1, x2, y1, z1, or0]
  · rw [decide_eq_false y2, decide_eq_false z2, if_neg (by decide : ¬ false = true), if_neg (by decide : ¬ false = true), if_neg z2, if_neg y2]
    by_cases x2 : x = 2
    · rw [if_pos x2, decide_eq_true x2, if_pos rfl, or0]
    · rw [if_neg x2, decide_eq_false x2, if_neg (by decide : ¬ false = true)]
  · rw [decide_eq_false y3, decide_eq_false z3, if_neg (by decide : ¬ false = true), if_neg (by decide : ¬ false = true)]
    by_cases x3 : x = 3
    · rw [if_pos x3, decide_eq_true x3, if_pos rfl]
    · rw [if_neg x3, decide_eq_false x3, if_neg (by decide : ¬ false = true)]
def frk (v w : MS) : Prop := ga w = ga v ∧ gz w = gz v ∧ gl w = gl v ∧ (∀ k, ¬ (7 ≤ k ∧ k ≤ 11) → gi w k = gi v k) ∧ (∀ k, k ≠ 12 → gb w k = gb v k)
def RK (v : MS) (N : I6) (w : MS) : Prop := iO N = 0 ∧ iQ N = -1 ∧ gi w 7 = 0 ∧ gi w 8 = -1 ∧ gi w 9 = iA N ∧ gi w 10 = iB N ∧ gi w 11 = iC N ∧ gb w 12 = iS N ∧ frk v w
/-- a draft of k instructions, as the reference holds it -/
def RDm (k : Nat) (DD : Nat → I6) (v : MS) : Prop := k ≤ 40 ∧ gi v 5 = nI k ∧ ∀ i, i < k → (ga v 1 i = iO (DD i) ∧ ga v 2 i = iQ (DD i) ∧ ga v 3 (3 * i) = iA (DD i) ∧ ga v 3 (3 * i + 1) = iB (DD i) ∧ ga v 3 (3 * i + 2) = iC (DD i) ∧ gz v 4 i = iS (DD i)) ∧ mOut (iO (DD i)) 0 20 = false ∧ mOut (iQ (DD i)) 0 15 = false
theorem frk_up {v w w2 : MS} (h : frk v w) (h2 : ga w2 = ga w) (h3 : gz w2 = gz w) (h4 : gl w2 = gl w) (h5 : ∀ k, ¬ (7 ≤ k ∧ k ≤ 11) → gi w2 k = gi w k) (h6 : ∀ k, k ≠ 12 → gb w2 k = gb w k) : frk v w2 := ⟨h2.trans h.1, h3.trans h.2.1, h4.trans h.2.2.1, fun k hk => (h5 k hk).trans (h.2.2.2.1 k hk), fun k hk => (h6 k hk).trans (h.2.2.2.2 k hk)⟩
/-- one instruction of the check -/
theorem chk_one {k i : Nat} {DD : Nat → I6} {v w : MS} {N : I6} (hD : RDm k DD v) (hi : i < k) (h : RK v N w) :
    (¬ nFit (DD i) (nI k) = true ∧ mCkF w i = 1) ∨ (nFit (DD i) (nI k) = true ∧ nCl N (DD i) = true ∧ mCkF w i = 2) ∨ (nFit (DD i) (nI k) = true ∧ nCl N (DD i) = false ∧ mCkF w i = 0) := by
  obtain ⟨k40, e5, hd⟩ := hD
  obtain ⟨⟨q1, q2, q3, q4, q5, q6⟩, qo, qq⟩ := hd i hi
  obtain ⟨h1, h2, h3, h4, h5, h6, h7, h8, hf⟩ := h
  have g5 : gi w 5 = nI k := (hf.2.2.2.1 5 (by omega)).trans e5
  have eM : mMade w i = nFit (DD i) (nI k) := by
    unfold mMade
    rw [hf.1, g5, q1, q3, q4, q5]; exact made_eq qo
  obtain ⟨u1, u2, u3⟩ := use_eq qo
  have eS : mStands w i = !nCl N (DD i) := by
    unfold mStands mStG nCl
    rw [hf.1, q1, q2, q3, q4, q5, u1, u3, h6, h7, h8, Int32.or_comm (iPw (DD i))]
    cases iS N <;> simp
  unfold mCkF
  rw [eM, eS]
  by_cases a : nFit (DD i) (nI k) = true
  · cases b : nCl N (DD i)
    · right; right; refine ⟨a, rfl, ?_⟩; rw [if_pos a]; rfl
    · right; left; refine ⟨a, rfl, ?_⟩; rw [if_pos a]; rfl
  · left; exact ⟨a, if_neg a⟩
theorem chk_fr {k i : Nat} {v w : MS} (hf : frk v w) : frk v (mCk1 w i k) := by
  have h3 : frk v (mCk3 w i) := by
    unfold mCk3
    refine frk_up (w := if mMade w i = true then mStandU w i else w) ?_ rfl rfl rfl (fun k hk => by rw [gi_si, if_neg (by omega), gi_si, if_neg (by omega)]) (fun k _ => rfl)
    split
    · unfold mStandU mStU
      exact frk_up hf rfl rfl rfl (fun k hk => by rw [gi_sb, gi_si, if_neg (by omega), gi_si, if_neg (by omega)]) (fun k hk => by rw [gb_sb, if_neg hk]; rfl)
    · exact hf
  unfold mCk1
  split
  · exact h3
  · unfold mGrp
    exact frk_up h3 rfl rfl rfl (fun k hk => by rw [gi_sb, gi_si, if_neg (by omega), gi_si, if_neg (by omega), gi_si, if_neg (by omega)]) (fun k hk => by rw [gb_sb, if_neg hk]; rfl)
theorem chk_7 {k i : Nat} {w : MS} : gi (mCk1 w i k) 7 = mCkF w i ∧ gi (mCk1 w i k) 8 = (if 0 < mCkF w i then nI i else -1) := by
  unfold mCk1
  split <;> exact ⟨rfl, rfl⟩
/-- on, where nothing was found at i -/
theorem chk_nx {k i : Nat} {DD : Nat → I6} {v w : MS} {N : I6} (hD : RDm k DD v) (hi : i < k) (h : RK v N w) (h1 : nFit (DD i) (nI k) = true) (h2 : nCl N (DD i) = false) (h0 : mCkF w i = 0) (hl : iS (DD i) = true ∨ i + 1 < k) :
    RK v (nIn1 k DD i N) (mCk1 w i k) ∨ (i + 1 = k ∧ iMay (DD i) = false) := by
  obtain ⟨k40, e5, hd⟩ := hD
  obtain ⟨⟨q1, q2, q3, q4, q5, q6⟩, qo, qq⟩ := hd i hi
  have hfr := chk_fr (i := i) (k := k) h.2.2.2.2.2.2.2.2
  obtain ⟨c7, c8⟩ := chk_7 (k := k) (i := i) (w := w)
  obtain ⟨u1, u2, u3⟩ := use_eq qo
  obtain ⟨g1, g2, g3, g4, g5, g6, g7, g8, hf⟩ := h
  by_cases hlast : i + 1 = k ∧ iMay (DD i) = false
  · exact Or.inr hlast
  left
  have eL : ¬ (nI i = nI k - 1 ∧ iMay (DD i) = false) := by
    intro q
    apply hlast
    refine ⟨?_, q.2⟩
    have e : nI k - 1 = nI (k - 1) := by have := nI_pred (k - 1); rw [show k - 1 + 1 = k by omega] at this; exact this
    have := (nI_eq (by omega) (by omega)).mp (q.1.trans e)
    omega
  have eF : nFo N (DD i) (nI i) (nI k) = (0, nAdd N (DD i)) := by
    unfold nFo; rw [if_pos h1, if_neg (by rw [h2]; decide), if_neg eL]
  have eN : nIn1 k DD i N = (0, iQ (nAdd N (DD i)), iA (nAdd N (DD i)), iB (nAdd N (DD i)), iC (nAdd N (DD i)), iS (nAdd N (DD i))) := by
    unfold nIn1; rw [eF]; rfl
  have eMd : mMade w i = true := by
    cases z : mMade w i
    · unfold mCkF at h0; rw [z, if_neg (by decide)] at h0; exact absurd h0 (by decide)
    · rfl
  rw [eN]
  have e3 : mCk3 w i = si (si (mStandU w i) 7 (mCkF w i)) 8 (if 0 < mCkF w i then nI i else -1) := by unfold mCk3; rw [if_pos eMd]
  rw [h0] at e3 c7 c8
  rw [if_neg (by decide)] at e3 c8
  cases hs : iS (DD i)
  · have hlt : i + 1 < k := hl.elim (fun z => by rw [hs] at z; cases z) id
    have e1 : mCk1 w i k = mCk3 w i := by unfold mCk1; rw [hf.2.1, q6, hs, if_pos ⟨rfl, by omega⟩]
    have eA : nAdd N (DD i) = (iO N, iQ N, iA N, iB N ||| iRg (DD i) 2, iC N ||| iPw (DD i), mCls (iO (DD i))) := by unfold nAdd; rw [hs, if_neg (by decide)]
    rw [eA]
    rw [e1] at hfr c7 c8 ⊢
    refine ⟨rfl, g2, c7, c8, ?_, ?_, ?_, ?_, hfr⟩
    · rw [e3]; exact g5
    · rw [e3]; show gi w 10 ||| mWrt3 (ga w 1 i) (ga w 3 (3 * i)) (ga w 3 (3 * i + 1)) (ga w 3 (3 * i + 2)) = iB N ||| iRg (DD i) 2
      rw [hf.1, q1, q3, q4, q5, u2, g6]
    · rw [e3]; show gi w 11 ||| mTel3 (ga w 1 i) (ga w 3 (3 * i)) (ga w 3 (3 * i + 1)) (ga w 3 (3 * i + 2)) = iC N ||| iPw (DD i)
      rw [hf.1, q1, q3, q4, q5, u3, g7]
    · rw [e3]; show mCls (ga w 1 i) = mCls (iO (DD i)); rw [hf.1, q1]
  · have e1 : mCk1 w i k = mGrp (si (mCk3 w i) 9 (gi w 9 + 1)) := by unfold mCk1; rw [hf.2.1, q6, hs, if_neg (fun z => absurd z.1 (by decide))]
    have eA : nAdd N (DD i) = (iO N, iQ N, iA N + 1, 0, 0, false) := by unfold nAdd; rw [hs, if_pos rfl]
    rw [eA]
    refine ⟨rfl, g2, c7, c8, ?_, ?_, ?_, ?_, hfr⟩
    · rw [e1]; show gi w 9 + 1 = iA N + 1; rw [g5]
    · rw [e1]; rfl
    · rw [e1]; rfl
    · rw [e1]; rfl
theorem chk_loop {k : Nat} {DD : Nat → I6} {v : MS} (hD : RDm k DD v) : ∀ (f i : Nat) (N : I6) (w : MS), i ≤ k → k - i < f → RK v N w → (∀ j, j < i → VI k j (DD j)) →
    (RK v (nInL k DD f i N) (mCkL k f i w) ∧ (∀ j, j < k → VI k j (DD j))) ∨
    (frk v (mCkL k f i w) ∧ 0 < gi (mCkL k f i w) 7 ∧ iO (nInL k DD f i N) = gi (mCkL k f i w) 7 ∧ iQ (nInL k DD f i N) = gi (mCkL k f i w) 8) ∨
    (frk v (mCkL k f i w) ∧ gi (mCkL k f i w) 7 = 0 ∧ 1 ≤ k ∧ iMay (DD (k - 1)) = false ∧ iO (nInL k DD f i N) = 3 ∧ iQ (nInL k DD f i N) = nI (k - 1)) := by
  intro f
  induction f with
  | zero => intro i N w _ h; omega
  | succ f ih =>
    intro i N w hik hf h hall
    unfold nInL mCkL
    by_cases hi : i < k
    · rw [if_pos ⟨hi, h.1⟩, if_pos ⟨hi, h.2.2.1⟩]
      have hfr := chk_fr (i := i) (k := k) h.2.2.2.2.2.2.2.2
      obtain ⟨c7, c8⟩ := chk_7 (k := k) (i := i) (w := w)
      have stopL : ∀ (N2 : I6) (j : Nat), ¬ iO N2 = 0 → nInL k DD f j N2 = N2 := by
        intro N2 j h2; cases f with
        | zero => rfl
        | succ f => unfold nInL; rw [if_neg (fun z => h2 z.2)]
      have stopM : ∀ (w2 : MS) (j : Nat), ¬ gi w2 7 = 0 → mCkL k f j w2 = w2 := by
        intro w2 j h2; cases f with
        | zero => rfl
        | succ f => unfold mCkL; rw [if_neg (fun z => h2 z.2)]
      have endM : ∀ (w2 : MS), mCkL k f k w2 = w2 := by
        intro w2; cases f with
        | zero => rfl
        | succ f => unfold mCkL; rw [if_neg (fun z => absurd z.1 (Nat.lt_irrefl k))]
      rcases chk_one hD hi h with ⟨a1, a2⟩ | ⟨a1, a2, a3⟩ | ⟨a1, a2, a3⟩
      · have eF : nFo N (DD i) (nI i) (nI k) = (1, N) := by unfold nFo; rw [if_neg a1]
        have e1 : iO (nIn1 k DD i N) = 1 := by unfold nIn1; rw [eF]; rfl
        have e2 : iQ (nIn1 k DD i N) = nI i := by unfold nIn1; rw [eF]; rfl
        rw [a2] at c7 c8
        rw [stopL _ _ (by rw [e1]; decide), stopM _ _ (by rw [c7]; decide)]
        right; left
        exact ⟨hfr, by rw [c7]; decide, by rw [e1, c7], by rw [e2, c8, if_pos (by decide)]⟩
      · have eF : nFo N (DD i) (nI i) (nI k) = (2, N) := by unfold nFo; rw [if_pos a1, if_pos a2]
        have e1 : iO (nIn1 k DD i N) = 2 := by unfold nIn1; rw [eF]; rfl
        have e2 : iQ (nIn1 k DD i N) = nI i := by unfold nIn1; rw [eF]; rfl
        rw [a3] at c7 c8
        rw [stopL _ _ (by rw [e1]; decide), stopM _ _ (by rw [c7]; decide)]
        right; left
        exact ⟨hfr, by rw [c7]; decide, by rw [e1, c7], by rw [e2, c8, if_pos (by decide)]⟩
      · by_cases hlast : i + 1 = k ∧ iMay (DD i) = false
        · have eq1 : nI i = nI k - 1 := by have := nI_pred (k - 1); rw [show k - 1 + 1 = k by omega] at this; rw [this, show i = k - 1 by omega]
          have eF : nFo N (DD i) (nI i) (nI k) = (3, N) := by unfold nFo; rw [if_pos a1, if_neg (by rw [a2]; decide), if_pos ⟨eq1, hlast.2⟩]
          have e1 : iO (nIn1 k DD i N) = 3 := by unfold nIn1; rw [eF]; rfl
          have e2 : iQ (nIn1 k DD i N) = nI i := by unfold nIn1; rw [eF]; rfl
          rw [stopL _ _ (by rw [e1]; decide), hlast.1, endM]
          right; right
          exact ⟨hfr, c7.trans a3, by omega, by rw [show k - 1 = i by omega]; exact hlast.2, e1, by rw [e2, show k - 1 = i by omega]⟩
        · have hl : iS (DD i) = true ∨ i + 1 < k := by
            rcases (by omega : i + 1 = k ∨ i + 1 < k) with e | e
            · left
              have hm : iMay (DD i) = true := by cases z : iMay (DD i); exact absurd ⟨e, z⟩ hlast; rfl
              unfold iMay at hm
              simp only [Bool.and_eq_true] at hm
              exact hm.1.2
            · exact Or.inr e
          rcases chk_nx hD hi h a1 a2 a3 hl with hk | hk
          · refine ih (i + 1) _ _ (by omega) (by omega) hk (fun j hj => ?_)
            rcases (by omega : j < i ∨ j = i) with e | e
            · exact hall j e
            · subst e
              obtain ⟨-, qo, qq⟩ := hD.2.2 j hi
              refine ⟨qo, qq, a1, fun z => ?_⟩
              cases y : iMay (DD j)
              · exact absurd ⟨z, y⟩ hlast
              · rfl
          · exact absurd hk hlast
    · have : i = k := by omega
      subst this
      rw [if_neg (fun z => hi z.1), if_neg (fun z => hi z.1)]
      exact Or.inl ⟨h, hall⟩
/-- what a taking finds -/
theorem check_eq {k : Nat} {DD : Nat → I6} {v : MS} (hD : RDm k DD v) : frk v (mCheck v k) ∧ iO (nInsp k DD) = gi (mCheck v k) 7 ∧ iQ (nInsp k DD) = gi (mCheck v k) 8 ∧ ((0 < gi (mCheck v k) 7) ↔ ¬ iO (nInsp k DD) = 0) ∧ (iO (nInsp k DD) = 0 → iA (nInsp k DD) = gi (mCheck v k) 9 ∧ 1 ≤ k ∧ ∀ j, j < k → VI k j (DD j)) := by
  have f0 : frk v (mCk0 v) := by
    unfold mCk0 mGrp
    exact frk_up (w := v) ⟨rfl, rfl, rfl, fun _ _ => rfl, fun _ _ => rfl⟩ rfl rfl rfl (fun k hk => by rw [gi_sb, gi_si, if_neg (by omega), gi_si, if_neg (by omega), gi_si, if_neg (by omega), gi_si, if_neg (by omega), gi_si, if_neg (by omega)]) (fun k hk => by rw [gb_sb, if_neg hk]; rfl)
  unfold mCheck nInsp
  have k40 := hD.1
  by_cases hk : k = 0
  · subst hk
    have e7 : gi (mCk0 v) 7 = 4 := by show (if gi v 5 = 0 then (4 : Int32) else 0) = 4; rw [hD.2.1]; rfl
    have eL : mCkL 0 41 0 (mCk0 v) = mCk0 v := by unfold mCkL; rw [if_neg (fun z => absurd z.1 (by omega))]
    have eN : nInL 0 DD 41 0 (nIn0 0) = nIn0 0 := by unfold nInL; rw [if_neg (fun z => absurd z.1 (by omega))]
    rw [eL, eN]
    have eE : mCkE (mCk0 v) 0 = mCk0 v := by unfold mCkE; rw [if_pos (by rw [e7]; decide)]
    rw [eE]
    refine ⟨f0, e7.symm, rfl, by rw [e7]; exact ⟨fun _ => by decide, fun _ => by decide⟩, fun z => absurd z (by decide)⟩
  · have e7 : gi (mCk0 v) 7 = 0 := by show (if gi v 5 = 0 then (4 : Int32) else 0) = 0; rw [hD.2.1, if_neg (nI_ne0 (by omega) (by omega))]
    have hr : RK v (nIn0 k) (mCk0 v) := ⟨by unfold nIn0; rw [if_neg hk]; rfl, rfl, e7, rfl, rfl, rfl, rfl, rfl, f0⟩
    rcases chk_loop hD 41 0 _ _ (by omega) (by omega) hr (fun j hj => absurd hj (by omega)) with ⟨a, b⟩ | ⟨a1, a2, a3, a4⟩ | ⟨a1, a2, a3, a4, a5, a6⟩
    · generalize nInL k DD 41 0 (nIn0 k) = N at *
      generalize mCkL k 41 0 (mCk0 v) = w at *
      obtain ⟨g1, g2, g3, g4, g5, g6, g7, g8, hf⟩ := a
      have hV := b (k - 1) (by omega)
      have hm := hV.2.2.2 (by omega)
      unfold iMay at hm
      simp only [Bool.and_eq_true, decide_eq_true_eq] at hm
      obtain ⟨⟨q1, q2, q3, q4, q5, q6⟩, -, -⟩ := hD.2.2 (k - 1) (by omega)
      have eE : mCkE w k = w := by
        unfold mCkE
        rw [if_neg (by rw [g3]; decide), if_pos]
        rw [hf.1, hf.2.1, q1, q2, q6]
        exact ⟨hm.1.2, hm.2, hm.1.1⟩
      rw [eE]
      exact ⟨hf, by rw [g1, g3], by rw [g2, g4], by rw [g1, g3]; exact ⟨fun z => absurd z (by decide), fun z => absurd rfl z⟩, fun _ => ⟨g5.symm, by omega, b⟩⟩
    · have eE : mCkE (mCkL k 41 0 (mCk0 v)) k = mCkL k 41 0 (mCk0 v) := by unfold mCkE; rw [if_pos a2]
      rw [eE]
      refine ⟨a1, a3, a4, ?_, fun z => ?_⟩
      · rw [a3]; exact ⟨fun z y => by rw [y] at z; exact absurd z (by decide), fun _ => a2⟩
      · rw [a3] at z; rw [z] at a2; exact absurd a2 (by decide)
    · generalize nInL k DD 41 0 (nIn0 k) = N at *
      generalize mCkL k 41 0 (mCk0 v) = w at *
      obtain ⟨⟨q1, q2, q3, q4, q5, q6⟩, -, -⟩ := hD.2.2 (k - 1) (by omega)
      have eE : mCkE w k = si (si w 7 3) 8 (nI (k - 1)) := by
        unfold mCkE
        rw [if_neg (by rw [a2]; decide), if_neg]
        rw [a1.1, a1.2.1, q1, q2, q6]
        intro z
        unfold iMay at a4
        rw [z.1, z.2.1, z.2.2] at a4
        cases a4
      rw [eE]
      refine ⟨frk_up a1 rfl rfl rfl (fun k hk => by rw [gi_si, if_neg (by omega), gi_si, if_neg (by omega)]) (fun _ _ => rfl), a5, a6, ?_, fun z => absurd (a5.symm.trans z) (by decide)⟩
      rw [a5]; exact ⟨fun _ => by decide, fun _ => by show (0 : Int32) < 3; decide⟩
