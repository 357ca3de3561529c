/-! the relation between the class's state and the reference's, and what the two answer at registers -/
abbrev isN (x : Int32) : Prop := x = nI (tn x)
theorem tn_nI {n : Nat} (h : n < 2 ^ 31) : tn (nI n) = n := nI_clamp h
theorem isN_nI {n : Nat} (h : n < 2 ^ 31) : isN (nI n) := by unfold isN; rw [tn_nI h]
theorem tn_lt (x : Int32) : tn x < 2 ^ 31 := by have := tnI x; have := Int32.toInt_lt x; omega
def FO (f : Nat → Int32) : Prop := (isN (f 0) ∧ isN (f 1) ∧ isN (f 2) ∧ isN (f 3) ∧ isN (f 4)) ∧ tn (f 2) ≤ tn (f 1) ∧ tn (f 1) ≤ 24 ∧ (tn (f 3) = 0 ∨ tn (f 3) = 8 ∨ tn (f 3) = 16) ∧ tn (f 3) ≤ tn (f 1) ∧ tn (f 4) ≤ 15 ∧ tn (f 0) + tn (f 1) ≤ 120
def R1 (F : Nat → Nat → Int32) (c : Nat) (g : Nat → Int32) (n : Nat) : Prop := c ≤ 40 ∧ (∀ d, d ≤ c → FO (F d)) ∧ (∀ d, d < c → tn (F (d + 1) 0) + tn (F d 2) = tn (F d 0) + tn (F d 1)) ∧ (∀ k, k < 5 → g k = F c k) ∧ (∀ d, d < c → ∀ k, k < 6 → g (6 * (d + 1) + k) = F d k) ∧ (∀ d, d < c → isN (F d 5) ∧ tn (F d 5) < n)
def R2 (F : Nat → Nat → Int32) (c L : Nat) : Prop := L ≤ tn (F c 0) ∧ ∀ d, d ≤ c → tn (F d 0) + tn (F d 1) ≤ L + 24
def RE (h : Nat) (f : Nat → Int64) (g : Nat → Bool) (f2 : Nat → Int64) (g2 : Nat → Bool) : Prop := ∀ p, p < h → f p = f2 p ∧ g p = g2 p
def R8 (g z : Nat → Bool) : Prop := g 0 = true ∧ ∀ p, 1 ≤ p → p < 16 → g p = z p
abbrev fHi (F : Nat → Nat → Int32) (c : Nat) : Nat := tn (F c 0) + tn (F c 1)
/-- the machine's part of the relation -/
def RM (n : Nat) (u : CS) (v : MS) : Prop :=
  (cI u 0 = nI (cC u) ∧ gi v 26 = nI (cC u)) ∧
  (isN (cI u 1) ∧ gi v 21 = cI u 1) ∧
  gi v 22 = nI (fHi (cF u) (cC u)) ∧
  R1 (cF u) (cC u) (ga v 25) n ∧
  R2 (cF u) (cC u) (tn (cI u 1)) ∧
  RE (fHi (cF u) (cC u)) (gl v 15) (gz v 16) (cL u 2) (cZ u 2) ∧
  RE (tn (cI u 1)) (cL u 3) (cZ u 3) (cL u 2) (cZ u 2) ∧
  (∀ p, p < 120 → gl v 17 p = cL u 3 p) ∧
  RE 8 (gl v 13) (gz v 14) (cL u 1) (cZ u 1) ∧
  RE 32 (gl v 18) (gz v 19) (cL u 0) (cZ u 0) ∧
  R8 (gz v 20) (cZ u 4) ∧
  (gi v 27 = cI u 4 ∧ isN (cI u 4)) ∧
  (gi v 28 = cI u 5 ∧ isN (cI u 5) ∧ tn (cI u 5) ≤ 20) ∧
  (gi v 29 = cI u 6 ∧ isN (cI u 6) ∧ tn (cI u 6) ≤ 20) ∧
  gi v 23 = cI u 2 ∧ gi v 24 = cI u 3
/-- what a step never touches -/
abbrev CK (u : CS) : (Int32 × Int32) × (Nat → Nat → Option Nat) × Bool × List (Nat × I6) × I6 := ((cI u 7, cI u 8), cQ u, cS u, cP u, cN u)
abbrev MK (v : MS) : (Nat → Int32) × (Nat → Int32) × (Nat → Int32) × (Nat → Bool) × Int32 × Int32 × Int32 × Int32 := (ga v 1, ga v 2, ga v 3, gz v 4, gi v 5, gi v 6, gi v 7, gi v 8)
theorem rem8 : ∀ x, x < 64 → nI x - nI x / 8 * 8 = nI (x % 8) := by decide +kernel
theorem rem16 : ∀ x, x < 64 → nI x - nI x / 16 * 16 = nI (x % 16) := by decide +kernel
theorem nI_s8 : ∀ x, x < 64 → nI (x + 8) - 8 = nI x := by decide +kernel
/-- a stacked register's place in the row -/
def plN (f : Nat → Int32) (k : Nat) : Nat := tn (f 0) + (if k < tn (f 3) then (k + tn (f 4)) % tn (f 3) else k)
theorem plN_lt {f : Nat → Int32} (h : FO f) {k : Nat} (hk : k < tn (f 1)) : tn (f 0) ≤ plN f k ∧ plN f k < tn (f 0) + tn (f 1) := by
  obtain ⟨-, -, h24, ht, hts, hr, -⟩ := h
  unfold plN
  refine ⟨by omega, ?_⟩
  by_cases h3 : k < tn (f 3)
  · rw [if_pos h3]
    have := Nat.mod_lt (k + tn (f 4)) (show tn (f 3) > 0 by omega)
    omega
  · rw [if_neg h3]; omega
theorem fPl_N {f : Nat → Int32} (h : FO f) {k : Nat} (hk : k < 24) : fPl (f 0) (f 3) (f 4) (nI k) = nI (plN f k) := by
  obtain ⟨⟨e0, e1, e2, e3, e4⟩, -, h24, ht, hts, hr, -⟩ := h
  unfold fPl plN
  have h30 : (0 < f 3 ∧ nI k < f 3) ↔ k < tn (f 3) := by
    rw [e3, ← nI_0, nI_ltI (by omega) (tn_lt _), nI_ltI (by omega) (tn_lt _), tn_nI (tn_lt _)]
    omega
  by_cases h3 : k < tn (f 3)
  · rw [if_pos h3, if_pos (h30.mpr h3)]
    have e : nI k + f 4 - (nI k + f 4) / f 3 * f 3 = nI ((k + tn (f 4)) % tn (f 3)) := by
      rw [e4, nI_add, e3]
      rw [tn_nI (tn_lt (f 3)), tn_nI (tn_lt (f 4))]
      rcases ht with q | q | q
      · omega
      · rw [q]; exact rem8 _ (by omega)
      · rw [q]; exact rem16 _ (by omega)
    rw [e, e0, nI_add, tn_nI (tn_lt _)]
  · rw [if_neg h3, if_neg (fun q => h3 (h30.mp q)), e0, nI_add, tn_nI (tn_lt _)]
theorem nI_le8 {r : Nat} (h : r < 64) : (8 : Int32) ≤ nI r ↔ 8 ≤ r := by
  rw [show (8 : Int32) = nI 8 from rfl, nI_leI (by omega) (by omega)]
theorem rPl_N {u : CS} (h : FO (cF u (cC u))) {r : Nat} (h8 : 8 ≤ r) (h31 : r ≤ 31) : rPl u (nI r) = nI (plN (cF u (cC u)) (r - 8)) := by
  unfold rPl
  rw [show nI r - 8 = nI (r - 8) by have := nI_s8 (r - 8) (by omega); rw [show r - 8 + 8 = r by omega] at this; exact this]
  exact fPl_N h (by omega)
theorem mPl_N {u : CS} {v : MS} {n : Nat} (h : R1 (cF u) (cC u) (ga v 25) n) {r : Nat} (h8 : 8 ≤ r) (h31 : r ≤ 31) : mPl v (nI r) = nI (plN (cF u (cC u)) (r - 8)) := by
  have hF := h.2.1 _ (Nat.le_refl _)
  have e := h.2.2.2.1
  rw [← rPl_N hF h8 h31]
  unfold mPl rPl fPl
  rw [e 0 (by omega), e 3 (by omega), e 4 (by omega)]
  obtain ⟨⟨e0, e1, e2, e3, e4⟩, -, h24, ht, hts, hr, -⟩ := hF
  have ek : nI r - 8 = nI (r - 8) := by have := nI_s8 (r - 8) (by omega); rw [show r - 8 + 8 = r by omega] at this; exact this
  rw [ek]
  by_cases h3 : cF u (cC u) 3 ≤ nI (r - 8)
  · rw [if_pos h3, if_neg (fun q => absurd h3 (Int32.not_le.mpr q.2))]
  · have h4 := Int32.not_le.mp h3
    rw [if_neg h3, if_pos ⟨Int32.lt_of_le_of_lt (nI_pos' (by omega)) h4, h4⟩]
/-- a register that is not beyond the frame -/
theorem reg_ok {n : Nat} {u : CS} {v : MS} (h : RM n u v) {r : Nat} (h31 : r ≤ 31) (hr : r < 8 + tn (cF u (cC u) 1)) : mOk v (nI r) ∧ mGet v (nI r) = rVal u (nI r) ∧ mNat v (nI r) = rNat u (nI r) := by
  obtain ⟨-, -, -, hF, -, hE, -, -, hX, -⟩ := h
  have hFO := hF.2.1 _ (Nat.le_refl _)
  have hle : (8 : Int32) ≤ nI r ↔ 8 ≤ r := nI_le8 (by omega)
  unfold mOk mGet mNat rVal rNat
  by_cases h8 : 8 ≤ r
  · have hp := plN_lt hFO (k := r - 8) (by omega)
    have h120 := hFO.2.2.2.2.2.2
    have e1 := rPl_N hFO h8 h31
    have e2 := mPl_N hF h8 h31
    rw [if_pos (hle.mpr h8), if_pos (hle.mpr h8), if_pos (hle.mpr h8), if_pos (hle.mpr h8), e1, e2, cVal_nI (by omega) (by omega), cNat_nI (by omega) (by omega), nI_clamp (by omega)]
    refine ⟨⟨fun _ => ⟨?_, vp_in_nI (by omega) (by omega)⟩, fun q => absurd (hle.mpr h8) q⟩, hE _ hp.2⟩
    intro q e3
    rw [hF.2.2.2.1 3 (by omega)] at e3 q
    apply q
    rw [e3]
    have := nI_s8 (r - 8) (by omega)
    rw [show r - 8 + 8 = r by omega] at this
    rw [this]
    exact nI_pos' (by omega)
  · have h8' : ¬ (8 : Int32) ≤ nI r := fun q => h8 (hle.mp q)
    rw [if_neg h8', if_neg h8', if_neg h8', if_neg h8', cVal_nI (by omega) (by omega), cNat_nI (by omega) (by omega), nI_clamp (by omega)]
    exact ⟨⟨fun q => absurd q h8', fun _ => vp_in_nI (by omega) (by omega)⟩, hX r (by omega)⟩
theorem cWv_nI {f : Nat → Int64} {N j : Nat} (hN : N < 2 ^ 31) (h : j < N) (x : Int64) : cWv N f (nI j).toInt64 x = vp_updL f j x := by
  unfold cWv; rw [if_pos (cHas_nI hN h), ix64_nI (by omega)]
theorem cWn_nI {f : Nat → Bool} {N j : Nat} (hN : N < 2 ^ 31) (h : j < N) (x : Bool) : cWn N f (nI j).toInt64 x = va_up f j x := by
  unfold cWn; rw [if_pos (cHas_nI hN h), ix64_nI (by omega)]
theorem RE_up {h p : Nat} {f f2 : Nat → Int64} {g g2 : Nat → Bool} (H : RE h f g f2 g2) (x : Int64) (b : Bool) : RE h (vp_updL f p x) (va_up g p b) (vp_updL f2 p x) (va_up g2 p b) := by
  intro q hq
  unfold vp_updL va_up
  by_cases e : q = p
  · rw [if_pos e, if_pos e, if_pos e, if_pos e]; exact ⟨rfl, rfl⟩
  · rw [if_neg e, if_neg e, if_neg e, if_neg e]; exact H q hq
theorem RE_ab {h p : Nat} {f f2 : Nat → Int64} {g g2 : Nat → Bool} (H : RE h f g f2 g2) (hp : h ≤ p) (x : Int64) (b : Bool) : RE h f g (vp_updL f2 p x) (va_up g2 p b) := by
  intro q hq
  unfold vp_updL va_up
  rw [if_neg (by omega), if_neg (by omega)]; exact H q hq
theorem mPut_hi {v : MS} {r p : Nat} (h8 : 8 ≤ r) (h31 : r ≤ 31) (e : mPl v (nI r) = nI p) (hp : p < 120) (x : Int64) (b : Bool) : mPut v (nI r) x b = sz (sl v 15 p x) 16 p b := by
  unfold mPut; rw [if_pos ((nI_le8 (by omega)).mpr h8), e, nI_clamp (by omega)]
theorem mPut_lo {v : MS} {r : Nat} (h8 : r < 8) (x : Int64) (b : Bool) : mPut v (nI r) x b = sz (sl v 13 r x) 14 r b := by
  unfold mPut; rw [if_neg (fun q => absurd ((nI_le8 (by omega)).mp q) (by omega)), nI_clamp (by omega)]
theorem rWr_hi {u : CS} {r p : Nat} (h8 : 8 ≤ r) (h31 : r ≤ 31) (e : rPl u (nI r) = nI p) (hp : p < 120) (x : Int64) (b : Bool) : rWr u (nI r) x b = tL u 2 (vp_updL (cL u 2) p x) (va_up (cZ u 2) p b) := by
  unfold rWr; rw [if_neg (Int32.not_lt.mpr ((nI_le8 (by omega)).mpr h8)), e, cWv_nI (by omega) hp, cWn_nI (by omega) hp]
theorem rWr_lo {u : CS} {r : Nat} (h1 : 1 ≤ r) (h8 : r < 8) (x : Int64) (b : Bool) : rWr u (nI r) x b = tL u 1 (vp_updL (cL u 1) r x) (va_up (cZ u 1) r b) := by
  unfold rWr; rw [if_pos (Int32.not_le.mp (fun q => absurd ((nI_le8 (by omega)).mp q) (by omega))), if_neg (nI_ne0 (by omega) (by omega)), cWv_nI (by omega) h8, cWn_nI (by omega) h8]
/-- both write the register -/
theorem reg_put {n : Nat} {u : CS} {v : MS} (h : RM n u v) {r : Nat} (h1 : 1 ≤ r) (h31 : r ≤ 31) (hr : r < 8 + tn (cF u (cC u) 1)) (x : Int64) (b : Bool) : RM n (rWr u (nI r) x b) (mPut v (nI r) x b) ∧ CK (rWr u (nI r) x b) = CK u ∧ MK (mPut v (nI r) x b) = MK v ∧ cI (rWr u (nI r) x b) = cI u ∧ gi (mPut v (nI r) x b) = gi v ∧ cE (rWr u (nI r) x b) = cE u := by
  obtain ⟨a1, a2, a3, hF, hL, hE, hS, hB, hX, hM, hP, r9⟩ := h
  have hFO := hF.2.1 _ (Nat.le_refl _)
  by_cases h8 : 8 ≤ r
  · have hp := plN_lt hFO (k := r - 8) (by omega)
    have h120 := hFO.2.2.2.2.2.2
    rw [rWr_hi h8 h31 (rPl_N hFO h8 h31) (by omega), mPut_hi h8 h31 (mPl_N hF h8 h31) (by omega)]
    exact ⟨⟨a1, a2, a3, hF, hL, RE_up hE x b, RE_ab hS (Nat.le_trans hL.1 hp.1) x b, hB, hX, hM, hP, r9⟩, rfl, rfl, rfl, rfl, rfl⟩
  · rw [rWr_lo h1 (by omega), mPut_lo (by omega)]
    exact ⟨⟨a1, a2, a3, hF, hL, hE, hS, hB, RE_up hX x b, hM, hP, r9⟩, rfl, rfl, rfl, rfl, rfl⟩
