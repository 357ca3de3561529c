/-! predicates, turning, frames: both sides keep the relation -/
def slN (p r : Nat) : Nat := if 8 ≤ p then 8 + (p + r) % 8 else p
theorem slN_lt {p r : Nat} (h : p < 16) : slN p r < 16 := by unfold slN; split <;> omega
theorem slN_pos {p r : Nat} (h : 1 ≤ p) : 1 ≤ slN p r := by unfold slN; split <;> omega
theorem pSl_N {p r : Nat} (hp : p < 16) (hr : r ≤ 15) : pSl (nI p) (nI r) = nI (slN p r) := by
  unfold pSl slN
  by_cases h : 8 ≤ p
  · rw [if_pos ((nI_le8 (by omega)).mpr h), if_pos h]
    have e1 : nI p - 8 = nI (p - 8) := by have := nI_s8 (p - 8) (by omega); rw [show p - 8 + 8 = p by omega] at this; exact this
    rw [e1, nI_add, rem8 _ (by omega), show (8 : Int32) = nI 8 from rfl, nI_add, show (p - 8 + r) % 8 = (p + r) % 8 by omega]
  · rw [if_neg (fun q => h ((nI_le8 (by omega)).mp q)), if_neg h]
theorem mSlot_N {v : MS} {p r : Nat} (hp : p < 16) (hr : r ≤ 15) (e : ga v 25 4 = nI r) : mSlot v (nI p) = nI (slN p r) := by
  unfold mSlot slN
  by_cases h : 8 ≤ p
  · rw [if_pos ((nI_le8 (by omega)).mpr h), if_pos h, e, nI_add, rem8 _ (by omega), show (8 : Int32) = nI 8 from rfl, nI_add]
  · rw [if_neg (fun q => h ((nI_le8 (by omega)).mp q)), if_neg h]
theorem in16_nI {p : Nat} (h : p < 16) : in16 (nI p) = true := by
  unfold in16
  exact decide_eq_true ⟨nI_pos' (by omega), by rw [show (16 : Int32) = nI 16 from rfl]; exact nI_lt h (by omega)⟩
/-- the rotation -/
theorem RM.rot {n : Nat} {u : CS} {v : MS} (h : RM n u v) : ∃ r, r ≤ 15 ∧ cF u (cC u) 4 = nI r ∧ ga v 25 4 = nI r := by
  have hF := h.2.2.2.1
  have hFO := hF.2.1 _ (Nat.le_refl _)
  exact ⟨_, hFO.2.2.2.2.2.1, hFO.1.2.2.2.2, (hF.2.2.2.1 4 (by omega)).trans hFO.1.2.2.2.2⟩
theorem pred_eq {n : Nat} {u : CS} {v : MS} (h : RM n u v) {p : Nat} (hp : p < 16) : vp_in (mSlot v (nI p)) 16 ∧ pIs (cZ u 4) (nI p) (cF u (cC u) 4) = gz v 20 (mSlot v (nI p)).toNatClampNeg := by
  obtain ⟨r, hr, e1, e2⟩ := h.rot
  have hs := slN_lt (r := r) hp
  have hP := h.2.2.2.2.2.2.2.2.2.2.1
  rw [mSlot_N hp hr e2, e1]
  refine ⟨vp_in_nI hs (by omega), ?_⟩
  unfold pIs
  rw [pSl_N hp hr, in16_nI hs, nI_clamp (by omega), Bool.true_and]
  by_cases h0 : p = 0
  · subst h0
    rw [show decide (nI 0 = 0) = true from by decide, Bool.true_or]
    exact hP.1.symm
  · rw [decide_eq_false (nI_ne0 (by omega) (by omega)), Bool.false_or]
    exact (hP.2 _ (slN_pos (by omega)) hs).symm
theorem R8_up {g z : Nat → Bool} (H : R8 g z) {p : Nat} (hp : 1 ≤ p) (b : Bool) : R8 (va_up g p b) (va_up z p b) := by
  refine ⟨by rw [va_up_ne _ _ (by omega)]; exact H.1, fun q h1 h2 => ?_⟩
  unfold va_up
  by_cases e : q = p
  · rw [if_pos e, if_pos e]
  · rw [if_neg e, if_neg e]; exact H.2 q h1 h2
theorem pWr_N {z : Nat → Bool} {p r : Nat} (hp : p < 16) (hr : r ≤ 15) (b : Bool) : pWr z (nI p) (nI r) b = va_up z (slN p r) b := by
  unfold pWr
  have hs := slN_lt (r := r) hp
  rw [pSl_N hp hr, in16_nI hs, if_pos rfl, nI_clamp (by omega)]
/-- both write the predicate -/
theorem pred_put {n : Nat} {u : CS} {v : MS} (h : RM n u v) {p : Nat} (h1 : 1 ≤ p) (hp : p < 16) (b : Bool) : RM n (tZ u (pWr (cZ u 4) (nI p) (cF u (cC u) 4) b)) (sz v 20 (mSlot v (nI p)).toNatClampNeg b) := by
  obtain ⟨r, hr, e1, e2⟩ := h.rot
  have hs := slN_lt (r := r) hp
  obtain ⟨a1, a2, a3, hF, hL, hE, hS, hB, hX, hM, hP, r9⟩ := h
  rw [mSlot_N hp hr e2, e1, pWr_N hp hr, nI_clamp (by omega)]
  exact ⟨a1, a2, a3, hF, hL, hE, hS, hB, hX, hM, R8_up hP (slN_pos h1) b, r9⟩
/-- the counts of the two and the place may change alone -/
theorem RM.at {n : Nat} {u : CS} {v : MS} (h : RM n u v) {x : Int32} (hx : isN x) : RM n (tI u 4 x) (si v 27 x) := by
  obtain ⟨a1, a2, a3, hF, hL, hE, hS, hB, hX, hM, hP, hat, r9⟩ := h
  exact ⟨a1, a2, a3, hF, hL, hE, hS, hB, hX, hM, hP, ⟨rfl, hx⟩, r9⟩
theorem RM.cnt {n : Nat} {u : CS} {v : MS} (h : RM n u v) {x y : Int32} (hx : isN x) (hx2 : tn x ≤ 20) (hy : isN y) (hy2 : tn y ≤ 20) : RM n (tI (tI u 5 x) 6 y) (si (si v 28 x) 29 y) := by
  obtain ⟨a1, a2, a3, hF, hL, hE, hS, hB, hX, hM, hP, hat, h5, h6, r9⟩ := h
  exact ⟨a1, a2, a3, hF, hL, hE, hS, hB, hX, hM, hP, hat, ⟨rfl, hx, hx2⟩, ⟨rfl, hy, hy2⟩, r9⟩
theorem FO_c {f f2 : Nat → Int32} (h : ∀ k, k < 5 → f2 k = f k) (H : FO f) : FO f2 := by
  unfold FO
  rw [h 0 (by omega), h 1 (by omega), h 2 (by omega), h 3 (by omega), h 4 (by omega)]
  exact H
/-- the rotation of the current frame -/
theorem RM.rotate {n : Nat} {u : CS} {v : MS} (h : RM n u v) {x : Nat} (hx : x ≤ 15) : RM n (tF u (cC u) 4 (nI x)) (sa v 25 4 (nI x)) := by
  obtain ⟨a1, a2, a3, hF, hL, hE, hS, hB, hX, hM, hP, r9⟩ := h
  have ne : ∀ d k, k ≠ 4 → cF (tF u (cC u) 4 (nI x)) d k = cF u d k := fun d k hk => by rw [cF_tF, if_neg (fun q => hk q.2)]
  have e4 : cF (tF u (cC u) 4 (nI x)) (cC u) 4 = nI x := by rw [cF_tF, if_pos ⟨rfl, rfl⟩]
  have eh : fHi (cF (tF u (cC u) 4 (nI x))) (cC u) = fHi (cF u) (cC u) := by unfold fHi; rw [ne _ 0 (by omega), ne _ 1 (by omega)]
  refine ⟨a1, a2, ?_, ⟨hF.1, ?_, ?_, ?_, ?_, ?_⟩, ?_, ?_, hS, hB, hX, hM, hP, r9⟩
  · show gi v 22 = nI (fHi (cF (tF u (cC u) 4 (nI x))) (cC u)); rw [eh]; exact a3
  · intro d hd
    have q := hF.2.1 d hd
    by_cases e : d = cC u
    · subst e
      unfold FO
      rw [ne _ 0 (by omega), ne _ 1 (by omega), ne _ 2 (by omega), ne _ 3 (by omega), e4]
      obtain ⟨⟨b0, b1, b2, b3, b4⟩, b5, b6, b7, b8, b9, b10⟩ := q
      exact ⟨⟨b0, b1, b2, b3, isN_nI (by omega)⟩, b5, b6, b7, b8, by rw [tn_nI (by omega)]; exact hx, b10⟩
    · refine FO_c (fun k _ => ?_) q
      rw [cF_tF, if_neg (fun z => e z.1)]
  · intro d hd; rw [ne _ 0 (by omega), ne _ 2 (by omega), ne _ 0 (by omega), ne _ 1 (by omega)]; exact hF.2.2.1 d hd
  · intro k hk
    rw [ga_sa]
    by_cases e : k = 4
    · subst e; rw [if_pos ⟨rfl, rfl⟩]; exact e4.symm
    · rw [if_neg (fun z => e z.2), hF.2.2.2.1 k hk]; exact (ne _ k e).symm
  · intro d hd k hk
    have hd : d < cC u := hd
    rw [ga_sa, if_neg (fun z => by omega), hF.2.2.2.2.1 d hd k hk, cF_tF, if_neg (fun z => by omega)]
  · intro d hd; rw [ne _ 5 (by omega)]; exact hF.2.2.2.2.2 d hd
  · refine ⟨?_, fun d hd => ?_⟩
    · show tn (cI u 1) ≤ _; rw [show cC (tF u (cC u) 4 (nI x)) = cC u from rfl, ne _ 0 (by omega)]; exact hL.1
    · rw [ne _ 0 (by omega), ne _ 1 (by omega)]; exact hL.2 d hd
  · show RE (fHi (cF (tF u (cC u) 4 (nI x))) (cC u)) _ _ _ _; rw [eh]; exact hE
