/-! the class's state: ints (called, lowestHeld, spilled, filled, next, loopCount, endCount, the listings' counts), ended, the inspection, the four Cells (cells, fixed, row, store) and the truths, the frames, the listings' lines, which listing is the draft, the current frame, the instructions made -/
abbrev CS : Type := (Nat → Int32) × (Bool) × (I6) × (Nat → Nat → Int64) × (Nat → Nat → Bool) × (Nat → Nat → Int32) × (Nat → Nat → Option Nat) × (Bool) × (Nat) × (List (Nat × I6))
def cI (u : CS) : Nat → Int32 := u.1
def cE (u : CS) : Bool := u.2.1
def cN (u : CS) : I6 := u.2.2.1
def cL (u : CS) : Nat → Nat → Int64 := u.2.2.2.1
def cZ (u : CS) : Nat → Nat → Bool := u.2.2.2.2.1
def cF (u : CS) : Nat → Nat → Int32 := u.2.2.2.2.2.1
def cQ (u : CS) : Nat → Nat → Option Nat := u.2.2.2.2.2.2.1
def cS (u : CS) : Bool := u.2.2.2.2.2.2.2.1
def cC (u : CS) : Nat := u.2.2.2.2.2.2.2.2.1
def cP (u : CS) : List (Nat × I6) := u.2.2.2.2.2.2.2.2.2
def tI (u : CS) (k : Nat) (v : Int32) : CS := (fun j => if j = k then v else cI u j, cE u, cN u, cL u, cZ u, cF u, cQ u, cS u, cC u, cP u)
def tE (u : CS) (b : Bool) : CS := (cI u, b, cN u, cL u, cZ u, cF u, cQ u, cS u, cC u, cP u)
def tN (u : CS) (N : I6) : CS := (cI u, cE u, N, cL u, cZ u, cF u, cQ u, cS u, cC u, cP u)
def tL (u : CS) (j : Nat) (f : Nat → Int64) (g : Nat → Bool) : CS := (cI u, cE u, cN u, fun i => if i = j then f else cL u i, fun i => if i = j then g else cZ u i, cF u, cQ u, cS u, cC u, cP u)
def tZ (u : CS) (g : Nat → Bool) : CS := (cI u, cE u, cN u, cL u, fun i => if i = 4 then g else cZ u i, cF u, cQ u, cS u, cC u, cP u)
def tF (u : CS) (d k : Nat) (v : Int32) : CS := (cI u, cE u, cN u, cL u, cZ u, fun i m => if i = d ∧ m = k then v else cF u i m, cQ u, cS u, cC u, cP u)
def tB (u : CS) (d : Nat) (b s : Int32) : CS := (cI u, cE u, cN u, cL u, cZ u, fun i m => if i = d then (if m = 0 then b else if m = 1 then s else 0) else cF u i m, cQ u, cS u, cC u, cP u)
def tQ (u : CS) (j n : Nat) (v : Option Nat) : CS := (cI u, cE u, cN u, cL u, cZ u, cF u, fun i => if i = j then va_up (cQ u j) n v else cQ u i, cS u, cC u, cP u)
def tS (u : CS) (b : Bool) : CS := (cI u, cE u, cN u, cL u, cZ u, cF u, cQ u, b, cC u, cP u)
def tC (u : CS) (d : Nat) : CS := (cI u, cE u, cN u, cL u, cZ u, cF u, cQ u, cS u, d, cP u)
def tP (u : CS) (q : Nat) (I : I6) : CS := (cI u, cE u, cN u, cL u, cZ u, cF u, cQ u, cS u, cC u, cP u ++ [(q, I)])
theorem cE_tI (u : CS) (k : Nat) (v : Int32) : cE (tI u k v) = cE u := rfl
theorem cN_tI (u : CS) (k : Nat) (v : Int32) : cN (tI u k v) = cN u := rfl
theorem cL_tI (u : CS) (k : Nat) (v : Int32) : cL (tI u k v) = cL u := rfl
theorem cZ_tI (u : CS) (k : Nat) (v : Int32) : cZ (tI u k v) = cZ u := rfl
theorem cF_tI (u : CS) (k : Nat) (v : Int32) : cF (tI u k v) = cF u := rfl
theorem cQ_tI (u : CS) (k : Nat) (v : Int32) : cQ (tI u k v) = cQ u := rfl
theorem cS_tI (u : CS) (k : Nat) (v : Int32) : cS (tI u k v) = cS u := rfl
theorem cC_tI (u : CS) (k : Nat) (v : Int32) : cC (tI u k v) = cC u := rfl
theorem cP_tI (u : CS) (k : Nat) (v : Int32) : cP (tI u k v) = cP u := rfl
theorem cI_tE (u : CS) (b : Bool) : cI (tE u b) = cI u := rfl
theorem cN_tE (u : CS) (b : Bool) : cN (tE u b) = cN u := rfl
theorem cL_tE (u : CS) (b : Bool) : cL (tE u b) = cL u := rfl
theorem cZ_tE (u : CS) (b : Bool) : cZ (tE u b) = cZ u := rfl
theorem cF_tE (u : CS) (b : Bool) : cF (tE u b) = cF u := rfl
theorem cQ_tE (u : CS) (b : Bool) : cQ (tE u b) = cQ u := rfl
theorem cS_tE (u : CS) (b : Bool) : cS (tE u b) = cS u := rfl
theorem cC_tE (u : CS) (b : Bool) : cC (tE u b) = cC u := rfl
theorem cP_tE (u : CS) (b : Bool) : cP (tE u b) = cP u := rfl
theorem cI_tN (u : CS) (N : I6) : cI (tN u N) = cI u := rfl
theorem cE_tN (u : CS) (N : I6) : cE (tN u N) = cE u := rfl
theorem cL_tN (u : CS) (N : I6) : cL (tN u N) = cL u := rfl
theorem cZ_tN (u : CS) (N : I6) : cZ (tN u N) = cZ u := rfl
theorem cF_tN (u : CS) (N : I6) : cF (tN u N) = cF u := rfl
theorem cQ_tN (u : CS) (N : I6) : cQ (tN u N) = cQ u := rfl
theorem cS_tN (u : CS) (N : I6) : cS (tN u N) = cS u := rfl
theorem cC_tN (u : CS) (N : I6) : cC (tN u N) = cC u := rfl
theorem cP_tN (u : CS) (N : I6) : cP (tN u N) = cP u := rfl
theorem cI_tL (u : CS) (j : Nat) (f : Nat → Int64) (g : Nat → Bool) : cI (tL u j f g) = cI u := rfl
theorem cE_tL (u : CS) (j : Nat) (f : Nat → Int64) (g : Nat → Bool) : cE (tL u j f g) = cE u := rfl
theorem cN_tL (u : CS) (j : Nat) (f : Nat → Int64) (g : Nat → Bool) : cN (tL u j f g) = cN u := rfl
theorem cF_tL (u : CS) (j : Nat) (f : Nat → Int64) (g : Nat → Bool) : cF (tL u j f g) = cF u := rfl
theorem cQ_tL (u : CS) (j : Nat) (f : Nat → Int64) (g : Nat → Bool) : cQ (tL u j f g) = cQ u := rfl
theorem cS_tL (u : CS) (j : Nat) (f : Nat → Int64) (g : Nat → Bool) : cS (tL u j f g) = cS u := rfl
theorem cC_tL (u : CS) (j : Nat) (f : Nat → Int64) (g : Nat → Bool) : cC (tL u j f g) = cC u := rfl
theorem cP_tL (u : CS) (j : Nat) (f : Nat → Int64) (g : Nat → Bool) : cP (tL u j f g) = cP u := rfl
theorem cI_tZ (u : CS) (g : Nat → Bool) : cI (tZ u g) = cI u := rfl
theorem cE_tZ (u : CS) (g : Nat → Bool) : cE (tZ u g) = cE u := rfl
theorem cN_tZ (u : CS) (g : Nat → Bool) : cN (tZ u g) = cN u := rfl
theorem cL_tZ (u : CS) (g : Nat → Bool) : cL (tZ u g) = cL u := rfl
theorem cF_tZ (u : CS) (g : Nat → Bool) : cF (tZ u g) = cF u := rfl
theorem cQ_tZ (u : CS) (g : Nat → Bool) : cQ (tZ u g) = cQ u := rfl
theorem cS_tZ (u : CS) (g : Nat → Bool) : cS (tZ u g) = cS u := rfl
theorem cC_tZ (u : CS) (g : Nat → Bool) : cC (tZ u g) = cC u := rfl
theorem cP_tZ (u : CS) (g : Nat → Bool) : cP (tZ u g) = cP u := rfl
theorem cI_tF (u : CS) (d k : Nat) (v : Int32) : cI (tF u d k v) = cI u := rfl
theorem cE_tF (u : CS) (d k : Nat) (v : Int32) : cE (tF u d k v) = cE u := rfl
theorem cN_tF (u : CS) (d k : Nat) (v : Int32) : cN (tF u d k v) = cN u := rfl
theorem cL_tF (u : CS) (d k : Nat) (v : Int32) : cL (tF u d k v) = cL u := rfl
theorem cZ_tF (u : CS) (d k : Nat) (v : Int32) : cZ (tF u d k v) = cZ u := rfl
theorem cQ_tF (u : CS) (d k : Nat) (v : Int32) : cQ (tF u d k v) = cQ u := rfl
theorem cS_tF (u : CS) (d k : Nat) (v : Int32) : cS (tF u d k v) = cS u := rfl
theorem cC_tF (u : CS) (d k : Nat) (v : Int32) : cC (tF u d k v) = cC u := rfl
theorem cP_tF (u : CS) (d k : Nat) (v : Int32) : cP (tF u d k v) = cP u := rfl
theorem cI_tB (u : CS) (d : Nat) (b s : Int32) : cI (tB u d b s) = cI u := rfl
theorem cE_tB (u : CS) (d : Nat) (b s : Int32) : cE (tB u d b s) = cE u := rfl
theorem cN_tB (u : CS) (d : Nat) (b s : Int32) : cN (tB u d b s) = cN u := rfl
theorem cL_tB (u : CS) (d : Nat) (b s : Int32) : cL (tB u d b s) = cL u := rfl
theorem cZ_tB (u : CS) (d : Nat) (b s : Int32) : cZ (tB u d b s) = cZ u := rfl
theorem cQ_tB (u : CS) (d : Nat) (b s : Int32) : cQ (tB u d b s) = cQ u := rfl
theorem cS_tB (u : CS) (d : Nat) (b s : Int32) : cS (tB u d b s) = cS u := rfl
theorem cC_tB (u : CS) (d : Nat) (b s : Int32) : cC (tB u d b s) = cC u := rfl
theorem cP_tB (u : CS) (d : Nat) (b s : Int32) : cP (tB u d b s) = cP u := rfl
theorem cI_tQ (u : CS) (j n : Nat) (v : Option Nat) : cI (tQ u j n v) = cI u := rfl
theorem cE_tQ (u : CS) (j n : Nat) (v : Option Nat) : cE (tQ u j n v) = cE u := rfl
theorem cN_tQ (u : CS) (j n : Nat) (v : Option Nat) : cN (tQ u j n v) = cN u := rfl
theorem cL_tQ (u : CS) (j n : Nat) (v : Option Nat) : cL (tQ u j n v) = cL u := rfl
theorem cZ_tQ (u : CS) (j n : Nat) (v : Option Nat) : cZ (tQ u j n v) = cZ u := rfl
theorem cF_tQ (u : CS) (j n : Nat) (v : Option Nat) : cF (tQ u j n v) = cF u := rfl
theorem cS_tQ (u : CS) (j n : Nat) (v : Option Nat) : cS (tQ u j n v) = cS u := rfl
theorem cC_tQ (u : CS) (j n : Nat) (v : Option Nat) : cC (tQ u j n v) = cC u := rfl
theorem cP_tQ (u : CS) (j n : Nat) (v : Option Nat) : cP (tQ u j n v) = cP u := rfl
theorem cI_tS (u : CS) (b : Bool) : cI (tS u b) = cI u := rfl
theorem cE_tS (u : CS) (b : Bool) : cE (tS u b) = cE u := rfl
theorem cN_tS (u : CS) (b : Bool) : cN (tS u b) = cN u := rfl
theorem cL_tS (u : CS) (b : Bool) : cL (tS u b) = cL u := rfl
theorem cZ_tS (u : CS) (b : Bool) : cZ (tS u b) = cZ u := rfl
theorem cF_tS (u : CS) (b : Bool) : cF (tS u b) = cF u := rfl
theorem cQ_tS (u : CS) (b : Bool) : cQ (tS u b) = cQ u := rfl
theorem cC_tS (u : CS) (b : Bool) : cC (tS u b) = cC u := rfl
theorem cP_tS (u : CS) (b : Bool) : cP (tS u b) = cP u := rfl
theorem cI_tC (u : CS) (d : Nat) : cI (tC u d) = cI u := rfl
theorem cE_tC (u : CS) (d : Nat) : cE (tC u d) = cE u := rfl
theorem cN_tC (u : CS) (d : Nat) : cN (tC u d) = cN u := rfl
theorem cL_tC (u : CS) (d : Nat) : cL (tC u d) = cL u := rfl
theorem cZ_tC (u : CS) (d : Nat) : cZ (tC u d) = cZ u := rfl
theorem cF_tC (u : CS) (d : Nat) : cF (tC u d) = cF u := rfl
theorem cQ_tC (u : CS) (d : Nat) : cQ (tC u d) = cQ u := rfl
theorem cS_tC (u : CS) (d : Nat) : cS (tC u d) = cS u := rfl
theorem cP_tC (u : CS) (d : Nat) : cP (tC u d) = cP u := rfl
theorem cI_tP (u : CS) (q : Nat) (I : I6) : cI (tP u q I) = cI u := rfl
theorem cE_tP (u : CS) (q : Nat) (I : I6) : cE (tP u q I) = cE u := rfl
theorem cN_tP (u : CS) (q : Nat) (I : I6) : cN (tP u q I) = cN u := rfl
theorem cL_tP (u : CS) (q : Nat) (I : I6) : cL (tP u q I) = cL u := rfl
theorem cZ_tP (u : CS) (q : Nat) (I : I6) : cZ (tP u q I) = cZ u := rfl
theorem cF_tP (u : CS) (q : Nat) (I : I6) : cF (tP u q I) = cF u := rfl
theorem cQ_tP (u : CS) (q : Nat) (I : I6) : cQ (tP u q I) = cQ u := rfl
theorem cS_tP (u : CS) (q : Nat) (I : I6) : cS (tP u q I) = cS u := rfl
theorem cC_tP (u : CS) (q : Nat) (I : I6) : cC (tP u q I) = cC u := rfl
theorem cI_tI (u : CS) (k : Nat) (v : Int32) (j : Nat) : cI (tI u k v) j = if j = k then v else cI u j := rfl
theorem cF_tF (u : CS) (d k : Nat) (v : Int32) (i m : Nat) : cF (tF u d k v) i m = if i = d ∧ m = k then v else cF u i m := rfl
theorem cF_tB (u : CS) (d : Nat) (b s : Int32) (i m : Nat) : cF (tB u d b s) i m = if i = d then (if m = 0 then b else if m = 1 then s else 0) else cF u i m := rfl
def fFs (F : Nat → Int32) : List Value := [.int (F 0), .int (F 1), .int (F 2), .int (F 3), .int (F 4), .int (F 5)]
def cwA (K : Nat → ClassId) (h : Nat → Nat) (u : CS) : va_W := [(h 0, .inr (7, [.ref (h 1), .ref (h 2), .ref (h 3), .ref (h 5), .ref (h (if cS u = true then 20 else 18)), .ref (h (if cS u = true then 18 else 20)), .int (cI u 4), .int (b2i (cE u)), .int (cI u 5), .int (cI u 6)])), (h 1, .inr (2, iFs (cN u))), (h 2, .inr (6, [.ref (h 8), .ref (h 11), .ref (h 14), .ref (h 17), .ref (h (22 + cC u)), .int (cI u 0), .int (cI u 1), .int (cI u 2), .int (cI u 3)])), (h 3, .inr (5, [.ref (h 4)])), (h 4, .inl (K 2, 16, .inl (fun i => b2i (cZ u 4 i)))), (h 5, .inr (0, [.ref (h 6), .ref (h 7)])), (h 6, .inl (K 1, 32, .inr (.inl (cL u 0)))), (h 7, .inl (K 2, 32, .inl (fun i => b2i (cZ u 0 i)))), (h 8, .inr (0, [.ref (h 9), .ref (h 10)])), (h 9, .inl (K 1, 8, .inr (.inl (cL u 1)))), (h 10, .inl (K 2, 8, .inl (fun i => b2i (cZ u 1 i)))), (h 11, .inr (0, [.ref (h 12), .ref (h 13)])), (h 12, .inl (K 1, 120, .inr (.inl (cL u 2)))), (h 13, .inl (K 2, 120, .inl (fun i => b2i (cZ u 2 i)))), (h 14, .inr (0, [.ref (h 15), .ref (h 16)])), (h 15, .inl (K 1, 120, .inr (.inl (cL u 3)))), (h 16, .inl (K 2, 120, .inl (fun i => b2i (cZ u 3 i)))), (h 17, .inl (K 3, 41, .inr (.inr (.inr (.inr (fun d => some (h (22 + d)))))))), (h 18, .inr (4, [.ref (h 19), .int (cI u 7)])), (h 19, .inl (K 4, 40, .inr (.inr (.inr (.inr (cQ u 0)))))), (h 20, .inr (4, [.ref (h 21), .int (cI u 8)])), (h 21, .inl (K 4, 40, .inr (.inr (.inr (.inr (cQ u 1))))))]
def cwF (h : Nat → Nat) (F : Nat → Nat → Int32) : va_W := (List.range 41).map (fun d => (h (22 + d), .inr (1, fFs (F d))))
def cwP (P : List (Nat × I6)) : va_W := P.map (fun x => (x.1, .inr (3, iFs x.2)))
def cw (K : Nat → ClassId) (h : Nat → Nat) (u : CS) : va_W := cwA K h u ++ (cwF h (cF u) ++ cwP (cP u))
theorem cwF_len (h : Nat → Nat) (F : Nat → Nat → Int32) : (cwF h F).length = 41 := by unfold cwF; simp
theorem cwA_len (K : Nat → ClassId) (h : Nat → Nat) (u : CS) : (cwA K h u).length = 22 := rfl
theorem cw_a {K : Nat → ClassId} {h : Nat → Nat} {u : CS} {k : Nat} {x : Nat × va_E} (hx : (cwA K h u)[k]? = some x) : (cw K h u)[k]? = some x := by
  have hk := (List.getElem?_eq_some_iff.mp hx).1
  unfold cw; rw [List.getElem?_append_left hk]; exact hx
theorem cwF_get (h : Nat → Nat) (F : Nat → Nat → Int32) {d : Nat} (hd : d < 41) : (cwF h F)[d]? = some (h (22 + d), .inr (1, fFs (F d))) := by
  unfold cwF; simp [hd]
theorem cw_f {K : Nat → ClassId} {h : Nat → Nat} {u : CS} {d : Nat} (hd : d < 41) : (cw K h u)[22 + d]? = some (h (22 + d), .inr (1, fFs (cF u d))) := by
  unfold cw
  rw [List.getElem?_append_right (by rw [cwA_len]; omega), cwA_len, show 22 + d - 22 = d by omega, List.getElem?_append_left (by rw [cwF_len]; exact hd)]
  exact cwF_get h _ hd
theorem cw_p {K : Nat → ClassId} {h : Nat → Nat} {u : CS} {i : Nat} {x : Nat × I6} (hx : (cP u)[i]? = some x) : (cw K h u)[63 + i]? = some (x.1, .inr (3, iFs x.2)) := by
  unfold cw
  rw [List.getElem?_append_right (by rw [cwA_len]; omega), cwA_len, List.getElem?_append_right (by rw [cwF_len]; omega), cwF_len, show 63 + i - 22 - 41 = i by omega]
  unfold cwP; rw [List.getElem?_map, hx]; rfl
theorem cw_sa {K : Nat → ClassId} {h : Nat → Nat} {u v : CS} {k : Nat} {x : Nat × va_E} (hk : k < 22) (hA : (cwA K h u).set k x = cwA K h v) (hF : cF u = cF v) (hP : cP u = cP v) : (cw K h u).set k x = cw K h v := by
  unfold cw; rw [List.set_append_left _ _ (by rw [cwA_len]; exact hk), hA, hF, hP]
theorem cwF_set (h : Nat → Nat) (F F2 : Nat → Nat → Int32) {d : Nat} (hd : d < 41) (h1 : ∀ i, i ≠ d → F2 i = F i) : (cwF h F).set d (h (22 + d), .inr (1, fFs (F2 d))) = cwF h F2 := by
  apply List.ext_getElem?
  intro j
  by_cases hj : j < 41
  · by_cases e : d = j
    · subst e; rw [List.getElem?_set_self (by rw [cwF_len]; exact hd), cwF_get h F2 hd]
    · rw [List.getElem?_set_ne e, cwF_get h F hj, cwF_get h F2 hj, h1 j (fun q => e q.symm)]
  · rw [List.getElem?_eq_none (by rw [List.length_set, cwF_len]; omega), List.getElem?_eq_none (by rw [cwF_len]; omega)]
theorem cw_sf {K : Nat → ClassId} {h : Nat → Nat} {u v : CS} {d : Nat} {fs : List Value} (hd : d < 41) (hA : cwA K h u = cwA K h v) (hP : cP u = cP v) (h1 : ∀ i, i ≠ d → cF v i = cF u i) (hfs : fs = fFs (cF v d)) : (cw K h u).set (22 + d) (h (22 + d), .inr (1, fs)) = cw K h v := by
  subst hfs
  unfold cw
  rw [List.set_append_right _ _ (by rw [cwA_len]; omega), cwA_len, show 22 + d - 22 = d by omega, List.set_append_left _ _ (by rw [cwF_len]; exact hd), cwF_set h (cF u) (cF v) hd h1, hA, hP]
theorem cw_tF (K : Nat → ClassId) (h : Nat → Nat) (u : CS) {d : Nat} (k : Nat) (v : Int32) {fs : List Value} (hd : d < 41) (hfs : fs = fFs (cF (tF u d k v) d)) : (cw K h u).set (22 + d) (h (22 + d), .inr (1, fs)) = cw K h (tF u d k v) :=
  cw_sf hd rfl rfl (fun i hi => by funext m; rw [cF_tF, if_neg (fun q => hi q.1)]) hfs
theorem cw_tB (K : Nat → ClassId) (h : Nat → Nat) (u : CS) {d : Nat} (b s : Int32) (hd : d < 41) : (cw K h u).set (22 + d) (h (22 + d), .inr (1, [.int b, .int s, .int 0, .int 0, .int 0, .int 0])) = cw K h (tB u d b s) :=
  cw_sf hd rfl rfl (fun i hi => by funext m; rw [cF_tB, if_neg hi]) (by unfold fFs; simp only [cF_tB, if_true]; rfl)
theorem cw_cset {K : Nat → ClassId} {h : Nat → Nat} {u v : CS} {pv pn av an N : Nat} {f : Nat → Int64} {g : Nat → Bool} (h1 : pv < 22) (h2 : pn < 22) (hA : cset K (cwA K h u) pv pn av an N f g = cwA K h v) (hF : cF u = cF v) (hP : cP u = cP v) : cset K (cw K h u) pv pn av an N f g = cw K h v := by
  unfold cset at hA ⊢
  unfold cw
  rw [List.set_append_left _ _ (by rw [cwA_len]; exact h1), List.set_append_left _ _ (by rw [List.length_set, cwA_len]; exact h2), hA, hF, hP]
theorem cw_push (K : Nat → ClassId) (h : Nat → Nat) (u : CS) (q : Nat) (I : I6) : cw K h u ++ [(q, .inr (3, iFs I))] = cw K h (tP u q I) := by
  unfold cw
  have e1 : cwP (cP (tP u q I)) = cwP (cP u) ++ [(q, .inr (3, iFs I))] := by
    show cwP (cP u ++ [(q, I)]) = _
    unfold cwP; simp
  rw [e1]
  simp only [List.append_assoc]
  rfl
theorem cw_L0 (K : Nat → ClassId) (h : Nat → Nat) (u : CS) (f : Nat → Int64) (g : Nat → Bool) : cset K (cw K h u) 6 7 (h 6) (h 7) 32 f g = cw K h (tL u 0 f g) := cw_cset (by decide) (by decide) rfl rfl rfl
theorem cw_L1 (K : Nat → ClassId) (h : Nat → Nat) (u : CS) (f : Nat → Int64) (g : Nat → Bool) : cset K (cw K h u) 9 10 (h 9) (h 10) 8 f g = cw K h (tL u 1 f g) := cw_cset (by decide) (by decide) rfl rfl rfl
theorem cw_L2 (K : Nat → ClassId) (h : Nat → Nat) (u : CS) (f : Nat → Int64) (g : Nat → Bool) : cset K (cw K h u) 12 13 (h 12) (h 13) 120 f g = cw K h (tL u 2 f g) := cw_cset (by decide) (by decide) rfl rfl rfl
theorem cw_L3 (K : Nat → ClassId) (h : Nat → Nat) (u : CS) (f : Nat → Int64) (g : Nat → Bool) : cset K (cw K h u) 15 16 (h 15) (h 16) 120 f g = cw K h (tL u 3 f g) := cw_cset (by decide) (by decide) rfl rfl rfl
theorem cw_Z (K : Nat → ClassId) (h : Nat → Nat) (u : CS) (g : Nat → Bool) : (cw K h u).set 4 (h 4, .inl (K 2, 16, .inl (fun i => b2i (g i)))) = cw K h (tZ u g) := cw_sa (by decide) rfl rfl rfl
