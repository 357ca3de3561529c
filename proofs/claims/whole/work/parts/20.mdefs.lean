/-! the reference's state: ints, booleans, int rows, boolean rows, long rows, each by the field's slot -/
abbrev MS : Type := (Nat → Int32) × (Nat → Bool) × (Nat → Nat → Int32) × (Nat → Nat → Bool) × (Nat → Nat → Int64)
def gi (u : MS) (k : Nat) : Int32 := u.1 k
def gb (u : MS) (k : Nat) : Bool := u.2.1 k
def ga (u : MS) (k i : Nat) : Int32 := u.2.2.1 k i
def gz (u : MS) (k i : Nat) : Bool := u.2.2.2.1 k i
def gl (u : MS) (k i : Nat) : Int64 := u.2.2.2.2 k i
def si (u : MS) (k : Nat) (v : Int32) : MS := (fun j => if j = k then v else u.1 j, u.2)
def sb (u : MS) (k : Nat) (v : Bool) : MS := (u.1, fun j => if j = k then v else u.2.1 j, u.2.2)
def sa (u : MS) (k i : Nat) (v : Int32) : MS := (u.1, u.2.1, fun b => if b = k then upd (u.2.2.1 k) i v else u.2.2.1 b, u.2.2.2)
def sz (u : MS) (k i : Nat) (v : Bool) : MS := (u.1, u.2.1, u.2.2.1, fun b => if b = k then va_up (u.2.2.2.1 k) i v else u.2.2.2.1 b, u.2.2.2.2)
def sl (u : MS) (k i : Nat) (v : Int64) : MS := (u.1, u.2.1, u.2.2.1, u.2.2.2.1, fun b => if b = k then vp_updL (u.2.2.2.2 k) i v else u.2.2.2.2 b)
abbrev tys0 (K : Nat → ClassId) : List (ClassId × FieldType) := [(K 0, .int), (K 1, .long), (K 2, .boolean), (K 3, .object "PredicateMachine$Frame"), (K 4, .object "PredicateMachine$Instruction")]
theorem gi_si (u : MS) (k j : Nat) (v : Int32) : gi (si u k v) j = if j = k then v else gi u j := rfl
theorem gb_si (u : MS) (k j : Nat) (v : Int32) : gb (si u k v) j = gb u j := rfl
theorem ga_si (u : MS) (k j n : Nat) (v : Int32) : ga (si u k v) j n = ga u j n := rfl
theorem gz_si (u : MS) (k j n : Nat) (v : Int32) : gz (si u k v) j n = gz u j n := rfl
theorem gl_si (u : MS) (k j n : Nat) (v : Int32) : gl (si u k v) j n = gl u j n := rfl
theorem gi_sb (u : MS) (k j : Nat) (v : Bool) : gi (sb u k v) j = gi u j := rfl
theorem gb_sb (u : MS) (k j : Nat) (v : Bool) : gb (sb u k v) j = if j = k then v else gb u j := rfl
theorem ga_sb (u : MS) (k j n : Nat) (v : Bool) : ga (sb u k v) j n = ga u j n := rfl
theorem gz_sb (u : MS) (k j n : Nat) (v : Bool) : gz (sb u k v) j n = gz u j n := rfl
theorem gl_sb (u : MS) (k j n : Nat) (v : Bool) : gl (sb u k v) j n = gl u j n := rfl
theorem gi_sa (u : MS) (k i j : Nat) (v : Int32) : gi (sa u k i v) j = gi u j := rfl
theorem gb_sa (u : MS) (k i j : Nat) (v : Int32) : gb (sa u k i v) j = gb u j := rfl
theorem ga_sa (u : MS) (k i j n : Nat) (v : Int32) : ga (sa u k i v) j n = if j = k ∧ n = i then v else ga u j n := by
  simp only [ga, sa]
  by_cases h : j = k
  · subst h; by_cases h2 : n = i <;> simp [h2, upd]
  · simp [h]
theorem gz_sa (u : MS) (k i j n : Nat) (v : Int32) : gz (sa u k i v) j n = gz u j n := rfl
theorem gl_sa (u : MS) (k i j n : Nat) (v : Int32) : gl (sa u k i v) j n = gl u j n := rfl
theorem gi_sz (u : MS) (k i j : Nat) (v : Bool) : gi (sz u k i v) j = gi u j := rfl
theorem gb_sz (u : MS) (k i j : Nat) (v : Bool) : gb (sz u k i v) j = gb u j := rfl
theorem ga_sz (u : MS) (k i j n : Nat) (v : Bool) : ga (sz u k i v) j n = ga u j n := rfl
theorem gz_sz (u : MS) (k i j n : Nat) (v : Bool) : gz (sz u k i v) j n = if j = k ∧ n = i then v else gz u j n := by
  simp only [gz, sz]
  by_cases h : j = k
  · subst h; by_cases h2 : n = i <;> simp [h2, va_up]
  · simp [h]
theorem gl_sz (u : MS) (k i j n : Nat) (v : Bool) : gl (sz u k i v) j n = gl u j n := rfl
theorem gi_sl (u : MS) (k i j : Nat) (v : Int64) : gi (sl u k i v) j = gi u j := rfl
theorem gb_sl (u : MS) (k i j : Nat) (v : Int64) : gb (sl u k i v) j = gb u j := rfl
theorem ga_sl (u : MS) (k i j n : Nat) (v : Int64) : ga (sl u k i v) j n = ga u j n := rfl
theorem gz_sl (u : MS) (k i j n : Nat) (v : Int64) : gz (sl u k i v) j n = gz u j n := rfl
theorem gl_sl (u : MS) (k i j n : Nat) (v : Int64) : gl (sl u k i v) j n = if j = k ∧ n = i then v else gl u j n := by
  simp only [gl, sl]
  by_cases h : j = k
  · subst h; by_cases h2 : n = i <;> simp [h2, vp_updL]
  · simp [h]
theorem ga_sa_ne {u : MS} {k i j n : Nat} {v : Int32} (h : n ≠ i) : ga (sa u k i v) j n = ga u j n := by rw [ga_sa, if_neg (fun q => h q.2)]
theorem ga_sa_nk {u : MS} {k i j n : Nat} {v : Int32} (h : j ≠ k) : ga (sa u k i v) j n = ga u j n := by rw [ga_sa, if_neg (fun q => h q.1)]
theorem ga_sa_eq {u : MS} {k i : Nat} {v : Int32} : ga (sa u k i v) k i = v := by rw [ga_sa, if_pos ⟨rfl, rfl⟩]
theorem gz_sz_ne {u : MS} {k i j n : Nat} {v : Bool} (h : n ≠ i) : gz (sz u k i v) j n = gz u j n := by rw [gz_sz, if_neg (fun q => h q.2)]
theorem gz_sz_nk {u : MS} {k i j n : Nat} {v : Bool} (h : j ≠ k) : gz (sz u k i v) j n = gz u j n := by rw [gz_sz, if_neg (fun q => h q.1)]
theorem gz_sz_eq {u : MS} {k i : Nat} {v : Bool} : gz (sz u k i v) k i = v := by rw [gz_sz, if_pos ⟨rfl, rfl⟩]
theorem gl_sl_ne {u : MS} {k i j n : Nat} {v : Int64} (h : n ≠ i) : gl (sl u k i v) j n = gl u j n := by rw [gl_sl, if_neg (fun q => h q.2)]
theorem gl_sl_nk {u : MS} {k i j n : Nat} {v : Int64} (h : j ≠ k) : gl (sl u k i v) j n = gl u j n := by rw [gl_sl, if_neg (fun q => h q.1)]
theorem gl_sl_eq {u : MS} {k i : Nat} {v : Int64} : gl (sl u k i v) k i = v := by rw [gl_sl, if_pos ⟨rfl, rfl⟩]
def mfs (h : Nat → Nat) (u : MS) : List Value := [.int (gi u 0), .ref (h 2), .ref (h 3), .ref (h 4), .ref (h 5), .int (gi u 5), .int (gi u 6), .int (gi u 7), .int (gi u 8), .int (gi u 9), .int (gi u 10), .int (gi u 11), .int (b2i (gb u 12)), .ref (h 14), .ref (h 15), .ref (h 16), .ref (h 17), .ref (h 18), .ref (h 19), .ref (h 20), .ref (h 21), .int (gi u 21), .int (gi u 22), .int (gi u 23), .int (gi u 24), .ref (h 26), .int (gi u 26), .int (gi u 27), .int (gi u 28), .int (gi u 29), .int (b2i (gb u 30))]
def mw (K : Nat → ClassId) (h : Nat → Nat) (u : MS) : va_W := [(h 0, .inr (8, mfs h u)), (h 2, .inl (K 0, 80, .inl (ga u 1))), (h 3, .inl (K 0, 80, .inl (ga u 2))), (h 4, .inl (K 0, 240, .inl (ga u 3))), (h 5, .inl (K 2, 80, .inl (fun i => b2i (gz u 4 i)))), (h 14, .inl (K 1, 8, .inr (.inl (gl u 13)))), (h 15, .inl (K 2, 8, .inl (fun i => b2i (gz u 14 i)))), (h 16, .inl (K 1, 120, .inr (.inl (gl u 15)))), (h 17, .inl (K 2, 120, .inl (fun i => b2i (gz u 16 i)))), (h 18, .inl (K 1, 120, .inr (.inl (gl u 17)))), (h 19, .inl (K 1, 32, .inr (.inl (gl u 18)))), (h 20, .inl (K 2, 32, .inl (fun i => b2i (gz u 19 i)))), (h 21, .inl (K 2, 16, .inl (fun i => b2i (gz u 20 i)))), (h 26, .inl (K 0, 252, .inl (ga u 25)))]
theorem ms_0 (K : Nat → ClassId) (h : Nat → Nat) (u : MS) (v : Int32) : (mw K h u).set 0 (h 0, .inr (8, (mfs h u).set 0 (.int v))) = mw K h (si u 0 v) := rfl
theorem ms_5 (K : Nat → ClassId) (h : Nat → Nat) (u : MS) (v : Int32) : (mw K h u).set 0 (h 0, .inr (8, (mfs h u).set 5 (.int v))) = mw K h (si u 5 v) := rfl
theorem ms_6 (K : Nat → ClassId) (h : Nat → Nat) (u : MS) (v : Int32) : (mw K h u).set 0 (h 0, .inr (8, (mfs h u).set 6 (.int v))) = mw K h (si u 6 v) := rfl
theorem ms_7 (K : Nat → ClassId) (h : Nat → Nat) (u : MS) (v : Int32) : (mw K h u).set 0 (h 0, .inr (8, (mfs h u).set 7 (.int v))) = mw K h (si u 7 v) := rfl
theorem ms_8 (K : Nat → ClassId) (h : Nat → Nat) (u : MS) (v : Int32) : (mw K h u).set 0 (h 0, .inr (8, (mfs h u).set 8 (.int v))) = mw K h (si u 8 v) := rfl
theorem ms_9 (K : Nat → ClassId) (h : Nat → Nat) (u : MS) (v : Int32) : (mw K h u).set 0 (h 0, .inr (8, (mfs h u).set 9 (.int v))) = mw K h (si u 9 v) := rfl
theorem ms_10 (K : Nat → ClassId) (h : Nat → Nat) (u : MS) (v : Int32) : (mw K h u).set 0 (h 0, .inr (8, (mfs h u).set 10 (.int v))) = mw K h (si u 10 v) := rfl
theorem ms_11 (K : Nat → ClassId) (h : Nat → Nat) (u : MS) (v : Int32) : (mw K h u).set 0 (h 0, .inr (8, (mfs h u).set 11 (.int v))) = mw K h (si u 11 v) := rfl
theorem ms_12 (K : Nat → ClassId) (h : Nat → Nat) (u : MS) (v : Bool) : (mw K h u).set 0 (h 0, .inr (8, (mfs h u).set 12 (.int (b2i v)))) = mw K h (sb u 12 v) := rfl
theorem ms_21 (K : Nat → ClassId) (h : Nat → Nat) (u : MS) (v : Int32) : (mw K h u).set 0 (h 0, .inr (8, (mfs h u).set 21 (.int v))) = mw K h (si u 21 v) := rfl
theorem ms_22 (K : Nat → ClassId) (h : Nat → Nat) (u : MS) (v : Int32) : (mw K h u).set 0 (h 0, .inr (8, (mfs h u).set 22 (.int v))) = mw K h (si u 22 v) := rfl
theorem ms_23 (K : Nat → ClassId) (h : Nat → Nat) (u : MS) (v : Int32) : (mw K h u).set 0 (h 0, .inr (8, (mfs h u).set 23 (.int v))) = mw K h (si u 23 v) := rfl
theorem ms_24 (K : Nat → ClassId) (h : Nat → Nat) (u : MS) (v : Int32) : (mw K h u).set 0 (h 0, .inr (8, (mfs h u).set 24 (.int v))) = mw K h (si u 24 v) := rfl
theorem ms_26 (K : Nat → ClassId) (h : Nat → Nat) (u : MS) (v : Int32) : (mw K h u).set 0 (h 0, .inr (8, (mfs h u).set 26 (.int v))) = mw K h (si u 26 v) := rfl
theorem ms_27 (K : Nat → ClassId) (h : Nat → Nat) (u : MS) (v : Int32) : (mw K h u).set 0 (h 0, .inr (8, (mfs h u).set 27 (.int v))) = mw K h (si u 27 v) := rfl
theorem ms_28 (K : Nat → ClassId) (h : Nat → Nat) (u : MS) (v : Int32) : (mw K h u).set 0 (h 0, .inr (8, (mfs h u).set 28 (.int v))) = mw K h (si u 28 v) := rfl
theorem ms_29 (K : Nat → ClassId) (h : Nat → Nat) (u : MS) (v : Int32) : (mw K h u).set 0 (h 0, .inr (8, (mfs h u).set 29 (.int v))) = mw K h (si u 29 v) := rfl
theorem ms_30 (K : Nat → ClassId) (h : Nat → Nat) (u : MS) (v : Bool) : (mw K h u).set 0 (h 0, .inr (8, (mfs h u).set 30 (.int (b2i v)))) = mw K h (sb u 30 v) := rfl
theorem ms_1 (K : Nat → ClassId) (h : Nat → Nat) (u : MS) (i : Nat) (v : Int32) : (mw K h u).set 1 (h 2, .inl (K 0, 80, .inl (upd (ga u 1) i v))) = mw K h (sa u 1 i v) := rfl
theorem ms_2 (K : Nat → ClassId) (h : Nat → Nat) (u : MS) (i : Nat) (v : Int32) : (mw K h u).set 2 (h 3, .inl (K 0, 80, .inl (upd (ga u 2) i v))) = mw K h (sa u 2 i v) := rfl
theorem ms_3 (K : Nat → ClassId) (h : Nat → Nat) (u : MS) (i : Nat) (v : Int32) : (mw K h u).set 3 (h 4, .inl (K 0, 240, .inl (upd (ga u 3) i v))) = mw K h (sa u 3 i v) := rfl
theorem ms_4 (K : Nat → ClassId) (h : Nat → Nat) (u : MS) (i : Nat) (v : Bool) : (mw K h u).set 4 (h 5, .inl (K 2, 80, .inl (upd (fun j => b2i (gz u 4 j)) i (vp_nar .boolean (b2i v))))) = mw K h (sz u 4 i v) := by
  rw [upd_b2i]
  rfl
theorem ms_13 (K : Nat → ClassId) (h : Nat → Nat) (u : MS) (i : Nat) (v : Int64) : (mw K h u).set 5 (h 14, .inl (K 1, 8, .inr (.inl (vp_updL (gl u 13) i v)))) = mw K h (sl u 13 i v) := rfl
theorem ms_14 (K : Nat → ClassId) (h : Nat → Nat) (u : MS) (i : Nat) (v : Bool) : (mw K h u).set 6 (h 15, .inl (K 2, 8, .inl (upd (fun j => b2i (gz u 14 j)) i (vp_nar .boolean (b2i v))))) = mw K h (sz u 14 i v) := by
  rw [upd_b2i]
  rfl
theorem ms_15 (K : Nat → ClassId) (h : Nat → Nat) (u : MS) (i : Nat) (v : Int64) : (mw K h u).set 7 (h 16, .inl (K 1, 120, .inr (.inl (vp_updL (gl u 15) i v)))) = mw K h (sl u 15 i v) := rfl
theorem ms_16 (K : Nat → ClassId) (h : Nat → Nat) (u : MS) (i : Nat) (v : Bool) : (mw K h u).set 8 (h 17, .inl (K 2, 120, .inl (upd (fun j => b2i (gz u 16 j)) i (vp_nar .boolean (b2i v))))) = mw K h (sz u 16 i v) := by
  rw [upd_b2i]
  rfl
theorem ms_17 (K : Nat → ClassId) (h : Nat → Nat) (u : MS) (i : Nat) (v : Int64) : (mw K h u).set 9 (h 18, .inl (K 1, 120, .inr (.inl (vp_updL (gl u 17) i v)))) = mw K h (sl u 17 i v) := rfl
theorem ms_18 (K : Nat → ClassId) (h : Nat → Nat) (u : MS) (i : Nat) (v : Int64) : (mw K h u).set 10 (h 19, .inl (K 1, 32, .inr (.inl (vp_updL (gl u 18) i v)))) = mw K h (sl u 18 i v) := rfl
theorem ms_19 (K : Nat → ClassId) (h : Nat → Nat) (u : MS) (i : Nat) (v : Bool) : (mw K h u).set 11 (h 20, .inl (K 2, 32, .inl (upd (fun j => b2i (gz u 19 j)) i (vp_nar .boolean (b2i v))))) = mw K h (sz u 19 i v) := by
  rw [upd_b2i]
  rfl
theorem ms_20 (K : Nat → ClassId) (h : Nat → Nat) (u : MS) (i : Nat) (v : Bool) : (mw K h u).set 12 (h 21, .inl (K 2, 16, .inl (upd (fun j => b2i (gz u 20 j)) i (vp_nar .boolean (b2i v))))) = mw K h (sz u 20 i v) := by
  rw [upd_b2i]
  rfl
theorem ms_25 (K : Nat → ClassId) (h : Nat → Nat) (u : MS) (i : Nat) (v : Int32) : (mw K h u).set 13 (h 26, .inl (K 0, 252, .inl (upd (ga u 25) i v))) = mw K h (sa u 25 i v) := rfl
