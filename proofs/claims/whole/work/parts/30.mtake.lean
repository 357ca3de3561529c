def zfa (u : MS) (k a b : Nat) (c : Int32) : MS := fa u k (fun i => if a ≤ i ∧ i < b then c else ga u k i)
theorem zfa_id (u : MS) (k a : Nat) (c : Int32) : zfa u k a a c = u := by
  have hn : ∀ i : Nat, ¬ (a ≤ i ∧ i < a) := fun i q => by omega
  refine MS_ext (fun j => ?_) (fun j => ?_) (fun j n => ?_) (fun j n => ?_) (fun j n => ?_) <;> unfold zfa <;> simp only [gi_si, gi_sb, gi_sa, gi_sz, gi_sl, gi_fa, gi_fz, gi_fl, gb_si, gb_sb, gb_sa, gb_sz, gb_sl, gb_fa, gb_fz, gb_fl, ga_si, ga_sb, ga_sa, ga_sz, ga_sl, ga_fa, ga_fz, ga_fl, gz_si, gz_sb, gz_sa, gz_sz, gz_sl, gz_fa, gz_fz, gz_fl, gl_si, gl_sb, gl_sa, gl_sz, gl_sl, gl_fa, gl_fz, gl_fl] <;> first | rfl | (rw [if_neg (hn n)]; split <;> first | rfl | (rename_i q; rw [q]))
theorem zfa_succ (u : MS) (k a b : Nat) (c : Int32) (h : a ≤ b) : sa (zfa u k a b c) k b c = zfa u k a (b + 1) c := by
  refine MS_ext (fun j => ?_) (fun j => ?_) (fun j n => ?_) (fun j n => ?_) (fun j n => ?_) <;> unfold zfa <;> simp only [gi_si, gi_sb, gi_sa, gi_sz, gi_sl, gi_fa, gi_fz, gi_fl, gb_si, gb_sb, gb_sa, gb_sz, gb_sl, gb_fa, gb_fz, gb_fl, ga_si, ga_sb, ga_sa, ga_sz, ga_sl, ga_fa, ga_fz, ga_fl, gz_si, gz_sb, gz_sa, gz_sz, gz_sl, gz_fa, gz_fz, gz_fl, gl_si, gl_sb, gl_sa, gl_sz, gl_sl, gl_fa, gl_fz, gl_fl]
  by_cases hk : j = k
  · subst hk; by_cases hn : n = b
    · subst hn; simp [h]
    · simp only [hn, and_false, if_false, if_true]; congr 1; apply propext; omega
  · simp [hk]
def zfz (u : MS) (k a b : Nat) (c : Bool) : MS := fz u k (fun i => if a ≤ i ∧ i < b then c else gz u k i)
theorem zfz_id (u : MS) (k a : Nat) (c : Bool) : zfz u k a a c = u := by
  have hn : ∀ i : Nat, ¬ (a ≤ i ∧ i < a) := fun i q => by omega
  refine MS_ext (fun j => ?_) (fun j => ?_) (fun j n => ?_) (fun j n => ?_) (fun j n => ?_) <;> unfold zfz <;> simp only [gi_si, gi_sb, gi_sa, gi_sz, gi_sl, gi_fa, gi_fz, gi_fl, gb_si, gb_sb, gb_sa, gb_sz, gb_sl, gb_fa, gb_fz, gb_fl, ga_si, ga_sb, ga_sa, ga_sz, ga_sl, ga_fa, ga_fz, ga_fl, gz_si, gz_sb, gz_sa, gz_sz, gz_sl, gz_fa, gz_fz, gz_fl, gl_si, gl_sb, gl_sa, gl_sz, gl_sl, gl_fa, gl_fz, gl_fl] <;> first | rfl | (rw [if_neg (hn n)]; split <;> first | rfl | (rename_i q; rw [q]))
theorem zfz_succ (u : MS) (k a b : Nat) (c : Bool) (h : a ≤ b) : sz (zfz u k a b c) k b c = zfz u k a (b + 1) c := by
  refine MS_ext (fun j => ?_) (fun j => ?_) (fun j n => ?_) (fun j n => ?_) (fun j n => ?_) <;> unfold zfz <;> simp only [gi_si, gi_sb, gi_sa, gi_sz, gi_sl, gi_fa, gi_fz, gi_fl, gb_si, gb_sb, gb_sa, gb_sz, gb_sl, gb_fa, gb_fz, gb_fl, ga_si, ga_sb, ga_sa, ga_sz, ga_sl, ga_fa, ga_fz, ga_fl, gz_si, gz_sb, gz_sa, gz_sz, gz_sl, gz_fa, gz_fz, gz_fl, gl_si, gl_sb, gl_sa, gl_sz, gl_sl, gl_fa, gl_fz, gl_fl]
  by_cases hk : j = k
  · subst hk; by_cases hn : n = b
    · subst hn; simp [h]
    · simp only [hn, and_false, if_false, if_true]; congr 1; apply propext; omega
  · simp [hk]
def zfl (u : MS) (k a b : Nat) (c : Int64) : MS := fl u k (fun i => if a ≤ i ∧ i < b then c else gl u k i)
theorem zfl_id (u : MS) (k a : Nat) (c : Int64) : zfl u k a a c = u := by
  have hn : ∀ i : Nat, ¬ (a ≤ i ∧ i < a) := fun i q => by omega
  refine MS_ext (fun j => ?_) (fun j => ?_) (fun j n => ?_) (fun j n => ?_) (fun j n => ?_) <;> unfold zfl <;> simp only [gi_si, gi_sb, gi_sa, gi_sz, gi_sl, gi_fa, gi_fz, gi_fl, gb_si, gb_sb, gb_sa, gb_sz, gb_sl, gb_fa, gb_fz, gb_fl, ga_si, ga_sb, ga_sa, ga_sz, ga_sl, ga_fa, ga_fz, ga_fl, gz_si, gz_sb, gz_sa, gz_sz, gz_sl, gz_fa, gz_fz, gz_fl, gl_si, gl_sb, gl_sa, gl_sz, gl_sl, gl_fa, gl_fz, gl_fl] <;> first | rfl | (rw [if_neg (hn n)]; split <;> first | rfl | (rename_i q; rw [q]))
theorem zfl_succ (u : MS) (k a b : Nat) (c : Int64) (h : a ≤ b) : sl (zfl u k a b c) k b c = zfl u k a (b + 1) c := by
  refine MS_ext (fun j => ?_) (fun j => ?_) (fun j n => ?_) (fun j n => ?_) (fun j n => ?_) <;> unfold zfl <;> simp only [gi_si, gi_sb, gi_sa, gi_sz, gi_sl, gi_fa, gi_fz, gi_fl, gb_si, gb_sb, gb_sa, gb_sz, gb_sl, gb_fa, gb_fz, gb_fl, ga_si, ga_sb, ga_sa, ga_sz, ga_sl, ga_fa, ga_fz, ga_fl, gz_si, gz_sb, gz_sa, gz_sz, gz_sl, gz_fa, gz_fz, gz_fl, gl_si, gl_sb, gl_sa, gl_sz, gl_sl, gl_fa, gl_fz, gl_fl]
  by_cases hk : j = k
  · subst hk; by_cases hn : n = b
    · subst hn; simp [h]
    · simp only [hn, and_false, if_false, if_true]; congr 1; apply propext; omega
  · simp [hk]
/-- j instructions of the draft copied into the program's places -/
def mCp (u : MS) (j : Nat) : MS := fz (fa (fa (fa u 1 (fun i => if 40 ≤ i ∧ i < 40 + j then ga u 1 (i - 40) else ga u 1 i)) 2 (fun i => if 40 ≤ i ∧ i < 40 + j then ga u 2 (i - 40) else ga u 2 i)) 3 (fun i => if 120 ≤ i ∧ i < 120 + 3 * j then ga u 3 (i - 120) else ga u 3 i)) 4 (fun i => if 40 ≤ i ∧ i < 40 + j then gz u 4 (i - 40) else gz u 4 i)
theorem ga_mCp (u : MS) (j k n : Nat) : ga (mCp u j) k n = if k = 3 then (if 120 ≤ n ∧ n < 120 + 3 * j then ga u 3 (n - 120) else ga u 3 n) else if k = 2 then (if 40 ≤ n ∧ n < 40 + j then ga u 2 (n - 40) else ga u 2 n) else if k = 1 then (if 40 ≤ n ∧ n < 40 + j then ga u 1 (n - 40) else ga u 1 n) else ga u k n := by
  unfold mCp; simp only [gi_si, gi_sb, gi_sa, gi_sz, gi_sl, gi_fa, gi_fz, gi_fl, gb_si, gb_sb, gb_sa, gb_sz, gb_sl, gb_fa, gb_fz, gb_fl, ga_si, ga_sb, ga_sa, ga_sz, ga_sl, ga_fa, ga_fz, ga_fl, gz_si, gz_sb, gz_sa, gz_sz, gz_sl, gz_fa, gz_fz, gz_fl, gl_si, gl_sb, gl_sa, gl_sz, gl_sl, gl_fa, gl_fz, gl_fl]
theorem gz_mCp (u : MS) (j k n : Nat) : gz (mCp u j) k n = if k = 4 then (if 40 ≤ n ∧ n < 40 + j then gz u 4 (n - 40) else gz u 4 n) else gz u k n := by
  unfold mCp; simp only [gi_si, gi_sb, gi_sa, gi_sz, gi_sl, gi_fa, gi_fz, gi_fl, gb_si, gb_sb, gb_sa, gb_sz, gb_sl, gb_fa, gb_fz, gb_fl, ga_si, ga_sb, ga_sa, ga_sz, ga_sl, ga_fa, ga_fz, ga_fl, gz_si, gz_sb, gz_sa, gz_sz, gz_sl, gz_fa, gz_fz, gz_fl, gl_si, gl_sb, gl_sa, gl_sz, gl_sl, gl_fa, gl_fz, gl_fl]
theorem mCp_0 (u : MS) : mCp u 0 = u := by
  refine MS_ext (fun j => rfl) (fun j => rfl) (fun k n => ?_) (fun k n => ?_) (fun j n => rfl)
  · rw [ga_mCp, if_neg (show ¬ (120 ≤ n ∧ n < 120 + 3 * 0) by omega), if_neg (show ¬ (40 ≤ n ∧ n < 40 + 0) by omega), if_neg (show ¬ (40 ≤ n ∧ n < 40 + 0) by omega)]
    split
    · rename_i q; rw [q]
    · split
      · rename_i q; rw [q]
      · split
        · rename_i q; rw [q]
        · rfl
  · rw [gz_mCp, if_neg (show ¬ (40 ≤ n ∧ n < 40 + 0) by omega)]
    split
    · rename_i q; rw [q]
    · rfl
theorem ga_mCp1 (u : MS) {j n : Nat} (h : n < 40) : ga (mCp u j) 1 n = ga u 1 n := by rw [ga_mCp]; simp; omega
theorem ga_mCp2 (u : MS) {j n : Nat} (h : n < 40) : ga (mCp u j) 2 n = ga u 2 n := by rw [ga_mCp]; simp; omega
theorem ga_mCp3 (u : MS) {j n : Nat} (h : n < 120) : ga (mCp u j) 3 n = ga u 3 n := by rw [ga_mCp]; simp; omega
theorem gz_mCp4 (u : MS) {j n : Nat} (h : n < 40) : gz (mCp u j) 4 n = gz u 4 n := by rw [gz_mCp]; simp; omega
theorem mCp_succ (u : MS) {j : Nat} : sa (sa (sa (sz (sa (sa (mCp u j) 1 (40 + j) (ga u 1 j)) 2 (40 + j) (ga u 2 j)) 4 (40 + j) (gz u 4 j)) 3 (120 + 3 * j) (ga u 3 (3 * j))) 3 (120 + 3 * j + 1) (ga u 3 (3 * j + 1))) 3 (120 + 3 * j + 2) (ga u 3 (3 * j + 2)) = mCp u (j + 1) := by
  refine MS_ext (fun j => rfl) (fun j => rfl) (fun k n => ?_) (fun k n => ?_) (fun j n => rfl)
  · simp only [gi_si, gi_sb, gi_sa, gi_sz, gi_sl, gi_fa, gi_fz, gi_fl, gb_si, gb_sb, gb_sa, gb_sz, gb_sl, gb_fa, gb_fz, gb_fl, ga_si, ga_sb, ga_sa, ga_sz, ga_sl, ga_fa, ga_fz, ga_fl, gz_si, gz_sb, gz_sa, gz_sz, gz_sl, gz_fa, gz_fz, gz_fl, gl_si, gl_sb, gl_sa, gl_sz, gl_sl, gl_fa, gl_fz, gl_fl, ga_mCp]
    by_cases h3 : k = 3
    · subst h3
      simp only [true_and, if_true]
      by_cases e2 : n = 120 + 3 * j + 2
      · subst e2; rw [if_pos rfl, if_pos (by omega), show 120 + 3 * j + 2 - 120 = 3 * j + 2 by omega]
      · rw [if_neg e2]
        by_cases e1 : n = 120 + 3 * j + 1
        · subst e1; rw [if_pos rfl, if_pos (by omega), show 120 + 3 * j + 1 - 120 = 3 * j + 1 by omega]
        · rw [if_neg e1]
          by_cases e0 : n = 120 + 3 * j
          · subst e0; rw [if_pos rfl, if_pos (by omega), show 120 + 3 * j - 120 = 3 * j by omega]
          · rw [if_neg e0]; simp only [show ¬ (3 = 2) by decide, show ¬ (3 = 1) by decide, false_and, if_false]; congr 1; apply propext; omega
    · simp only [h3, false_and, if_false]
      by_cases h2 : k = 2
      · subst h2; by_cases e0 : n = 40 + j
        · subst e0; simp
        · simp only [e0, and_false, if_false, if_true]; congr 1; apply propext; omega
      · simp only [h2, false_and, if_false]
        by_cases h1 : k = 1
        · subst h1; by_cases e0 : n = 40 + j
          · subst e0; simp
          · simp only [e0, and_false, if_false, if_true]; congr 1; apply propext; omega
        · simp [h1]
  · simp only [gi_si, gi_sb, gi_sa, gi_sz, gi_sl, gi_fa, gi_fz, gi_fl, gb_si, gb_sb, gb_sa, gb_sz, gb_sl, gb_fa, gb_fz, gb_fl, ga_si, ga_sb, ga_sa, ga_sz, ga_sl, ga_fa, ga_fz, ga_fl, gz_si, gz_sb, gz_sa, gz_sz, gz_sl, gz_fa, gz_fz, gz_fl, gl_si, gl_sb, gl_sa, gl_sz, gl_sl, gl_fa, gl_fz, gl_fl, gz_mCp]
    by_cases h3 : k = 4
    · subst h3; by_cases e0 : n = 40 + j
      · subst e0; simp
      · simp only [e0, and_false, if_false, if_true]; congr 1; apply propext; omega
    · simp [h3]
/-- the program taken: v is the state behind the check -/
def mTk (v : MS) (d : Nat) : MS := sb (si (si (si (si (si (si (si (si (zfa (zfz (zfl (mCp (si (si (si v 5 0) 0 0) 6 (nI d)) d) 17 0 120 0) 20 1 16 false) 25 0 6 0) 21 0) 22 0) 23 0) 24 0) 26 0) 27 0) 28 0) 29 0) 30 false
theorem ix40 (n : Nat) (h : 40 + n < 80) : (40 + nI n).toNatClampNeg = 40 + n ∧ vp_in (40 + nI n) 80 := by
  have e : (40 + nI n) = nI (40 + n) := by rw [show (40 : Int32) = nI 40 from rfl, nI_add]
  rw [e]; exact ⟨nI_clamp (by omega), vp_in_nI h (by omega)⟩
theorem ix120 (n : Nat) (k : Int32) (k' : Nat) (hk : k = nI k') (h : 120 + 3 * n + k' < 240) : (120 + 3 * nI n + k).toNatClampNeg = 120 + 3 * n + k' ∧ vp_in (120 + 3 * nI n + k) 240 := by
  have e : (120 + 3 * nI n + k) = nI (120 + 3 * n + k') := by rw [hk, show (120 : Int32) = nI 120 from rfl, show (3 : Int32) = nI 3 from rfl, pk_mul, nI_add, nI_add]
  rw [e]; exact ⟨nI_clamp (by omega), vp_in_nI h (by omega)⟩
theorem gi5_mCheck (u : MS) (d : Nat) (hd : gi u 5 = nI d) : gi (mCheck u d) 5 = nI d := by
  have h1 : gi (mCkL d 41 0 (mCk0 u)) 5 = nI d := by rw [gi5_mCkL]; exact hd
  unfold mCheck mCkE; split
  · exact h1
  · split
    · exact h1
    · exact h1
set_option maxHeartbeats 4000000 in
set_option maxRecDepth 100000 in
theorem c_X8_take (l : Launch) (D : va_G) (K : Nat → ClassId) (h : Nat → Nat) (u : MS)  (d : Nat) (hd : gi u 5 = nI d) (hd2 : d ≤ 40) : vMi l D vwCl (tys0 K) yX8_take wsX8_take ({ frames := 3, cells := 0, slots := 0, locals := 70 } : Room) [.ref (h 0)] (mw K h u) (mw K h) (fun r9 u9 => r9 = (if 0 < gi (mCheck u d) 7 then 0 else gi (mCheck u d) 9) ∧ u9 = (if 0 < gi (mCheck u d) 7 then si (si (mCheck u d) 5 0) 0 1 else mTk (mCheck u d) d)) := by
  refine vMi_of (cc := cX8_take) (nL := 4) (rt := .int) (by decide) rfl (Nat.le_of_ble_eq_true rfl) ?_
  intro X C E
  show V X 0 0 (mw K h u) 0 [(0, .ref (h 0))] []
  have hi8 : ∀ w ∈ wsX80, w ∈ wsX8_take := fun _ h => List.mem_cons_of_mem _ (List.mem_append_right _ h)
  refine V_aload_n C dX8_take_0 rfl 0 rfl ?_
  refine V_callvV C dX8_take_1 0 rfl rfl (c_X8_check l D K h u d hd hd2) gX8_take_X8_check rfl 0 rfl (by decide +kernel) (by decide) ⟨Nat.le_of_ble_eq_true rfl, Nat.le_of_ble_eq_true rfl⟩ rfl (Nat.le_of_ble_eq_true rfl) (det1 ?_)
  have hv5 : gi (mCheck u d) 5 = nI d := gi5_mCheck u d hd
  generalize mCheck u d = v at hv5 E ⊢
  refine V_aload_n C dX8_take_4 rfl 0 rfl ?_
  refine V_get (v := .int (gi v 5)) C dX8_take_5 hi8 0 rfl rfl 5 (by decide) (List.mem_of_getElem? (i := 1) rfl) rfl rfl ?_
  rw [hv5]
  refine V_istore_n (lv' := [(1, .int (nI d)), (0, .ref (h 0))]) C dX8_take_8 rfl (by decide) rfl ?_
  refine V_aload_n C dX8_take_9 rfl 1 rfl ?_
  refine V_iconst (v := 0) C dX8_take_10 (by decide) ?_
  refine V_put (ws' := (mw K h (si v 5 0))) C dX8_take_11 hi8 tyX8_ok nmX8 0 rfl rfl 5 (by decide) (List.mem_of_getElem? (i := 1) rfl) rfl rfl rfl rfl rfl (Nat.le_of_ble_eq_true rfl) (ms_5 K h v 0) ?_
  refine V_aload_n C dX8_take_14 rfl 1 rfl ?_
  suffices zj27 : ∀ xt : Bool, xt = (decide (0 < gi v 7)) → V X 0 0 (mw K h (si v 5 0)) 27 [(1, .int (nI d)), (0, .ref (h 0))] [.int (b2i xt), .ref (h 0)] by
    refine V_aload_n C dX8_take_15 rfl 1 rfl ?_
    refine V_get (v := .int (gi v 7)) C dX8_take_16 hi8 0 rfl rfl 7 (by decide) (List.mem_of_getElem? (i := 2) rfl) rfl rfl ?_
    refine V_if_le (tgt := 26) C dX8_take_19 (by decide) (fun zh19 => ?_) (fun zh19 => ?_)
    · refine V_iconst (v := 0) C dX8_take_26 (by decide) ?_
      refine V_sub [0, 1] rfl ?_
      exact zj27 false (by first | rfl | (simp (decide := true) [b2i, gi_si, ga_si, gz_si, gl_si, gb_si, mPl_si, mGet_si, mNat_si, mSlot_si, mBy_si, mThr, zh19, Int32.not_lt.mpr zh19]; done) | (simp (decide := true) [b2i, gi_si, ga_si, gz_si, gl_si, gb_si, mPl_si, mGet_si, mNat_si, mSlot_si, mBy_si, mThr, zh19, Int32.not_lt.mpr zh19]; rfl) | (simp_all (decide := true) [b2i, gi_si, ga_si, gz_si, gl_si, gb_si, mPl_si, mGet_si, mNat_si, mSlot_si, mBy_si, mThr]; done))
    · refine V_iconst (v := 1) C dX8_take_22 (by decide) ?_
      refine V_goto (tgt := 27) C dX8_take_23 (by decide) ?_
      refine V_sub [0, 1] rfl ?_
      exact zj27 true (by first | rfl | (simp (decide := true) [b2i, gi_si, ga_si, gz_si, gl_si, gb_si, mPl_si, mGet_si, mNat_si, mSlot_si, mBy_si, mThr, zh19, Int32.not_le.mp zh19]; done) | (simp (decide := true) [b2i, gi_si, ga_si, gz_si, gl_si, gb_si, mPl_si, mGet_si, mNat_si, mSlot_si, mBy_si, mThr, zh19, Int32.not_le.mp zh19]; rfl) | (simp_all (decide := true) [b2i, gi_si, ga_si, gz_si, gl_si, gb_si, mPl_si, mGet_si, mNat_si, mSlot_si, mBy_si, mThr]; done))
  intro xt e_xt
  refine V_iconst (v := 0) C dX8_take_27 (by decide) ?_
  refine V_calliV C dX8_take_28 0 rfl rfl (c_X8_throwing1 l D K h (si v 5 0) xt) gX8_take_X8_throwing rfl 2 rfl (by decide +kernel) (by decide) ⟨Nat.le_of_ble_eq_true rfl, Nat.le_of_ble_eq_true rfl⟩ rfl (Nat.le_of_ble_eq_true rfl) (det2 ?_)
  refine V_ifz_eq (tgt := 36) C dX8_take_31 (by decide) (fun zh31 => ?_) (fun zh31 => ?_)
  · refine V_ws (ws' := mw K h (si (si v 5 0) 0 0)) (by rw [zh31]; rfl) ?_
    refine V_aload_n C dX8_take_36 rfl 1 rfl ?_
    refine V_iload_n C dX8_take_37 rfl 0 rfl ?_
    refine V_put (ws' := (mw K h (si (si (si v 5 0) 0 0) 6 (nI d)))) C dX8_take_38 hi8 tyX8_ok nmX8 0 rfl rfl 6 (by decide) (List.mem_of_getElem? (i := 3) rfl) rfl rfl rfl rfl rfl (Nat.le_of_ble_eq_true rfl) (ms_6 K h (si (si v 5 0) 0 0) (nI d)) ?_
    refine V_iconst (v := 0) C dX8_take_41 (by decide) ?_
    refine V_istore_n (lv' := [(2, .int 0), (1, .int (nI d)), (0, .ref (h 0))]) C dX8_take_42 rfl (by decide) rfl ?_
    suffices zx : V X 0 0 (mw K h (mCp (si (si (si v 5 0) 0 0) 6 (nI d)) d)) 135 [(1, .int (nI d)), (0, .ref (h 0))] [] by
      have zl : ∀ (m j : Nat), j ≤ d → d - j = m → V X 0 0 (mw K h (mCp (si (si (si v 5 0) 0 0) 6 (nI d)) j)) 43 [(2, .int (nI j)), (1, .int (nI d)), (0, .ref (h 0))] [] := by
        intro m
        induction m with
        | zero =>
          intro j hj hjm
          refine V_iload_n C dX8_take_43 rfl 0 rfl ?_
          refine V_iload_n C dX8_take_44 rfl 1 rfl ?_
          refine V_icmp_ge (tgt := 135) C dX8_take_45 (by decide) (fun zh45 => ?_) (fun zh45 => ?_)
          · have zj : j = d := by omega
            subst zj
            exact V_sub [1, 2] rfl zx
          · exact absurd (nI_le (a := d) (b := j) (by omega) (by omega)) zh45
        | succ m ih =>
          intro j hj hjm
          refine V_iload_n C dX8_take_43 rfl 0 rfl ?_
          refine V_iload_n C dX8_take_44 rfl 1 rfl ?_
          refine V_icmp_ge (tgt := 135) C dX8_take_45 (by decide) (fun zh45 => ?_) (fun zh45 => ?_)
          · exact absurd zh45 (nI_ge (a := j) (b := d) (by omega) (by omega))
          · refine V_aload_n C dX8_take_48 rfl 2 rfl ?_
            refine V_get (v := .ref (h 2)) C dX8_take_49 hi8 0 rfl rfl 1 (by decide) (List.mem_of_getElem? (i := 4) rfl) rfl rfl ?_
            refine V_bipush (v := 40) C dX8_take_52 (by decide) ?_
            refine V_iload_n C dX8_take_54 rfl 0 rfl ?_
            refine V_iadd C dX8_take_55 ?_
            refine V_aload_n C dX8_take_56 rfl 2 rfl ?_
            refine V_get (v := .ref (h 2)) C dX8_take_57 hi8 0 rfl rfl 1 (by decide) (List.mem_of_getElem? (i := 4) rfl) rfl rfl ?_
            refine V_iload_n C dX8_take_60 rfl 0 rfl ?_
            refine V_ialdn (v := (ga (mCp (si (si (si v 5 0) 0 0) 6 (nI d)) j) 1 (j))) C dX8_take_61 1 0 rfl rfl (j) (nI_clamp (by omega)) (vp_in_nI (by omega) (by omega)) rfl ?_
            rw [show (ga (mCp (si (si (si v 5 0) 0 0) 6 (nI d)) j) 1 (j)) = (ga v 1 j) by first | exact ga_mCp1 _ (by omega) | (simp (disch := omega) only [ga_sa_ne, gz_sz_ne, ga_sz, gz_sa, ga_sa_nk, ga_sa_eq]; exact ga_mCp1 _ (by omega))]
            refine V_iastn (ws' := (mw K h (sa (mCp (si (si (si v 5 0) 0 0) 6 (nI d)) j) 1 (40 + j) (ga v 1 j)))) C dX8_take_62 1 0 rfl rfl (40 + j) (ix40 j (by omega)).1 ((ix40 j (by omega)).2) (ms_1 K h (mCp (si (si (si v 5 0) 0 0) 6 (nI d)) j) (40 + j) (ga v 1 j)) ?_
            refine V_aload_n C dX8_take_63 rfl 2 rfl ?_
            refine V_get (v := .ref (h 3)) C dX8_take_64 hi8 0 rfl rfl 2 (by decide) (List.mem_of_getElem? (i := 5) rfl) rfl rfl ?_
            refine V_bipush (v := 40) C dX8_take_67 (by decide) ?_
            refine V_iload_n C dX8_take_69 rfl 0 rfl ?_
            refine V_iadd C dX8_take_70 ?_
            refine V_aload_n C dX8_take_71 rfl 2 rfl ?_
            refine V_get (v := .ref (h 3)) C dX8_take_72 hi8 0 rfl rfl 2 (by decide) (List.mem_of_getElem? (i := 5) rfl) rfl rfl ?_
            refine V_iload_n C dX8_take_75 rfl 0 rfl ?_
            refine V_ialdn (v := (ga (mCp (si (si (si v 5 0) 0 0) 6 (nI d)) j) 2 (j))) C dX8_take_76 2 0 rfl rfl (j) (nI_clamp (by omega)) (vp_in_nI (by omega) (by omega)) (by first | rfl | (simp (disch := omega) only [ga_sa_ne, ga_sa_eq, ga_si, ga_sb, ga_sz, ga_sl])) ?_
            rw [show (ga (mCp (si (si (si v 5 0) 0 0) 6 (nI d)) j) 2 (j)) = (ga v 2 j) by first | exact ga_mCp2 _ (by omega) | (simp (disch := omega) only [ga_sa_ne, gz_sz_ne, ga_sz, gz_sa, ga_sa_nk, ga_sa_eq]; exact ga_mCp2 _ (by omega))]
            refine V_iastn (ws' := (mw K h (sa (sa (mCp (si (si (si v 5 0) 0 0) 6 (nI d)) j) 1 (40 + j) (ga v 1 j)) 2 (40 + j) (ga v 2 j)))) C dX8_take_77 2 0 rfl rfl (40 + j) (ix40 j (by omega)).1 ((ix40 j (by omega)).2) (ms_2 K h (sa (mCp (si (si (si v 5 0) 0 0) 6 (nI d)) j) 1 (40 + j) (ga v 1 j)) (40 + j) (ga v 2 j)) ?_
            refine V_aload_n C dX8_take_78 rfl 2 rfl ?_
            refine V_get (v := .ref (h 5)) C dX8_take_79 hi8 0 rfl rfl 4 (by decide) (List.mem_of_getElem? (i := 6) rfl) rfl rfl ?_
            refine V_bipush (v := 40) C dX8_take_82 (by decide) ?_
            refine V_iload_n C dX8_take_84 rfl 0 rfl ?_
            refine V_iadd C dX8_take_85 ?_
            refine V_aload_n C dX8_take_86 rfl 2 rfl ?_
            refine V_get (v := .ref (h 5)) C dX8_take_87 hi8 0 rfl rfl 4 (by decide) (List.mem_of_getElem? (i := 6) rfl) rfl rfl ?_
            refine V_iload_n C dX8_take_90 rfl 0 rfl ?_
            refine V_zaldn (v := (b2i (gz (mCp (si (si (si v 5 0) 0 0) 6 (nI d)) j) 4 (j)))) C dX8_take_91 4 2 rfl rfl (j) (nI_clamp (by omega)) (vp_in_nI (by omega) (by omega)) rfl ?_
            rw [show (gz (mCp (si (si (si v 5 0) 0 0) 6 (nI d)) j) 4 (j)) = (gz v 4 j) by first | exact gz_mCp4 _ (by omega) | (simp (disch := omega) only [ga_sa_ne, gz_sz_ne, ga_sz, gz_sa, ga_sa_nk, ga_sa_eq]; exact gz_mCp4 _ (by omega))]
            refine V_zastn (ws' := (mw K h (sz (sa (sa (mCp (si (si (si v 5 0) 0 0) 6 (nI d)) j) 1 (40 + j) (ga v 1 j)) 2 (40 + j) (ga v 2 j)) 4 (40 + j) (gz v 4 j)))) C dX8_take_92 4 2 rfl rfl (40 + j) (ix40 j (by omega)).1 ((ix40 j (by omega)).2) (ms_4 K h (sa (sa (mCp (si (si (si v 5 0) 0 0) 6 (nI d)) j) 1 (40 + j) (ga v 1 j)) 2 (40 + j) (ga v 2 j)) (40 + j) (gz v 4 j)) ?_
            refine V_iconst (v := 0) C dX8_take_93 (by decide) ?_
            refine V_istore_n (lv' := [(3, .int 0), (2, .int (nI j)), (1, .int (nI d)), (0, .ref (h 0))]) C dX8_take_94 rfl (by decide) rfl ?_
            refine V_iload_n C dX8_take_95 rfl 0 rfl ?_
            refine V_iconst (v := 3) C dX8_take_96 (by decide) ?_
            refine V_icmp_ge (tgt := 129) C dX8_take_97 (by decide) (fun zh97 => ?_) (fun zh97 => ?_)
            · exact absurd zh97 (by decide)
            · refine V_aload_n C dX8_take_100 rfl 3 rfl ?_
              refine V_get (v := .ref (h 4)) C dX8_take_101 hi8 0 rfl rfl 3 (by decide) (List.mem_of_getElem? (i := 7) rfl) rfl rfl ?_
              refine V_bipush (v := 120) C dX8_take_104 (by decide) ?_
              refine V_iconst (v := 3) C dX8_take_106 (by decide) ?_
              refine V_iload_n C dX8_take_107 rfl 1 rfl ?_
              refine V_imul C dX8_take_108 ?_
              refine V_iadd C dX8_take_109 ?_
              refine V_iload_n C dX8_take_110 rfl 0 rfl ?_
              refine V_iadd C dX8_take_111 ?_
              refine V_aload_n C dX8_take_112 rfl 3 rfl ?_
              refine V_get (v := .ref (h 4)) C dX8_take_113 hi8 0 rfl rfl 3 (by decide) (List.mem_of_getElem? (i := 7) rfl) rfl rfl ?_
              refine V_iconst (v := 3) C dX8_take_116 (by decide) ?_
              refine V_iload_n C dX8_take_117 rfl 1 rfl ?_
              refine V_imul C dX8_take_118 ?_
              refine V_iload_n C dX8_take_119 rfl 0 rfl ?_
              refine V_iadd C dX8_take_120 ?_
              refine V_ialdn (v := (ga (mCp (si (si (si v 5 0) 0 0) 6 (nI d)) j) 3 (3 * j))) C dX8_take_121 3 0 rfl rfl (3 * j) (ix3 j rfl 0 0 rfl (by omega)).1 ((ix3 j rfl 0 0 rfl (by omega)).2) (by first | rfl | (simp (disch := omega) only [ga_sa_ne, ga_sa_eq, ga_si, ga_sb, ga_sz, ga_sl])) ?_
              rw [show (ga (mCp (si (si (si v 5 0) 0 0) 6 (nI d)) j) 3 (3 * j)) = (ga v 3 (3 * j)) by first | exact ga_mCp3 _ (by omega) | (simp (disch := omega) only [ga_sa_ne, gz_sz_ne, ga_sz, gz_sa, ga_sa_nk, ga_sa_eq]; exact ga_mCp3 _ (by omega))]
              refine V_iastn (ws' := (mw K h (sa (sz (sa (sa (mCp (si (si (si v 5 0) 0 0) 6 (nI d)) j) 1 (40 + j) (ga v 1 j)) 2 (40 + j) (ga v 2 j)) 4 (40 + j) (gz v 4 j)) 3 (120 + 3 * j) (ga v 3 (3 * j))))) C dX8_take_122 3 0 rfl rfl (120 + 3 * j) (ix120 j 0 0 rfl (by omega)).1 ((ix120 j 0 0 rfl (by omega)).2) (ms_3 K h (sz (sa (sa (mCp (si (si (si v 5 0) 0 0) 6 (nI d)) j) 1 (40 + j) (ga v 1 j)) 2 (40 + j) (ga v 2 j)) 4 (40 + j) (gz v 4 j)) (120 + 3 * j) (ga v 3 (3 * j))) ?_
              refine V_iinc (lv' := [(3, .int 1), (2, .int (nI j)), (1, .int (nI d)), (0, .ref (h 0))]) C dX8_take_123 (j := 0) rfl (by decide) (by decide) rfl ?_
              refine V_goto (tgt := 95) C dX8_take_126 (by decide) ?_
              refine V_iload_n C dX8_take_95 rfl 0 rfl ?_
              refine V_iconst (v := 3) C dX8_take_96 (by decide) ?_
              refine V_icmp_ge (tgt := 129) C dX8_take_97 (by decide) (fun zh97 => ?_) (fun zh97 => ?_)
              · exact absurd zh97 (by decide)
              · refine V_aload_n C dX8_take_100 rfl 3 rfl ?_
                refine V_get (v := .ref (h 4)) C dX8_take_101 hi8 0 rfl rfl 3 (by decide) (List.mem_of_getElem? (i := 7) rfl) rfl rfl ?_
                refine V_bipush (v := 120) C dX8_take_104 (by decide) ?_
                refine V_iconst (v := 3) C dX8_take_106 (by decide) ?_
                refine V_iload_n C dX8_take_107 rfl 1 rfl ?_
                refine V_imul C dX8_take_108 ?_
                refine V_iadd C dX8_take_109 ?_
                refine V_iload_n C dX8_take_110 rfl 0 rfl ?_
                refine V_iadd C dX8_take_111 ?_
                refine V_aload_n C dX8_take_112 rfl 3 rfl ?_
                refine V_get (v := .ref (h 4)) C dX8_take_113 hi8 0 rfl rfl 3 (by decide) (List.mem_of_getElem? (i := 7) rfl) rfl rfl ?_
                refine V_iconst (v := 3) C dX8_take_116 (by decide) ?_
                refine V_iload_n C dX8_take_117 rfl 1 rfl ?_
                refine V_imul C dX8_take_118 ?_
                refine V_iload_n C dX8_take_119 rfl 0 rfl ?_
                refine V_iadd C dX8_take_120 ?_
                refine V_ialdn (v := (ga (sa (sz (sa (sa (mCp (si (si (si v 5 0) 0 0) 6 (nI d)) j) 1 (40 + j) (ga v 1 j)) 2 (40 + j) (ga v 2 j)) 4 (40 + j) (gz v 4 j)) 3 (120 + 3 * j) (ga v 3 (3 * j))) 3 (3 * j + 1))) C dX8_take_121 3 0 rfl rfl (3 * j + 1) (ix3 j rfl 1 1 rfl (by omega)).1 ((ix3 j rfl 1 1 rfl (by omega)).2) (by first | rfl | (simp (disch := omega) only [ga_sa_ne, ga_sa_eq, ga_si, ga_sb, ga_sz, ga_sl])) ?_
                rw [show (ga (sa (sz (sa (sa (mCp (si (si (si v 5 0) 0 0) 6 (nI d)) j) 1 (40 + j) (ga v 1 j)) 2 (40 + j) (ga v 2 j)) 4 (40 + j) (gz v 4 j)) 3 (120 + 3 * j) (ga v 3 (3 * j))) 3 (3 * j + 1)) = (ga v 3 (3 * j + 1)) by first | exact ga_mCp3 _ (by omega) | (simp (disch := omega) only [ga_sa_ne, gz_sz_ne, ga_sz, gz_sa, ga_sa_nk, ga_sa_eq]; exact ga_mCp3 _ (by omega))]
                refine V_iastn (ws' := (mw K h (sa (sa (sz (sa (sa (mCp (si (si (si v 5 0) 0 0) 6 (nI d)) j) 1 (40 + j) (ga v 1 j)) 2 (40 + j) (ga v 2 j)) 4 (40 + j) (gz v 4 j)) 3 (120 + 3 * j) (ga v 3 (3 * j))) 3 (120 + 3 * j + 1) (ga v 3 (3 * j + 1))))) C dX8_take_122 3 0 rfl rfl (120 + 3 * j + 1) (ix120 j 1 1 rfl (by omega)).1 ((ix120 j 1 1 rfl (by omega)).2) (ms_3 K h (sa (sz (sa (sa (mCp (si (si (si v 5 0) 0 0) 6 (nI d)) j) 1 (40 + j) (ga v 1 j)) 2 (40 + j) (ga v 2 j)) 4 (40 + j) (gz v 4 j)) 3 (120 + 3 * j) (ga v 3 (3 * j))) (120 + 3 * j + 1) (ga v 3 (3 * j + 1))) ?_
                refine V_iinc (lv' := [(3, .int 2), (2, .int (nI j)), (1, .int (nI d)), (0, .ref (h 0))]) C dX8_take_123 (j := 0) rfl (by decide) (by decide) rfl ?_
                refine V_goto (tgt := 95) C dX8_take_126 (by decide) ?_
                refine V_iload_n C dX8_take_95 rfl 0 rfl ?_
                refine V_iconst (v := 3) C dX8_take_96 (by decide) ?_
                refine V_icmp_ge (tgt := 129) C dX8_take_97 (by decide) (fun zh97 => ?_) (fun zh97 => ?_)
                · exact absurd zh97 (by decide)
                · refine V_aload_n C dX8_take_100 rfl 3 rfl ?_
                  refine V_get (v := .ref (h 4)) C dX8_take_101 hi8 0 rfl rfl 3 (by decide) (List.mem_of_getElem? (i := 7) rfl) rfl rfl ?_
                  refine V_bipush (v := 120) C dX8_take_104 (by decide) ?_
                  refine V_iconst (v := 3) C dX8_take_106 (by decide) ?_
                  refine V_iload_n C dX8_take_107 rfl 1 rfl ?_
                  refine V_imul C dX8_take_108 ?_
                  refine V_iadd C dX8_take_109 ?_
                  refine V_iload_n C dX8_take_110 rfl 0 rfl ?_
                  refine V_iadd C dX8_take_111 ?_
                  refine V_aload_n C dX8_take_112 rfl 3 rfl ?_
                  refine V_get (v := .ref (h 4)) C dX8_take_113 hi8 0 rfl rfl 3 (by decide) (List.mem_of_getElem? (i := 7) rfl) rfl rfl ?_
                  refine V_iconst (v := 3) C dX8_take_116 (by decide) ?_
                  refine V_iload_n C dX8_take_117 rfl 1 rfl ?_
                  refine V_imul C dX8_take_118 ?_
                  refine V_iload_n C dX8_take_119 rfl 0 rfl ?_
                  refine V_iadd C dX8_take_120 ?_
                  refine V_ialdn (v := (ga (sa (sa (sz (sa (sa (mCp (si (si (si v 5 0) 0 0) 6 (nI d)) j) 1 (40 + j) (ga v 1 j)) 2 (40 + j) (ga v 2 j)) 4 (40 + j) (gz v 4 j)) 3 (120 + 3 * j) (ga v 3 (3 * j))) 3 (120 + 3 * j + 1) (ga v 3 (3 * j + 1))) 3 (3 * j + 2))) C dX8_take_121 3 0 rfl rfl (3 * j + 2) (ix3 j rfl 2 2 rfl (by omega)).1 ((ix3 j rfl 2 2 rfl (by omega)).2) (by first | rfl | (simp (disch := omega) only [ga_sa_ne, ga_sa_eq, ga_si, ga_sb, ga_sz, ga_sl])) ?_
                  rw [show (ga (sa (sa (sz (sa (sa (mCp (si (si (si v 5 0) 0 0) 6 (nI d)) j) 1 (40 + j) (ga v 1 j)) 2 (40 + j) (ga v 2 j)) 4 (40 + j) (gz v 4 j)) 3 (120 + 3 * j) (ga v 3 (3 * j))) 3 (120 + 3 * j + 1) (ga v 3 (3 * j + 1))) 3 (3 * j + 2)) = (ga v 3 (3 * j + 2)) by first | exact ga_mCp3 _ (by omega) | (simp (disch := omega) only [ga_sa_ne, gz_sz_ne, ga_sz, gz_sa, ga_sa_nk, ga_sa_eq]; exact ga_mCp3 _ (by omega))]
                  refine V_iastn (ws' := (mw K h (sa (sa (sa (sz (sa (sa (mCp (si (si (si v 5 0) 0 0) 6 (nI d)) j) 1 (40 + j) (ga v 1 j)) 2 (40 + j) (ga v 2 j)) 4 (40 + j) (gz v 4 j)) 3 (120 + 3 * j) (ga v 3 (3 * j))) 3 (120 + 3 * j + 1) (ga v 3 (3 * j + 1))) 3 (120 + 3 * j + 2) (ga v 3 (3 * j + 2))))) C dX8_take_122 3 0 rfl rfl (120 + 3 * j + 2) (ix120 j 2 2 rfl (by omega)).1 ((ix120 j 2 2 rfl (by omega)).2) (ms_3 K h (sa (sa (sz (sa (sa (mCp (si (si (si v 5 0) 0 0) 6 (nI d)) j) 1 (40 + j) (ga v 1 j)) 2 (40 + j) (ga v 2 j)) 4 (40 + j) (gz v 4 j)) 3 (120 + 3 * j) (ga v 3 (3 * j))) 3 (120 + 3 * j + 1) (ga v 3 (3 * j + 1))) (120 + 3 * j + 2) (ga v 3 (3 * j + 2))) ?_
                  refine V_iinc (lv' := [(3, .int 3), (2, .int (nI j)), (1, .int (nI d)), (0, .ref (h 0))]) C dX8_take_123 (j := 0) rfl (by decide) (by decide) rfl ?_
                  refine V_goto (tgt := 95) C dX8_take_126 (by decide) ?_
                  refine V_iload_n C dX8_take_95 rfl 0 rfl ?_
                  refine V_iconst (v := 3) C dX8_take_96 (by decide) ?_
                  refine V_icmp_ge (tgt := 129) C dX8_take_97 (by decide) (fun zh97 => ?_) (fun zh97 => ?_)
                  · refine V_iinc (lv' := [(2, .int (nI (j + 1))), (3, .int 3), (1, .int (nI d)), (0, .ref (h 0))]) C dX8_take_129 (j := 1) rfl (nI_1 _) (by decide) rfl ?_
                    refine V_goto (tgt := 43) C dX8_take_132 (by decide) ?_
                    exact V_ws (congrArg (mw K h) (mCp_succ _)) (V_sub [0, 2, 3] rfl (ih (j + 1) (by omega) (by omega)))
                  · exact absurd zh97 (by decide)
      exact V_ws (congrArg (mw K h) (mCp_0 _).symm) (zl d 0 (by omega) (by omega))
    refine V_iconst (v := 0) C dX8_take_135 (by decide) ?_
    refine V_istore_n (lv' := [(2, .int 0), (1, .int (nI d)), (0, .ref (h 0))]) C dX8_take_136 rfl (by decide) rfl ?_
    suffices zx : V X 0 0 (mw K h (zfl (mCp (si (si (si v 5 0) 0 0) 6 (nI d)) d) 17 0 120 0)) 156 [(1, .int (nI d)), (0, .ref (h 0))] [] by
      have zl : ∀ (m j : Nat), 0 ≤ j → j ≤ 120 → 120 - j = m → V X 0 0 (mw K h (zfl (mCp (si (si (si v 5 0) 0 0) 6 (nI d)) d) 17 0 j 0)) 137 [(2, .int (nI j)), (1, .int (nI d)), (0, .ref (h 0))] [] := by
        intro m
        induction m with
        | zero =>
          intro j hj hj2 hjm
          refine V_iload_n C dX8_take_137 rfl 0 rfl ?_
          refine V_bipush (v := 120) C dX8_take_138 (by decide) ?_
          refine V_icmp_ge (tgt := 156) C dX8_take_140 (by decide) (fun zh140 => ?_) (fun zh140 => ?_)
          · have zj : j = 120 := by omega
            subst zj
            exact V_sub [1, 2] rfl zx
          · exact absurd (nI_le (a := 120) (b := j) (by omega) (by omega)) zh140
        | succ m ih =>
          intro j hj hj2 hjm
          refine V_iload_n C dX8_take_137 rfl 0 rfl ?_
          refine V_bipush (v := 120) C dX8_take_138 (by decide) ?_
          refine V_icmp_ge (tgt := 156) C dX8_take_140 (by decide) (fun zh140 => ?_) (fun zh140 => ?_)
          · exact absurd zh140 (nI_ge (a := j) (b := 120) (by omega) (by omega))
          · refine V_aload_n C dX8_take_143 rfl 2 rfl ?_
            refine V_get (v := .ref (h 18)) C dX8_take_144 hi8 0 rfl rfl 17 (by decide) (List.mem_of_getElem? (i := 8) rfl) rfl rfl ?_
            refine V_iload_n C dX8_take_147 rfl 0 rfl ?_
            refine V_lconst (v := 0) C dX8_take_148 (by decide) ?_
            refine V_lastn (ws' := (mw K h (sl (zfl (mCp (si (si (si v 5 0) 0 0) 6 (nI d)) d) 17 0 j 0) 17 (j) 0))) C dX8_take_149 9 1 rfl rfl (j) (nI_clamp (by omega)) (vp_in_nI (by omega) (by omega)) (ms_17 K h (zfl (mCp (si (si (si v 5 0) 0 0) 6 (nI d)) d) 17 0 j 0) (j) 0) ?_
            refine V_iinc (lv' := [(2, .int (nI (j + 1))), (1, .int (nI d)), (0, .ref (h 0))]) C dX8_take_150 (j := 0) rfl (nI_1 _) (by decide) rfl ?_
            refine V_goto (tgt := 137) C dX8_take_153 (by decide) ?_
            exact V_ws (congrArg (mw K h) (zfl_succ _ _ _ _ _ hj)) (V_sub [0, 1, 2] rfl (ih (j + 1) (by omega) (by omega) (by omega)))
      exact V_ws (congrArg (mw K h) (zfl_id _ _ _ _).symm) (zl 120 0 (by omega) (by omega) (by omega))
    refine V_iconst (v := 1) C dX8_take_156 (by decide) ?_
    refine V_istore_n (lv' := [(2, .int 1), (1, .int (nI d)), (0, .ref (h 0))]) C dX8_take_157 rfl (by decide) rfl ?_
    suffices zx : V X 0 0 (mw K h (zfz (zfl (mCp (si (si (si v 5 0) 0 0) 6 (nI d)) d) 17 0 120 0) 20 1 16 false)) 177 [(1, .int (nI d)), (0, .ref (h 0))] [] by
      have zl : ∀ (m j : Nat), 1 ≤ j → j ≤ 16 → 16 - j = m → V X 0 0 (mw K h (zfz (zfl (mCp (si (si (si v 5 0) 0 0) 6 (nI d)) d) 17 0 120 0) 20 1 j false)) 158 [(2, .int (nI j)), (1, .int (nI d)), (0, .ref (h 0))] [] := by
        intro m
        induction m with
        | zero =>
          intro j hj hj2 hjm
          refine V_iload_n C dX8_take_158 rfl 0 rfl ?_
          refine V_bipush (v := 16) C dX8_take_159 (by decide) ?_
          refine V_icmp_ge (tgt := 177) C dX8_take_161 (by decide) (fun zh161 => ?_) (fun zh161 => ?_)
          · have zj : j = 16 := by omega
            subst zj
            exact V_sub [1, 2] rfl zx
          · exact absurd (nI_le (a := 16) (b := j) (by omega) (by omega)) zh161
        | succ m ih =>
          intro j hj hj2 hjm
          refine V_iload_n C dX8_take_158 rfl 0 rfl ?_
          refine V_bipush (v := 16) C dX8_take_159 (by decide) ?_
          refine V_icmp_ge (tgt := 177) C dX8_take_161 (by decide) (fun zh161 => ?_) (fun zh161 => ?_)
          · exact absurd zh161 (nI_ge (a := j) (b := 16) (by omega) (by omega))
          · refine V_aload_n C dX8_take_164 rfl 2 rfl ?_
            refine V_get (v := .ref (h 21)) C dX8_take_165 hi8 0 rfl rfl 20 (by decide) (List.mem_of_getElem? (i := 9) rfl) rfl rfl ?_
            refine V_iload_n C dX8_take_168 rfl 0 rfl ?_
            refine V_iconst (v := 0) C dX8_take_169 (by decide) ?_
            refine V_zastn (ws' := (mw K h (sz (zfz (zfl (mCp (si (si (si v 5 0) 0 0) 6 (nI d)) d) 17 0 120 0) 20 1 j false) 20 (j) false))) C dX8_take_170 12 2 rfl rfl (j) (nI_clamp (by omega)) (vp_in_nI (by omega) (by omega)) (ms_20 K h (zfz (zfl (mCp (si (si (si v 5 0) 0 0) 6 (nI d)) d) 17 0 120 0) 20 1 j false) (j) false) ?_
            refine V_iinc (lv' := [(2, .int (nI (j + 1))), (1, .int (nI d)), (0, .ref (h 0))]) C dX8_take_171 (j := 0) rfl (nI_1 _) (by decide) rfl ?_
            refine V_goto (tgt := 158) C dX8_take_174 (by decide) ?_
            exact V_ws (congrArg (mw K h) (zfz_succ _ _ _ _ _ hj)) (V_sub [0, 1, 2] rfl (ih (j + 1) (by omega) (by omega) (by omega)))
      exact V_ws (congrArg (mw K h) (zfz_id _ _ _ _).symm) (zl 15 1 (by omega) (by omega) (by omega))
    refine V_iconst (v := 0) C dX8_take_177 (by decide) ?_
    refine V_istore_n (lv' := [(2, .int 0), (1, .int (nI d)), (0, .ref (h 0))]) C dX8_take_178 rfl (by decide) rfl ?_
    suffices zx : V X 0 0 (mw K h (zfa (zfz (zfl (mCp (si (si (si v 5 0) 0 0) 6 (nI d)) d) 17 0 120 0) 20 1 16 false) 25 0 6 0)) 198 [(1, .int (nI d)), (0, .ref (h 0))] [] by
      have zl : ∀ (m j : Nat), 0 ≤ j → j ≤ 6 → 6 - j = m → V X 0 0 (mw K h (zfa (zfz (zfl (mCp (si (si (si v 5 0) 0 0) 6 (nI d)) d) 17 0 120 0) 20 1 16 false) 25 0 j 0)) 179 [(2, .int (nI j)), (1, .int (nI d)), (0, .ref (h 0))] [] := by
        intro m
        induction m with
        | zero =>
          intro j hj hj2 hjm
          refine V_iload_n C dX8_take_179 rfl 0 rfl ?_
          refine V_bipush (v := 6) C dX8_take_180 (by decide) ?_
          refine V_icmp_ge (tgt := 198) C dX8_take_182 (by decide) (fun zh182 => ?_) (fun zh182 => ?_)
          · have zj : j = 6 := by omega
            subst zj
            exact V_sub [1, 2] rfl zx
          · exact absurd (nI_le (a := 6) (b := j) (by omega) (by omega)) zh182
        | succ m ih =>
          intro j hj hj2 hjm
          refine V_iload_n C dX8_take_179 rfl 0 rfl ?_
          refine V_bipush (v := 6) C dX8_take_180 (by decide) ?_
          refine V_icmp_ge (tgt := 198) C dX8_take_182 (by decide) (fun zh182 => ?_) (fun zh182 => ?_)
          · exact absurd zh182 (nI_ge (a := j) (b := 6) (by omega) (by omega))
          · refine V_aload_n C dX8_take_185 rfl 2 rfl ?_
            refine V_get (v := .ref (h 26)) C dX8_take_186 hi8 0 rfl rfl 25 (by decide) (List.mem_of_getElem? (i := 10) rfl) rfl rfl ?_
            refine V_iload_n C dX8_take_189 rfl 0 rfl ?_
            refine V_iconst (v := 0) C dX8_take_190 (by decide) ?_
            refine V_iastn (ws' := (mw K h (sa (zfa (zfz (zfl (mCp (si (si (si v 5 0) 0 0) 6 (nI d)) d) 17 0 120 0) 20 1 16 false) 25 0 j 0) 25 (j) 0))) C dX8_take_191 13 0 rfl rfl (j) (nI_clamp (by omega)) (vp_in_nI (by omega) (by omega)) (ms_25 K h (zfa (zfz (zfl (mCp (si (si (si v 5 0) 0 0) 6 (nI d)) d) 17 0 120 0) 20 1 16 false) 25 0 j 0) (j) 0) ?_
            refine V_iinc (lv' := [(2, .int (nI (j + 1))), (1, .int (nI d)), (0, .ref (h 0))]) C dX8_take_192 (j := 0) rfl (nI_1 _) (by decide) rfl ?_
            refine V_goto (tgt := 179) C dX8_take_195 (by decide) ?_
            exact V_ws (congrArg (mw K h) (zfa_succ _ _ _ _ _ hj)) (V_sub [0, 1, 2] rfl (ih (j + 1) (by omega) (by omega) (by omega)))
      exact V_ws (congrArg (mw K h) (zfa_id _ _ _ _).symm) (zl 6 0 (by omega) (by omega) (by omega))
    refine V_aload_n C dX8_take_198 rfl 1 rfl ?_
    refine V_iconst (v := 0) C dX8_take_199 (by decide) ?_
    refine V_put (ws' := (mw K h (si (zfa (zfz (zfl (mCp (si (si (si v 5 0) 0 0) 6 (nI d)) d) 17 0 120 0) 20 1 16 false) 25 0 6 0) 21 0))) C dX8_take_200 hi8 tyX8_ok nmX8 0 rfl rfl 21 (by decide) (List.mem_of_getElem? (i := 11) rfl) rfl rfl rfl rfl rfl (Nat.le_of_ble_eq_true rfl) (ms_21 K h (zfa (zfz (zfl (mCp (si (si (si v 5 0) 0 0) 6 (nI d)) d) 17 0 120 0) 20 1 16 false) 25 0 6 0) 0) ?_
    refine V_aload_n C dX8_take_203 rfl 1 rfl ?_
    refine V_iconst (v := 0) C dX8_take_204 (by decide) ?_
    refine V_put (ws' := (mw K h (si (si (zfa (zfz (zfl (mCp (si (si (si v 5 0) 0 0) 6 (nI d)) d) 17 0 120 0) 20 1 16 false) 25 0 6 0) 21 0) 22 0))) C dX8_take_205 hi8 tyX8_ok nmX8 0 rfl rfl 22 (by decide) (List.mem_of_getElem? (i := 12) rfl) rfl rfl rfl rfl rfl (Nat.le_of_ble_eq_true rfl) (ms_22 K h (si (zfa (zfz (zfl (mCp (si (si (si v 5 0) 0 0) 6 (nI d)) d) 17 0 120 0) 20 1 16 false) 25 0 6 0) 21 0) 0) ?_
    refine V_aload_n C dX8_take_208 rfl 1 rfl ?_
    refine V_iconst (v := 0) C dX8_take_209 (by decide) ?_
    refine V_put (ws' := (mw K h (si (si (si (zfa (zfz (zfl (mCp (si (si (si v 5 0) 0 0) 6 (nI d)) d) 17 0 120 0) 20 1 16 false) 25 0 6 0) 21 0) 22 0) 23 0))) C dX8_take_210 hi8 tyX8_ok nmX8 0 rfl rfl 23 (by decide) (List.mem_of_getElem? (i := 13) rfl) rfl rfl rfl rfl rfl (Nat.le_of_ble_eq_true rfl) (ms_23 K h (si (si (zfa (zfz (zfl (mCp (si (si (si v 5 0) 0 0) 6 (nI d)) d) 17 0 120 0) 20 1 16 false) 25 0 6 0) 21 0) 22 0) 0) ?_
    refine V_aload_n C dX8_take_213 rfl 1 rfl ?_
    refine V_iconst (v := 0) C dX8_take_214 (by decide) ?_
    refine V_put (ws' := (mw K h (si (si (si (si (zfa (zfz (zfl (mCp (si (si (si v 5 0) 0 0) 6 (nI d)) d) 17 0 120 0) 20 1 16 false) 25 0 6 0) 21 0) 22 0) 23 0) 24 0))) C dX8_take_215 hi8 tyX8_ok nmX8 0 rfl rfl 24 (by decide) (List.mem_of_getElem? (i := 14) rfl) rfl rfl rfl rfl rfl (Nat.le_of_ble_eq_true rfl) (ms_24 K h (si (si (si (zfa (zfz (zfl (mCp (si (si (si v 5 0) 0 0) 6 (nI d)) d) 17 0 120 0) 20 1 16 false) 25 0 6 0) 21 0) 22 0) 23 0) 0) ?_
    refine V_aload_n C dX8_take_218 rfl 1 rfl ?_
    refine V_iconst (v := 0) C dX8_take_219 (by decide) ?_
    refine V_put (ws' := (mw K h (si (si (si (si (si (zfa (zfz (zfl (mCp (si (si (si v 5 0) 0 0) 6 (nI d)) d) 17 0 120 0) 20 1 16 false) 25 0 6 0) 21 0) 22 0) 23 0) 24 0) 26 0))) C dX8_take_220 hi8 tyX8_ok nmX8 0 rfl rfl 26 (by decide) (List.mem_of_getElem? (i := 15) rfl) rfl rfl rfl rfl rfl (Nat.le_of_ble_eq_true rfl) (ms_26 K h (si (si (si (si (zfa (zfz (zfl (mCp (si (si (si v 5 0) 0 0) 6 (nI d)) d) 17 0 120 0) 20 1 16 false) 25 0 6 0) 21 0) 22 0) 23 0) 24 0) 0) ?_
    refine V_aload_n C dX8_take_223 rfl 1 rfl ?_
    refine V_iconst (v := 0) C dX8_take_224 (by decide) ?_
    refine V_put (ws' := (mw K h (si (si (si (si (si (si (zfa (zfz (zfl (mCp (si (si (si v 5 0) 0 0) 6 (nI d)) d) 17 0 120 0) 20 1 16 false) 25 0 6 0) 21 0) 22 0) 23 0) 24 0) 26 0) 27 0))) C dX8_take_225 hi8 tyX8_ok nmX8 0 rfl rfl 27 (by decide) (List.mem_of_getElem? (i := 16) rfl) rfl rfl rfl rfl rfl (Nat.le_of_ble_eq_true rfl) (ms_27 K h (si (si (si (si (si (zfa (zfz (zfl (mCp (si (si (si v 5 0) 0 0) 6 (nI d)) d) 17 0 120 0) 20 1 16 false) 25 0 6 0) 21 0) 22 0) 23 0) 24 0) 26 0) 0) ?_
    refine V_aload_n C dX8_take_228 rfl 1 rfl ?_
    refine V_iconst (v := 0) C dX8_take_229 (by decide) ?_
    refine V_put (ws' := (mw K h (si (si (si (si (si (si (si (zfa (zfz (zfl (mCp (si (si (si v 5 0) 0 0) 6 (nI d)) d) 17 0 120 0) 20 1 16 false) 25 0 6 0) 21 0) 22 0) 23 0) 24 0) 26 0) 27 0) 28 0))) C dX8_take_230 hi8 tyX8_ok nmX8 0 rfl rfl 28 (by decide) (List.mem_of_getElem? (i := 17) rfl) rfl rfl rfl rfl rfl (Nat.le_of_ble_eq_true rfl) (ms_28 K h (si (si (si (si (si (si (zfa (zfz (zfl (mCp (si (si (si v 5 0) 0 0) 6 (nI d)) d) 17 0 120 0) 20 1 16 false) 25 0 6 0) 21 0) 22 0) 23 0) 24 0) 26 0) 27 0) 0) ?_
    refine V_aload_n C dX8_take_233 rfl 1 rfl ?_
    refine V_iconst (v := 0) C dX8_take_234 (by decide) ?_
    refine V_put (ws' := (mw K h (si (si (si (si (si (si (si (si (zfa (zfz (zfl (mCp (si (si (si v 5 0) 0 0) 6 (nI d)) d) 17 0 120 0) 20 1 16 false) 25 0 6 0) 21 0) 22 0) 23 0) 24 0) 26 0) 27 0) 28 0) 29 0))) C dX8_take_235 hi8 tyX8_ok nmX8 0 rfl rfl 29 (by decide) (List.mem_of_getElem? (i := 18) rfl) rfl rfl rfl rfl rfl (Nat.le_of_ble_eq_true rfl) (ms_29 K h (si (si (si (si (si (si (si (zfa (zfz (zfl (mCp (si (si (si v 5 0) 0 0) 6 (nI d)) d) 17 0 120 0) 20 1 16 false) 25 0 6 0) 21 0) 22 0) 23 0) 24 0) 26 0) 27 0) 28 0) 0) ?_
    refine V_aload_n C dX8_take_238 rfl 1 rfl ?_
    refine V_iconst (v := 0) C dX8_take_239 (by decide) ?_
    refine V_put (ws' := (mw K h (sb (si (si (si (si (si (si (si (si (zfa (zfz (zfl (mCp (si (si (si v 5 0) 0 0) 6 (nI d)) d) 17 0 120 0) 20 1 16 false) 25 0 6 0) 21 0) 22 0) 23 0) 24 0) 26 0) 27 0) 28 0) 29 0) 30 false))) C dX8_take_240 hi8 tyX8_ok nmX8 0 rfl rfl 30 (by decide) (List.mem_of_getElem? (i := 19) rfl) rfl rfl rfl rfl rfl (Nat.le_of_ble_eq_true rfl) (ms_30 K h (si (si (si (si (si (si (si (si (zfa (zfz (zfl (mCp (si (si (si v 5 0) 0 0) 6 (nI d)) d) 17 0 120 0) 20 1 16 false) 25 0 6 0) 21 0) 22 0) 23 0) 24 0) 26 0) 27 0) 28 0) 29 0) false) ?_
    refine V_aload_n C dX8_take_243 rfl 1 rfl ?_
    refine V_get (v := .int (gi (zfa (zfz (zfl (mCp (si (si (si v 5 0) 0 0) 6 (nI d)) d) 17 0 120 0) 20 1 16 false) 25 0 6 0) 9)) C dX8_take_244 hi8 0 rfl rfl 9 (by decide) (List.mem_of_getElem? (i := 20) rfl) rfl rfl ?_
    exact E (gi (zfa (zfz (zfl (mCp (si (si (si v 5 0) 0 0) 6 (nI d)) d) 17 0 120 0) 20 1 16 false) 25 0 6 0) 9) (sb (si (si (si (si (si (si (si (si (zfa (zfz (zfl (mCp (si (si (si v 5 0) 0 0) 6 (nI d)) d) 17 0 120 0) 20 1 16 false) 25 0 6 0) 21 0) 22 0) 23 0) 24 0) 26 0) 27 0) 28 0) 29 0) 30 false) _ _ dX8_take_247 rfl ⟨by rw [if_neg (of_decide_eq_false (e_xt.symm.trans zh31))]; rfl, by rw [if_neg (of_decide_eq_false (e_xt.symm.trans zh31))]; rfl⟩
  · refine V_iconst (v := 0) C dX8_take_34 (by decide) ?_
    exact E 0 (si (si v 5 0) 0 (mThr xt false)) _ _ dX8_take_35 rfl ⟨by rw [if_pos (of_decide_eq_true (e_xt.symm.trans zh31))], by rw [if_pos (of_decide_eq_true (e_xt.symm.trans zh31)), zh31]; rfl⟩

