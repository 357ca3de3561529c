def fa (u : MS) (k : Nat) (f : Nat → Int32) : MS := (u.1, u.2.1, fun b => if b = k then f else u.2.2.1 b, u.2.2.2)
def fz (u : MS) (k : Nat) (f : Nat → Bool) : MS := (u.1, u.2.1, u.2.2.1, fun b => if b = k then f else u.2.2.2.1 b, u.2.2.2.2)
def fl (u : MS) (k : Nat) (f : Nat → Int64) : MS := (u.1, u.2.1, u.2.2.1, u.2.2.2.1, fun b => if b = k then f else u.2.2.2.2 b)
theorem MS_ext {u v : MS} (h1 : ∀ k, gi u k = gi v k) (h2 : ∀ k, gb u k = gb v k) (h3 : ∀ k n, ga u k n = ga v k n) (h4 : ∀ k n, gz u k n = gz v k n) (h5 : ∀ k n, gl u k n = gl v k n) : u = v := by
  obtain ⟨a, b, c, d, e⟩ := u
  obtain ⟨a', b', c', d', e'⟩ := v
  have e1 : a = a' := funext h1
  have e2 : b = b' := funext h2
  have e3 : c = c' := funext fun k => funext (h3 k)
  have e4 : d = d' := funext fun k => funext (h4 k)
  have e5 : e = e' := funext fun k => funext (h5 k)
  subst e1; subst e2; subst e3; subst e4; subst e5; rfl
theorem ga_fa (u : MS) (k j n : Nat) (f : Nat → Int32) : ga (fa u k f) j n = if j = k then f n else ga u j n := by
  simp only [ga, fa]; split <;> rfl
theorem gz_fz (u : MS) (k j n : Nat) (f : Nat → Bool) : gz (fz u k f) j n = if j = k then f n else gz u j n := by
  simp only [gz, fz]; split <;> rfl
theorem gl_fl (u : MS) (k j n : Nat) (f : Nat → Int64) : gl (fl u k f) j n = if j = k then f n else gl u j n := by
  simp only [gl, fl]; split <;> rfl
theorem gi_fa (u : MS) (k j : Nat) (f : Nat → Int32) : gi (fa u k f) j = gi u j := rfl
theorem gb_fa (u : MS) (k j : Nat) (f : Nat → Int32) : gb (fa u k f) j = gb u j := rfl
theorem gz_fa (u : MS) (k j n : Nat) (f : Nat → Int32) : gz (fa u k f) j n = gz u j n := rfl
theorem gl_fa (u : MS) (k j n : Nat) (f : Nat → Int32) : gl (fa u k f) j n = gl u j n := rfl
theorem gi_fz (u : MS) (k j : Nat) (f : Nat → Bool) : gi (fz u k f) j = gi u j := rfl
theorem gb_fz (u : MS) (k j : Nat) (f : Nat → Bool) : gb (fz u k f) j = gb u j := rfl
theorem ga_fz (u : MS) (k j n : Nat) (f : Nat → Bool) : ga (fz u k f) j n = ga u j n := rfl
theorem gl_fz (u : MS) (k j n : Nat) (f : Nat → Bool) : gl (fz u k f) j n = gl u j n := rfl
theorem gi_fl (u : MS) (k j : Nat) (f : Nat → Int64) : gi (fl u k f) j = gi u j := rfl
theorem gb_fl (u : MS) (k j : Nat) (f : Nat → Int64) : gb (fl u k f) j = gb u j := rfl
theorem ga_fl (u : MS) (k j n : Nat) (f : Nat → Int64) : ga (fl u k f) j n = ga u j n := rfl
theorem gz_fl (u : MS) (k j n : Nat) (f : Nat → Int64) : gz (fl u k f) j n = gz u j n := rfl
/-- the row's places a .. b - 1 empty -/
def mZ (u : MS) (a b : Nat) : MS := fz (fl u 15 (fun i => if a ≤ i ∧ i < b then 0 else gl u 15 i)) 16 (fun i => if a ≤ i ∧ i < b then false else gz u 16 i)
theorem mZ_id (u : MS) {a b : Nat} (h : b ≤ a) : mZ u a b = u := by
  have hn : ∀ i : Nat, ¬ (a ≤ i ∧ i < b) := fun i q => by omega
  refine MS_ext (fun k => rfl) (fun k => rfl) (fun k n => rfl) (fun k n => ?_) (fun k n => ?_)
  · unfold mZ; rw [gz_fz, gz_fl, if_neg (hn n)]; split
    · rename_i q; rw [q]
    · rfl
  · unfold mZ; rw [gl_fz, gl_fl, if_neg (hn n)]; split
    · rename_i q; rw [q]
    · rfl
theorem mZ_succ (u : MS) {a b : Nat} (h : a ≤ b) : sz (sl (mZ u a b) 15 b 0) 16 b false = mZ u a (b + 1) := by
  refine MS_ext (fun k => rfl) (fun k => rfl) (fun k n => rfl) (fun k n => ?_) (fun k n => ?_)
  · unfold mZ; simp only [gi_si, gi_sb, gi_sa, gi_sz, gi_sl, gi_fa, gi_fz, gi_fl, gb_si, gb_sb, gb_sa, gb_sz, gb_sl, gb_fa, gb_fz, gb_fl, ga_si, ga_sb, ga_sa, ga_sz, ga_sl, ga_fa, ga_fz, ga_fl, gz_si, gz_sb, gz_sa, gz_sz, gz_sl, gz_fa, gz_fz, gz_fl, gl_si, gl_sb, gl_sa, gl_sz, gl_sl, gl_fa, gl_fz, gl_fl]
    by_cases hk : k = 16
    · subst hk; by_cases hn : n = b
      · subst hn; simp [h]
      · simp only [hn, and_false, if_false, if_true]; congr 1; apply propext; omega
    · simp [hk]
  · unfold mZ; simp only [gi_si, gi_sb, gi_sa, gi_sz, gi_sl, gi_fa, gi_fz, gi_fl, gb_si, gb_sb, gb_sa, gb_sz, gb_sl, gb_fa, gb_fz, gb_fl, ga_si, ga_sb, ga_sa, ga_sz, ga_sl, ga_fa, ga_fz, ga_fl, gz_si, gz_sb, gz_sa, gz_sz, gz_sl, gz_fa, gz_fz, gz_fl, gl_si, gl_sb, gl_sa, gl_sz, gl_sl, gl_fa, gl_fz, gl_fl]
    by_cases hk : k = 15
    · subst hk; by_cases hn : n = b
      · subst hn; simp [h]
      · simp only [hn, and_false, if_false, if_true]; congr 1; apply propext; omega
    · simp [hk]
theorem mZ_end (u : MS) {a j b : Nat} (h1 : a ≤ j) (h2 : j ≤ b ∨ j = a) (h3 : b ≤ j) : mZ u a j = mZ u a b := by
  rcases h2 with h2 | h2
  · rw [show j = b by omega]
  · subst h2; rw [mZ_id u (Nat.le_refl j), mZ_id u h3]
/-- the row's places a .. b - 1 spilled -/
def mSp (u : MS) (a b : Nat) : MS := si (si (fl u 17 (fun i => if a ≤ i ∧ i < b then gl u 15 i else gl u 17 i)) 21 (nI b)) 23 (gi u 23 + nI (b - a))
theorem mSp_self (u : MS) {a : Nat} (h : gi u 21 = nI a) : mSp u a a = u := by
  have hn : ∀ i : Nat, ¬ (a ≤ i ∧ i < a) := fun i q => by omega
  refine MS_ext (fun k => ?_) (fun k => rfl) (fun k n => rfl) (fun k n => rfl) (fun k n => ?_)
  · unfold mSp; simp only [gi_si, gi_sb, gi_sa, gi_sz, gi_sl, gi_fa, gi_fz, gi_fl, gb_si, gb_sb, gb_sa, gb_sz, gb_sl, gb_fa, gb_fz, gb_fl, ga_si, ga_sb, ga_sa, ga_sz, ga_sl, ga_fa, ga_fz, ga_fl, gz_si, gz_sb, gz_sa, gz_sz, gz_sl, gz_fa, gz_fz, gz_fl, gl_si, gl_sb, gl_sa, gl_sz, gl_sl, gl_fa, gl_fz, gl_fl]
    by_cases h2 : k = 23
    · subst h2; rw [if_pos rfl, Nat.sub_self, nI_0, Int32.add_zero]
    · rw [if_neg h2]; split
      · rename_i q; rw [q, h]
      · rfl
  · unfold mSp; simp only [gi_si, gi_sb, gi_sa, gi_sz, gi_sl, gi_fa, gi_fz, gi_fl, gb_si, gb_sb, gb_sa, gb_sz, gb_sl, gb_fa, gb_fz, gb_fl, ga_si, ga_sb, ga_sa, ga_sz, ga_sl, ga_fa, ga_fz, ga_fl, gz_si, gz_sb, gz_sa, gz_sz, gz_sl, gz_fa, gz_fz, gz_fl, gl_si, gl_sb, gl_sa, gl_sz, gl_sl, gl_fa, gl_fz, gl_fl]
    rw [if_neg (hn n)]; split
    · rename_i q; rw [q]
    · rfl
theorem mSp_succ (u : MS) {a b : Nat} (h : a ≤ b) : si (si (sl (mSp u a b) 17 b (gl (mSp u a b) 15 b)) 21 (nI b + 1)) 23 (gi u 23 + nI (b - a) + 1) = mSp u a (b + 1) := by
  refine MS_ext (fun k => ?_) (fun k => rfl) (fun k n => rfl) (fun k n => rfl) (fun k n => ?_)
  · unfold mSp; simp only [gi_si, gi_sb, gi_sa, gi_sz, gi_sl, gi_fa, gi_fz, gi_fl, gb_si, gb_sb, gb_sa, gb_sz, gb_sl, gb_fa, gb_fz, gb_fl, ga_si, ga_sb, ga_sa, ga_sz, ga_sl, ga_fa, ga_fz, ga_fl, gz_si, gz_sb, gz_sa, gz_sz, gz_sl, gz_fa, gz_fz, gz_fl, gl_si, gl_sb, gl_sa, gl_sz, gl_sl, gl_fa, gl_fz, gl_fl]
    by_cases h2 : k = 23
    · subst h2; rw [if_pos rfl, if_pos rfl, show b + 1 - a = (b - a) + 1 by omega, ← nI_1, Int32.add_assoc]
    · rw [if_neg h2, if_neg h2]; split
      · rw [nI_1]
      · rfl
  · unfold mSp; simp only [gi_si, gi_sb, gi_sa, gi_sz, gi_sl, gi_fa, gi_fz, gi_fl, gb_si, gb_sb, gb_sa, gb_sz, gb_sl, gb_fa, gb_fz, gb_fl, ga_si, ga_sb, ga_sa, ga_sz, ga_sl, ga_fa, ga_fz, ga_fl, gz_si, gz_sb, gz_sa, gz_sz, gz_sl, gz_fa, gz_fz, gz_fl, gl_si, gl_sb, gl_sa, gl_sz, gl_sl, gl_fa, gl_fz, gl_fl]
    by_cases hk : k = 17
    · subst hk; by_cases hn : n = b
      · subst hn; simp [h]
      · simp only [hn, and_false, if_false, if_true]; congr 1; apply propext; omega
    · simp [hk]
def mReach (u : MS) (H T L : Nat) : MS := mSp (si (mZ u H T) 22 (nI T)) L (max L (T - 24))
set_option maxHeartbeats 4000000 in
set_option maxRecDepth 100000 in
theorem c_X8_reach (l : Launch) (D : va_G) (K : Nat → ClassId) (h : Nat → Nat) (u : MS) (H T L : Nat) (hH : gi u 22 = nI H) (hL : gi u 21 = nI L) (hH2 : H ≤ 120) (hT2 : T ≤ 120) (hLT : L ≤ T) : vMv l D vwCl (tys0 K) yX8_reach wsX8_reach ({ frames := 0, cells := 0, slots := 0, locals := 0 } : Room) [.ref (h 0), .int (nI T)] (mw K h u) (mw K h) (fun u9 => u9 = (mReach u H T L)) := by
  refine vMv_of (cc := cX8_reach) (nL := 3) (by decide) rfl (Nat.le_of_ble_eq_true rfl) ?_
  intro X C E
  show V X 0 0 (mw K h u) 0 [(0, .ref (h 0)), (1, .int (nI T))] []
  have hi8 : ∀ w ∈ wsX80, w ∈ wsX8_reach := fun _ h => List.mem_cons_of_mem _ (List.mem_append_right _ h)
  refine V_aload_n C dX8_reach_0 rfl 0 rfl ?_
  refine V_get (v := .int (gi u 22)) C dX8_reach_1 hi8 0 rfl rfl 22 (by decide) (List.mem_of_getElem? (i := 1) rfl) rfl rfl ?_
  rw [hH]
  refine V_istore_n (lv' := [(2, .int (nI H)), (0, .ref (h 0)), (1, .int (nI T))]) C dX8_reach_4 rfl (by decide) rfl ?_
  suffices zx : V X 0 0 (mw K h (mZ u H T)) 30 [(0, .ref (h 0)), (1, .int (nI T))] [] by
    have zl : ∀ (n j : Nat), H ≤ j → (j ≤ T ∨ j = H) → T - j = n → V X 0 0 (mw K h (mZ u H j)) 5 [(2, .int (nI j)), (0, .ref (h 0)), (1, .int (nI T))] [] := by
      intro n
      induction n with
      | zero =>
        intro j hj hj2 hn
        refine V_iload_n C dX8_reach_5 rfl 0 rfl ?_
        refine V_iload_n C dX8_reach_6 rfl 2 rfl ?_
        refine V_icmp_ge (tgt := 30) C dX8_reach_7 (by decide) (fun zh7 => ?_) (fun zh7 => ?_)
        · exact V_ws (congrArg (mw K h) (mZ_end u hj hj2 (by omega))) (V_sub [1, 2] rfl zx)
        · exact absurd (nI_le (a := T) (b := j) (by omega) (by omega)) zh7
      | succ n ih =>
        intro j hj hj2 hn
        refine V_iload_n C dX8_reach_5 rfl 0 rfl ?_
        refine V_iload_n C dX8_reach_6 rfl 2 rfl ?_
        refine V_icmp_ge (tgt := 30) C dX8_reach_7 (by decide) (fun zh7 => ?_) (fun zh7 => ?_)
        · exact absurd zh7 (nI_ge (a := j) (b := T) (by omega) (by omega))
        · refine V_aload_n C dX8_reach_10 rfl 1 rfl ?_
          refine V_get (v := .ref (h 16)) C dX8_reach_11 hi8 0 rfl rfl 15 (by decide) (List.mem_of_getElem? (i := 2) rfl) rfl rfl ?_
          refine V_iload_n C dX8_reach_14 rfl 0 rfl ?_
          refine V_lconst (v := 0) C dX8_reach_15 (by decide) ?_
          refine V_lastn (ws' := (mw K h (sl (mZ u H j) 15 (j) 0))) C dX8_reach_16 7 1 rfl rfl (j) (nI_clamp (by omega)) (vp_in_nI (by omega) (by omega)) (ms_15 K h (mZ u H j) (j) 0) ?_
          refine V_aload_n C dX8_reach_17 rfl 1 rfl ?_
          refine V_get (v := .ref (h 17)) C dX8_reach_18 hi8 0 rfl rfl 16 (by decide) (List.mem_of_getElem? (i := 3) rfl) rfl rfl ?_
          refine V_iload_n C dX8_reach_21 rfl 0 rfl ?_
          refine V_iconst (v := 0) C dX8_reach_22 (by decide) ?_
          refine V_zastn (ws' := (mw K h (sz (sl (mZ u H j) 15 (j) 0) 16 (j) false))) C dX8_reach_23 8 2 rfl rfl (j) (nI_clamp (by omega)) (vp_in_nI (by omega) (by omega)) (ms_16 K h (sl (mZ u H j) 15 (j) 0) (j) false) ?_
          refine V_iinc (lv' := [(2, .int (nI (j + 1))), (0, .ref (h 0)), (1, .int (nI T))]) C dX8_reach_24 (j := 0) rfl (nI_1 _) (by decide) rfl ?_
          refine V_goto (tgt := 5) C dX8_reach_27 (by decide) ?_
          exact V_ws (congrArg (mw K h) (mZ_succ u hj)) (ih (j + 1) (by omega) (Or.inl (by omega)) (by omega))
    exact V_ws (congrArg (mw K h) (mZ_id u (Nat.le_refl H)).symm) (zl (T - H) H (Nat.le_refl H) (Or.inr rfl) rfl)
  refine V_aload_n C dX8_reach_30 rfl 0 rfl ?_
  refine V_iload_n C dX8_reach_31 rfl 1 rfl ?_
  refine V_put (ws' := (mw K h (si (mZ u H T) 22 (nI T)))) C dX8_reach_32 hi8 tyX8_ok nmX8 0 rfl rfl 22 (by decide) (List.mem_of_getElem? (i := 1) rfl) rfl rfl rfl rfl rfl (Nat.le_of_ble_eq_true rfl) (ms_22 K h (mZ u H T) (nI T)) ?_
  suffices zx : V X 0 0 (mw K h (mReach u H T L)) 90 [(0, .ref (h 0)), (1, .int (nI T))] [] by
    have zl : ∀ (n j : Nat), L ≤ j → j ≤ T → (j ≤ T - 24 ∨ j = L) → (T - 24) - j = n → V X 0 0 (mw K h (mSp (si (mZ u H T) 22 (nI T)) L j)) 35 [(0, .ref (h 0)), (1, .int (nI T))] [] := by
      intro n
      induction n with
      | zero =>
        intro j hj hj1 hj2 hn
        have zd : nI T - nI j = nI (T - j) := pk_sub hj1
        refine V_aload_n C dX8_reach_35 rfl 0 rfl ?_
        refine V_get (v := .int (nI T)) C dX8_reach_36 hi8 0 rfl rfl 22 (by decide) (List.mem_of_getElem? (i := 1) rfl) rfl rfl ?_
        refine V_aload_n C dX8_reach_39 rfl 0 rfl ?_
        refine V_get (v := .int (nI j)) C dX8_reach_40 hi8 0 rfl rfl 21 (by decide) (List.mem_of_getElem? (i := 4) rfl) rfl rfl ?_
        refine V_isub C dX8_reach_43 ?_
        refine V_bipush (v := 24) C dX8_reach_44 (by decide) ?_
        refine V_icmp_le (tgt := 90) C dX8_reach_46 (by decide) (fun zh46 => ?_) (fun zh46 => ?_)
        · exact V_ws (congrArg (mw K h) (by unfold mReach; rw [show max L (T - 24) = j by omega])) zx
        · exact absurd (by rw [zd]; exact nI_le (a := T - j) (b := 24) (by omega) (by omega)) zh46
      | succ n ih =>
        intro j hj hj1 hj2 hn
        have zd : nI T - nI j = nI (T - j) := pk_sub hj1
        refine V_aload_n C dX8_reach_35 rfl 0 rfl ?_
        refine V_get (v := .int (nI T)) C dX8_reach_36 hi8 0 rfl rfl 22 (by decide) (List.mem_of_getElem? (i := 1) rfl) rfl rfl ?_
        refine V_aload_n C dX8_reach_39 rfl 0 rfl ?_
        refine V_get (v := .int (nI j)) C dX8_reach_40 hi8 0 rfl rfl 21 (by decide) (List.mem_of_getElem? (i := 4) rfl) rfl rfl ?_
        refine V_isub C dX8_reach_43 ?_
        refine V_bipush (v := 24) C dX8_reach_44 (by decide) ?_
        refine V_icmp_le (tgt := 90) C dX8_reach_46 (by decide) (fun zh46 => ?_) (fun zh46 => ?_)
        · exact absurd zh46 (by rw [zd]; exact nI_ge (a := 24) (b := T - j) (by omega) (by omega))
        · refine V_aload_n C dX8_reach_49 rfl 0 rfl ?_
          refine V_get (v := .ref (h 18)) C dX8_reach_50 hi8 0 rfl rfl 17 (by decide) (List.mem_of_getElem? (i := 5) rfl) rfl rfl ?_
          refine V_aload_n C dX8_reach_53 rfl 0 rfl ?_
          refine V_get (v := .int (nI j)) C dX8_reach_54 hi8 0 rfl rfl 21 (by decide) (List.mem_of_getElem? (i := 4) rfl) rfl rfl ?_
          refine V_aload_n C dX8_reach_57 rfl 0 rfl ?_
          refine V_get (v := .ref (h 16)) C dX8_reach_58 hi8 0 rfl rfl 15 (by decide) (List.mem_of_getElem? (i := 2) rfl) rfl rfl ?_
          refine V_aload_n C dX8_reach_61 rfl 0 rfl ?_
          refine V_get (v := .int (nI j)) C dX8_reach_62 hi8 0 rfl rfl 21 (by decide) (List.mem_of_getElem? (i := 4) rfl) rfl rfl ?_
          refine V_laldn (v := (gl (mSp (si (mZ u H T) 22 (nI T)) L j) 15 (j))) C dX8_reach_65 7 1 rfl rfl (j) (nI_clamp (by omega)) (vp_in_nI (by omega) (by omega)) rfl ?_
          refine V_lastn (ws' := (mw K h (sl (mSp (si (mZ u H T) 22 (nI T)) L j) 17 (j) (gl (mSp (si (mZ u H T) 22 (nI T)) L j) 15 (j))))) C dX8_reach_66 9 1 rfl rfl (j) (nI_clamp (by omega)) (vp_in_nI (by omega) (by omega)) (ms_17 K h (mSp (si (mZ u H T) 22 (nI T)) L j) (j) (gl (mSp (si (mZ u H T) 22 (nI T)) L j) 15 (j))) ?_
          refine V_aload_n C dX8_reach_67 rfl 0 rfl ?_
          refine V_dup C dX8_reach_68 rfl ?_
          refine V_get (v := .int (nI j)) C dX8_reach_69 hi8 0 rfl rfl 21 (by decide) (List.mem_of_getElem? (i := 4) rfl) rfl rfl ?_
          refine V_iconst (v := 1) C dX8_reach_72 (by decide) ?_
          refine V_iadd C dX8_reach_73 ?_
          refine V_put (ws' := (mw K h (si (sl (mSp (si (mZ u H T) 22 (nI T)) L j) 17 (j) (gl (mSp (si (mZ u H T) 22 (nI T)) L j) 15 (j))) 21 ((nI j) + 1)))) C dX8_reach_74 hi8 tyX8_ok nmX8 0 rfl rfl 21 (by decide) (List.mem_of_getElem? (i := 4) rfl) rfl rfl rfl rfl rfl (Nat.le_of_ble_eq_true rfl) (ms_21 K h (sl (mSp (si (mZ u H T) 22 (nI T)) L j) 17 (j) (gl (mSp (si (mZ u H T) 22 (nI T)) L j) 15 (j))) ((nI j) + 1)) ?_
          refine V_aload_n C dX8_reach_77 rfl 0 rfl ?_
          refine V_dup C dX8_reach_78 rfl ?_
          refine V_get (v := .int (gi u 23 + nI (j - L))) C dX8_reach_79 hi8 0 rfl rfl 23 (by decide) (List.mem_of_getElem? (i := 6) rfl) rfl rfl ?_
          refine V_iconst (v := 1) C dX8_reach_82 (by decide) ?_
          refine V_iadd C dX8_reach_83 ?_
          refine V_put (ws' := (mw K h (si (si (sl (mSp (si (mZ u H T) 22 (nI T)) L j) 17 (j) (gl (mSp (si (mZ u H T) 22 (nI T)) L j) 15 (j))) 21 ((nI j) + 1)) 23 ((gi u 23 + nI (j - L)) + 1)))) C dX8_reach_84 hi8 tyX8_ok nmX8 0 rfl rfl 23 (by decide) (List.mem_of_getElem? (i := 6) rfl) rfl rfl rfl rfl rfl (Nat.le_of_ble_eq_true rfl) (ms_23 K h (si (sl (mSp (si (mZ u H T) 22 (nI T)) L j) 17 (j) (gl (mSp (si (mZ u H T) 22 (nI T)) L j) 15 (j))) 21 ((nI j) + 1)) ((gi u 23 + nI (j - L)) + 1)) ?_
          refine V_goto (tgt := 35) C dX8_reach_87 (by decide) ?_
          exact V_ws (congrArg (mw K h) (mSp_succ _ hj)) (ih (j + 1) (by omega) (by omega) (Or.inl (by omega)) (by omega))
    exact V_ws (congrArg (mw K h) (mSp_self _ (show gi (si (mZ u H T) 22 (nI T)) 21 = nI L from hL)).symm) (zl ((T - 24) - L) L (Nat.le_refl L) hLT (Or.inr rfl) rfl)
  exact E (mReach u H T L) _ _ dX8_reach_90 (by rfl)

