def fPl (fb ft fr k : Int32) : Int32 := fb + (if 0 < ft ∧ k < ft then (k + fr) - (k + fr) / ft * ft else k)
def pSl (p r : Int32) : Int32 := if 8 ≤ p then 8 + ((p - 8 + r) - (p - 8 + r) / 8 * 8) else p
def in16 (x : Int32) : Bool := decide (0 ≤ x ∧ x < 16)
theorem in16_in {x : Int32} (h : in16 x = true) : vp_in x 16 := by
  obtain ⟨h1, h2⟩ := of_decide_eq_true h
  have g1 := Int32.le_iff_toInt_le.mp h1
  have g2 := Int32.lt_iff_toInt_lt.mp h2
  have e0 : (0 : Int32).toInt = 0 := by decide
  have e1 : (16 : Int32).toInt = 16 := by decide
  exact vp_in_iff.mpr ⟨by omega, by omega⟩
def pIs (g : Nat → Bool) (p r : Int32) : Bool := decide (p = 0) || (in16 (pSl p r) && g (pSl p r).toNatClampNeg)
def pWr (g : Nat → Bool) (p r : Int32) (b : Bool) : Nat → Bool := if in16 (pSl p r) = true then va_up g (pSl p r).toNatClampNeg b else g
theorem in16_of {x : Int32} (h1 : ¬ x < 0) (h2 : ¬ 16 ≤ x) : in16 x = true := decide_eq_true ⟨Int32.not_lt.mp h1, Int32.not_le.mp h2⟩
set_option maxHeartbeats 4000000 in
set_option maxRecDepth 100000 in
theorem c_X1_end (l : Launch) (D : va_G) (K : Nat → ClassId) (ws : va_W) (p a : Nat) (fb fs fo ft fr fc : Int32) (hp : ws[p]? = some (a, .inr (1, [.int fb, .int fs, .int fo, .int ft, .int fr, .int fc])))   : vMi l D vwCl (tys0 K) yX1_end wsX1_end ({ frames := 0, cells := 0, slots := 0, locals := 0 } : Room) [.ref a] ws (fun _ : Unit => ws) (fun r9 _ => r9 = fb + fs) := by
  refine vMi_of (cc := cX1_end) (nL := 1) (rt := .int) (by decide) rfl (Nat.le_of_ble_eq_true rfl) ?_
  intro X C E
  show V X 0 0 ws 0 [(0, .ref a)] []
  have hi1 : ∀ w ∈ wsX10, w ∈ wsX1_end := fun _ h => List.mem_cons_of_mem _ (List.mem_append_right _ h)
  refine V_aload_n C dX1_end_0 rfl 0 rfl ?_
  refine V_get (v := .int fb) C dX1_end_1 hi1 p hp rfl 0 (by decide) (List.mem_of_getElem? (i := 1) rfl) rfl rfl ?_
  refine V_aload_n C dX1_end_4 rfl 0 rfl ?_
  refine V_get (v := .int fs) C dX1_end_5 hi1 p hp rfl 1 (by decide) (List.mem_of_getElem? (i := 2) rfl) rfl rfl ?_
  refine V_iadd C dX1_end_8 ?_
  exact E (fb + fs) () _ _ dX1_end_9 rfl (rfl)

set_option maxHeartbeats 4000000 in
set_option maxRecDepth 100000 in
theorem c_X1_begin (l : Launch) (D : va_G) (K : Nat → ClassId) (ws : va_W) (p a : Nat) (fb fs fo ft fr fc : Int32) (hp : ws[p]? = some (a, .inr (1, [.int fb, .int fs, .int fo, .int ft, .int fr, .int fc]))) (xb : Int32) (xs : Int32)  : vMv l D vwCl (tys0 K) yX1_begin wsX1_begin ({ frames := 0, cells := 0, slots := 0, locals := 0 } : Room) [.ref a, .int xb, .int xs] ws (fun _ : Unit => (ws.set p (a, .inr (1, [.int xb, .int xs, .int 0, .int 0, .int 0, .int 0])))) (fun _ => True) := by
  refine vMv_of (cc := cX1_begin) (nL := 3) (by decide) rfl (Nat.le_of_ble_eq_true rfl) ?_
  intro X C E
  show V X 0 0 ws 0 [(0, .ref a), (1, .int xb), (2, .int xs)] []
  have hi1 : ∀ w ∈ wsX10, w ∈ wsX1_begin := fun _ h => List.mem_cons_of_mem _ (List.mem_append_right _ h)
  refine V_aload_n C dX1_begin_0 rfl 0 rfl ?_
  refine V_iload_n C dX1_begin_1 rfl 1 rfl ?_
  refine V_put (ws' := (ws.set p (a, .inr (1, [.int xb, .int fs, .int fo, .int ft, .int fr, .int fc])))) C dX1_begin_2 hi1 tyX1_ok nmX1 p hp rfl 0 (by decide) (List.mem_of_getElem? (i := 1) rfl) rfl rfl rfl rfl rfl (Nat.le_of_ble_eq_true rfl) rfl ?_
  refine V_aload_n C dX1_begin_5 rfl 0 rfl ?_
  refine V_iload_n C dX1_begin_6 rfl 2 rfl ?_
  refine V_put (ws' := ((ws.set p (a, .inr (1, [.int xb, .int fs, .int fo, .int ft, .int fr, .int fc]))).set p (a, .inr (1, [.int xb, .int xs, .int fo, .int ft, .int fr, .int fc])))) C dX1_begin_7 hi1 tyX1_ok nmX1 p (ws_at hp) rfl 1 (by decide) (List.mem_of_getElem? (i := 2) rfl) rfl rfl rfl rfl rfl (Nat.le_of_ble_eq_true rfl) rfl ?_
  refine V_aload_n C dX1_begin_10 rfl 0 rfl ?_
  refine V_iconst (v := 0) C dX1_begin_11 (by decide) ?_
  refine V_put (ws' := (((ws.set p (a, .inr (1, [.int xb, .int fs, .int fo, .int ft, .int fr, .int fc]))).set p (a, .inr (1, [.int xb, .int xs, .int fo, .int ft, .int fr, .int fc]))).set p (a, .inr (1, [.int xb, .int xs, .int 0, .int ft, .int fr, .int fc])))) C dX1_begin_12 hi1 tyX1_ok nmX1 p (ws_at (ws_at hp)) rfl 2 (by decide) (List.mem_of_getElem? (i := 3) rfl) rfl rfl rfl rfl rfl (Nat.le_of_ble_eq_true rfl) rfl ?_
  refine V_aload_n C dX1_begin_15 rfl 0 rfl ?_
  refine V_iconst (v := 0) C dX1_begin_16 (by decide) ?_
  refine V_put (ws' := ((((ws.set p (a, .inr (1, [.int xb, .int fs, .int fo, .int ft, .int fr, .int fc]))).set p (a, .inr (1, [.int xb, .int xs, .int fo, .int ft, .int fr, .int fc]))).set p (a, .inr (1, [.int xb, .int xs, .int 0, .int ft, .int fr, .int fc]))).set p (a, .inr (1, [.int xb, .int xs, .int 0, .int 0, .int fr, .int fc])))) C dX1_begin_17 hi1 tyX1_ok nmX1 p (ws_at (ws_at (ws_at hp))) rfl 3 (by decide) (List.mem_of_getElem? (i := 4) rfl) rfl rfl rfl rfl rfl (Nat.le_of_ble_eq_true rfl) rfl ?_
  refine V_aload_n C dX1_begin_20 rfl 0 rfl ?_
  refine V_iconst (v := 0) C dX1_begin_21 (by decide) ?_
  refine V_put (ws' := (((((ws.set p (a, .inr (1, [.int xb, .int fs, .int fo, .int ft, .int fr, .int fc]))).set p (a, .inr (1, [.int xb, .int xs, .int fo, .int ft, .int fr, .int fc]))).set p (a, .inr (1, [.int xb, .int xs, .int 0, .int ft, .int fr, .int fc]))).set p (a, .inr (1, [.int xb, .int xs, .int 0, .int 0, .int fr, .int fc]))).set p (a, .inr (1, [.int xb, .int xs, .int 0, .int 0, .int 0, .int fc])))) C dX1_begin_22 hi1 tyX1_ok nmX1 p (ws_at (ws_at (ws_at (ws_at hp)))) rfl 4 (by decide) (List.mem_of_getElem? (i := 5) rfl) rfl rfl rfl rfl rfl (Nat.le_of_ble_eq_true rfl) rfl ?_
  refine V_aload_n C dX1_begin_25 rfl 0 rfl ?_
  refine V_iconst (v := 0) C dX1_begin_26 (by decide) ?_
  refine V_put (ws' := ((((((ws.set p (a, .inr (1, [.int xb, .int fs, .int fo, .int ft, .int fr, .int fc]))).set p (a, .inr (1, [.int xb, .int xs, .int fo, .int ft, .int fr, .int fc]))).set p (a, .inr (1, [.int xb, .int xs, .int 0, .int ft, .int fr, .int fc]))).set p (a, .inr (1, [.int xb, .int xs, .int 0, .int 0, .int fr, .int fc]))).set p (a, .inr (1, [.int xb, .int xs, .int 0, .int 0, .int 0, .int fc]))).set p (a, .inr (1, [.int xb, .int xs, .int 0, .int 0, .int 0, .int 0])))) C dX1_begin_27 hi1 tyX1_ok nmX1 p (ws_at (ws_at (ws_at (ws_at (ws_at hp))))) rfl 5 (by decide) (List.mem_of_getElem? (i := 6) rfl) rfl rfl rfl rfl rfl (Nat.le_of_ble_eq_true rfl) rfl ?_
  refine V_ws (ws' := (ws.set p (a, .inr (1, [.int xb, .int xs, .int 0, .int 0, .int 0, .int 0])))) (by simp only [ws_ss]) ?_
  exact E () _ _ dX1_begin_30 trivial

set_option maxHeartbeats 4000000 in
set_option maxRecDepth 100000 in
theorem c_X1_placeOf (l : Launch) (D : va_G) (K : Nat → ClassId) (ws : va_W) (p a : Nat) (fb fs fo ft fr fc : Int32) (hp : ws[p]? = some (a, .inr (1, [.int fb, .int fs, .int fo, .int ft, .int fr, .int fc]))) (xk : Int32)  : vMi l D vwCl (tys0 K) yX1_placeOf wsX1_placeOf ({ frames := 0, cells := 0, slots := 0, locals := 0 } : Room) [.ref a, .int xk] ws (fun _ : Unit => ws) (fun r9 _ => r9 = fPl fb ft fr xk) := by
  refine vMi_of (cc := cX1_placeOf) (nL := 3) (rt := .int) (by decide) rfl (Nat.le_of_ble_eq_true rfl) ?_
  intro X C E
  show V X 0 0 ws 0 [(0, .ref a), (1, .int xk)] []
  have hi1 : ∀ w ∈ wsX10, w ∈ wsX1_placeOf := fun _ h => List.mem_cons_of_mem _ (List.mem_append_right _ h)
  suffices zj20 : ∀ xt : Bool, xt = (decide (0 < ft ∧ xk < ft)) → V X 0 0 ws 20 [(0, .ref a), (1, .int xk)] [.int (b2i xt)] by
    refine V_aload_n C dX1_placeOf_0 rfl 0 rfl ?_
    refine V_get (v := .int ft) C dX1_placeOf_1 hi1 p hp rfl 3 (by decide) (List.mem_of_getElem? (i := 1) rfl) rfl rfl ?_
    refine V_if_le (tgt := 19) C dX1_placeOf_4 (by decide) (fun zh4 => ?_) (fun zh4 => ?_)
    · refine V_iconst (v := 0) C dX1_placeOf_19 (by decide) ?_
      refine V_sub [0, 1] rfl ?_
      exact zj20 false (by first | rfl | (simp (decide := true) [b2i, gi_si, zh4, Int32.not_lt.mpr zh4]; done) | (simp (decide := true) [b2i, gi_si, zh4, Int32.not_lt.mpr zh4]; rfl) | (simp_all (decide := true) [b2i, gi_si]; done))
    · refine V_iload_n C dX1_placeOf_7 rfl 1 rfl ?_
      refine V_aload_n C dX1_placeOf_8 rfl 0 rfl ?_
      refine V_get (v := .int ft) C dX1_placeOf_9 hi1 p hp rfl 3 (by decide) (List.mem_of_getElem? (i := 1) rfl) rfl rfl ?_
      refine V_icmp_ge (tgt := 19) C dX1_placeOf_12 (by decide) (fun zh12 => ?_) (fun zh12 => ?_)
      · refine V_iconst (v := 0) C dX1_placeOf_19 (by decide) ?_
        refine V_sub [0, 1] rfl ?_
        exact zj20 false (by first | rfl | (simp (decide := true) [b2i, gi_si, zh4, Int32.not_le.mp zh4, zh12, Int32.not_lt.mpr zh12]; done) | (simp (decide := true) [b2i, gi_si, zh4, Int32.not_le.mp zh4, zh12, Int32.not_lt.mpr zh12]; rfl) | (simp_all (decide := true) [b2i, gi_si]; done))
      · refine V_iconst (v := 1) C dX1_placeOf_15 (by decide) ?_
        refine V_goto (tgt := 20) C dX1_placeOf_16 (by decide) ?_
        refine V_sub [0, 1] rfl ?_
        exact zj20 true (by first | rfl | (simp (decide := true) [b2i, gi_si, zh4, Int32.not_le.mp zh4, zh12, Int32.not_le.mp zh12]; done) | (simp (decide := true) [b2i, gi_si, zh4, Int32.not_le.mp zh4, zh12, Int32.not_le.mp zh12]; rfl) | (simp_all (decide := true) [b2i, gi_si]; done))
  intro xt e_xt
  refine V_istore_n (lv' := [(2, .int (b2i xt)), (0, .ref a), (1, .int xk)]) C dX1_placeOf_20 rfl (by decide) rfl ?_
  refine V_aload_n C dX1_placeOf_21 rfl 1 rfl ?_
  refine V_get (v := .int fb) C dX1_placeOf_22 hi1 p hp rfl 0 (by decide) (List.mem_of_getElem? (i := 2) rfl) rfl rfl ?_
  refine V_iload_n C dX1_placeOf_25 rfl 0 rfl ?_
  refine V_ifz_eq (tgt := 43) C dX1_placeOf_26 (by decide) (fun zh26 => ?_) (fun zh26 => ?_)
  · have zt0 := of_decide_eq_false (e_xt.symm.trans zh26)
    refine V_iload_n C dX1_placeOf_43 rfl 2 rfl ?_
    refine V_iadd C dX1_placeOf_44 ?_
    exact E (fb + xk) () _ _ dX1_placeOf_45 rfl (by unfold fPl; rw [if_neg zt0])
  · have zt0 := of_decide_eq_true (e_xt.symm.trans zh26)
    refine V_iload_n C dX1_placeOf_29 rfl 2 rfl ?_
    refine V_aload_n C dX1_placeOf_30 rfl 1 rfl ?_
    refine V_get (v := .int fr) C dX1_placeOf_31 hi1 p hp rfl 4 (by decide) (List.mem_of_getElem? (i := 3) rfl) rfl rfl ?_
    refine V_iadd C dX1_placeOf_34 ?_
    refine V_aload_n C dX1_placeOf_35 rfl 1 rfl ?_
    refine V_get (v := .int ft) C dX1_placeOf_36 hi1 p hp rfl 3 (by decide) (List.mem_of_getElem? (i := 1) rfl) rfl rfl ?_
    refine V_irem C dX1_placeOf_39 (fun q => by rw [q] at zt0; exact absurd zt0.1 (by decide)) ?_
    refine V_goto (tgt := 44) C dX1_placeOf_40 (by decide) ?_
    refine V_iadd C dX1_placeOf_44 ?_
    exact E (fb + ((xk + fr) - (xk + fr) / ft * ft)) () _ _ dX1_placeOf_45 rfl (by unfold fPl; rw [if_pos zt0])

set_option maxHeartbeats 4000000 in
set_option maxRecDepth 100000 in
theorem c_X5_placeOf (l : Launch) (D : va_G) (K : Nat → ClassId) (w0 : va_W) (xp xr : Int32) : vMi l D vwCl (tys0 K) yX5_placeOf wsX5_placeOf ({ frames := 0, cells := 0, slots := 0, locals := 0 } : Room) [.int xp, .int xr] w0 (fun _ : Unit => w0) (fun r _ => r = pSl xp xr) := by
  refine vMi_of (cc := cX5_placeOf) (nL := 2) (rt := .int) (by decide) rfl (Nat.le_of_ble_eq_true rfl) ?_
  intro X C E
  show V X 0 0 w0 0 [(0, .int xp), (1, .int xr)] []
  refine V_iload_n C dX5_placeOf_0 rfl 0 rfl ?_
  refine V_bipush (v := 8) C dX5_placeOf_1 (by decide) ?_
  refine V_icmp_ge (tgt := 10) C dX5_placeOf_3 (by decide) (fun zh3 => ?_) (fun zh3 => ?_)
  · refine V_bipush (v := 8) C dX5_placeOf_10 (by decide) ?_
    refine V_iload_n C dX5_placeOf_12 rfl 0 rfl ?_
    refine V_bipush (v := 8) C dX5_placeOf_13 (by decide) ?_
    refine V_isub C dX5_placeOf_15 ?_
    refine V_iload_n C dX5_placeOf_16 rfl 1 rfl ?_
    refine V_iadd C dX5_placeOf_17 ?_
    refine V_bipush (v := 8) C dX5_placeOf_18 (by decide) ?_
    refine V_irem C dX5_placeOf_20 (by decide) ?_
    refine V_iadd C dX5_placeOf_21 ?_
    exact E (8 + (((xp - 8) + xr) - ((xp - 8) + xr) / 8 * 8)) () _ _ dX5_placeOf_22 rfl (by unfold pSl; rw [if_pos zh3])
  · refine V_iload_n C dX5_placeOf_6 rfl 0 rfl ?_
    refine V_goto (tgt := 22) C dX5_placeOf_7 (by decide) ?_
    exact E xp () _ _ dX5_placeOf_22 rfl (by unfold pSl; rw [if_neg zh3])
set_option maxHeartbeats 4000000 in
set_option maxRecDepth 100000 in
theorem c_X5_isTrue (l : Launch) (D : va_G) (K : Nat → ClassId) (ws : va_W) (p pt a at9 : Nat) (g : Nat → Bool) (hp : ws[p]? = some (a, .inr (5, [.ref at9]))) (ht : ws[pt]? = some (at9, .inl (K 2, 16, .inl (fun i => b2i (g i))))) (xp : Int32) (xr : Int32)  : vMi l D vwCl (tys0 K) yX5_isTrue wsX5_isTrue ({ frames := 1, cells := 0, slots := 0, locals := 21 } : Room) [.ref a, .int xp, .int xr] ws (fun _ : Unit => ws) (fun r9 _ => r9 = b2i (pIs g xp xr)) := by
  refine vMi_of (cc := cX5_isTrue) (nL := 4) (rt := .boolean) (by decide) rfl (Nat.le_of_ble_eq_true rfl) ?_
  intro X C E
  show V X 0 0 ws 0 [(0, .ref a), (1, .int xp), (2, .int xr)] []
  have hi5 : ∀ w ∈ wsX50, w ∈ wsX5_isTrue := fun _ h => List.mem_cons_of_mem _ (List.mem_append_right _ h)
  have zpt : pt ≠ p := pl_ne ht hp (by intro q; simp at q)
  refine V_iload_n C dX5_isTrue_0 rfl 1 rfl ?_
  refine V_iload_n C dX5_isTrue_1 rfl 2 rfl ?_
  refine V_calliS C dX5_isTrue_2 (c_X5_placeOf l D K ws xp xr) gX5_isTrue_X5_placeOf rfl 2 rfl (by decide +kernel) (by decide) ⟨Nat.le_of_ble_eq_true rfl, Nat.le_of_ble_eq_true rfl⟩ rfl (Nat.le_of_ble_eq_true rfl) (det0 ?_)
  refine V_istore_n (lv' := [(3, .int (pSl xp xr)), (0, .ref a), (1, .int xp), (2, .int xr)]) C dX5_isTrue_5 rfl (by decide) rfl ?_
  refine V_iload_n C dX5_isTrue_6 rfl 2 rfl ?_
  refine V_if_eq (tgt := 32) C dX5_isTrue_7 (by decide) (fun zh7 => ?_) (fun zh7 => ?_)
  · refine V_iconst (v := 1) C dX5_isTrue_32 (by decide) ?_
    refine V_goto (tgt := 37) C dX5_isTrue_33 (by decide) ?_
    exact E 1 () _ _ dX5_isTrue_37 rfl (by simp (decide := true) [pIs, b2i, in16, zh7])
  · refine V_iload_n C dX5_isTrue_10 rfl 0 rfl ?_
    refine V_if_lt (tgt := 36) C dX5_isTrue_11 (by decide) (fun zh11 => ?_) (fun zh11 => ?_)
    · refine V_iconst (v := 0) C dX5_isTrue_36 (by decide) ?_
      exact E 0 () _ _ dX5_isTrue_37 rfl (by simp (decide := true) [pIs, b2i, in16, zh7, zh11, Int32.not_le.mpr zh11])
    · refine V_iload_n C dX5_isTrue_14 rfl 0 rfl ?_
      refine V_aload_n C dX5_isTrue_15 rfl 1 rfl ?_
      refine V_get (v := .ref at9) C dX5_isTrue_16 hi5 p hp rfl 0 (by decide) (List.mem_of_getElem? (i := 1) rfl) rfl rfl ?_
      refine V_alen (v := 16) C dX5_isTrue_19 pt 2 ht rfl rfl ?_
      refine V_icmp_ge (tgt := 36) C dX5_isTrue_20 (by decide) (fun zh20 => ?_) (fun zh20 => ?_)
      · refine V_iconst (v := 0) C dX5_isTrue_36 (by decide) ?_
        exact E 0 () _ _ dX5_isTrue_37 rfl (by simp (decide := true) [pIs, b2i, in16, zh7, zh11, Int32.not_lt.mp zh11, zh20, Int32.not_lt.mpr zh20])
      · refine V_aload_n C dX5_isTrue_23 rfl 1 rfl ?_
        refine V_get (v := .ref at9) C dX5_isTrue_24 hi5 p hp rfl 0 (by decide) (List.mem_of_getElem? (i := 1) rfl) rfl rfl ?_
        refine V_iload_n C dX5_isTrue_27 rfl 0 rfl ?_
        refine V_zaldn (v := (b2i (g ((pSl xp xr).toNatClampNeg)))) C dX5_isTrue_28 pt 2 ht rfl ((pSl xp xr).toNatClampNeg) rfl (in16_in (in16_of zh11 zh20)) rfl ?_
        refine V_ifz_eq (tgt := 36) C dX5_isTrue_29 (by decide) (fun zh29 => ?_) (fun zh29 => ?_)
        · refine V_iconst (v := 0) C dX5_isTrue_36 (by decide) ?_
          exact E 0 () _ _ dX5_isTrue_37 rfl (by unfold pIs; rw [in16_of zh11 zh20]; simp [b2i, zh7, zh29])
        · refine V_iconst (v := 1) C dX5_isTrue_32 (by decide) ?_
          refine V_goto (tgt := 37) C dX5_isTrue_33 (by decide) ?_
          exact E 1 () _ _ dX5_isTrue_37 rfl (by unfold pIs; rw [in16_of zh11 zh20]; simp [b2i, zh7, zh29])

set_option maxHeartbeats 4000000 in
set_option maxRecDepth 100000 in
theorem c_X5_write (l : Launch) (D : va_G) (K : Nat → ClassId) (ws : va_W) (p pt a at9 : Nat) (g : Nat → Bool) (hp : ws[p]? = some (a, .inr (5, [.ref at9]))) (ht : ws[pt]? = some (at9, .inl (K 2, 16, .inl (fun i => b2i (g i))))) (xp : Int32) (xr : Int32) (xb : Bool)  : vMv l D vwCl (tys0 K) yX5_write wsX5_write ({ frames := 1, cells := 0, slots := 0, locals := 21 } : Room) [.ref a, .int xp, .int xr, .int (b2i xb)] ws (fun _ : Unit => (ws.set pt (at9, .inl (K 2, 16, .inl (fun i => b2i (pWr g xp xr xb i)))))) (fun _ => True) := by
  refine vMv_of (cc := cX5_write) (nL := 5) (by decide) rfl (Nat.le_of_ble_eq_true rfl) ?_
  intro X C E
  show V X 0 0 ws 0 [(0, .ref a), (1, .int xp), (2, .int xr), (3, .int (b2i xb))] []
  have hi5 : ∀ w ∈ wsX50, w ∈ wsX5_write := fun _ h => List.mem_cons_of_mem _ (List.mem_append_right _ h)
  have zpt : pt ≠ p := pl_ne ht hp (by intro q; simp at q)
  refine V_iload_n C dX5_write_0 rfl 1 rfl ?_
  refine V_iload_n C dX5_write_1 rfl 2 rfl ?_
  refine V_calliS C dX5_write_2 (c_X5_placeOf l D K ws xp xr) gX5_write_X5_placeOf rfl 2 rfl (by decide +kernel) (by decide) ⟨Nat.le_of_ble_eq_true rfl, Nat.le_of_ble_eq_true rfl⟩ rfl (Nat.le_of_ble_eq_true rfl) (det0 ?_)
  refine V_istore (lv' := [(4, .int (pSl xp xr)), (0, .ref a), (1, .int xp), (2, .int xr), (3, .int (b2i xb))]) C dX5_write_5 (by decide) rfl ?_
  refine V_iload C dX5_write_7 0 rfl ?_
  refine V_if_lt (tgt := 30) C dX5_write_9 (by decide) (fun zh9 => ?_) (fun zh9 => ?_)
  · refine V_ws (ws' := (ws.set pt (at9, .inl (K 2, 16, .inl (fun i => b2i (pWr g xp xr xb i)))))) (by unfold pWr; rw [if_neg (show ¬ in16 (pSl xp xr) = true from fun q => absurd (of_decide_eq_true q).1 (Int32.not_le.mpr zh9)), list_set_get ht]) ?_
    exact E () _ _ dX5_write_30 trivial
  · refine V_iload C dX5_write_12 0 rfl ?_
    refine V_aload_n C dX5_write_14 rfl 1 rfl ?_
    refine V_get (v := .ref at9) C dX5_write_15 hi5 p hp rfl 0 (by decide) (List.mem_of_getElem? (i := 1) rfl) rfl rfl ?_
    refine V_alen (v := 16) C dX5_write_18 pt 2 ht rfl rfl ?_
    refine V_icmp_ge (tgt := 30) C dX5_write_19 (by decide) (fun zh19 => ?_) (fun zh19 => ?_)
    · refine V_ws (ws' := (ws.set pt (at9, .inl (K 2, 16, .inl (fun i => b2i (pWr g xp xr xb i)))))) (by unfold pWr; rw [if_neg (show ¬ in16 (pSl xp xr) = true from fun q => absurd (of_decide_eq_true q).2 (Int32.not_lt.mpr zh19)), list_set_get ht]) ?_
      exact E () _ _ dX5_write_30 trivial
    · refine V_aload_n C dX5_write_22 rfl 1 rfl ?_
      refine V_get (v := .ref at9) C dX5_write_23 hi5 p hp rfl 0 (by decide) (List.mem_of_getElem? (i := 1) rfl) rfl rfl ?_
      refine V_iload C dX5_write_26 0 rfl ?_
      refine V_iload_n C dX5_write_28 rfl 4 rfl ?_
      refine V_zastn (ws' := (ws.set pt (at9, .inl (K 2, 16, .inl (fun i => b2i ((va_up g ((pSl xp xr).toNatClampNeg) xb) i)))))) C dX5_write_29 pt 2 ht rfl ((pSl xp xr).toNatClampNeg) rfl (in16_in (in16_of zh9 zh19)) (by first | (rw [upd_b2i]; done) | (rw [← upd_b2i]; rfl)) ?_
      refine V_ws (ws' := (ws.set pt (at9, .inl (K 2, 16, .inl (fun i => b2i (pWr g xp xr xb i)))))) (by unfold pWr; rw [if_pos (in16_of zh9 zh19)]) ?_
      exact E () _ _ dX5_write_30 trivial

theorem zGn_s1 {g : Nat → Bool} {j : Nat} : va_up (zGn g 0 j) j false = zGn g 0 (j + 1) := by
  funext i; unfold va_up zGn
  by_cases e : i = j
  · subst e; simp
  · rw [if_neg e]; congr 1; apply propext; omega
set_option maxHeartbeats 4000000 in
set_option maxRecDepth 100000 in
theorem c_X5_clear (l : Launch) (D : va_G) (K : Nat → ClassId) (ws : va_W) (p pt a at9 : Nat) (g : Nat → Bool) (hp : ws[p]? = some (a, .inr (5, [.ref at9]))) (ht : ws[pt]? = some (at9, .inl (K 2, 16, .inl (fun i => b2i (g i)))))   : vMv l D vwCl (tys0 K) yX5_clear wsX5_clear ({ frames := 0, cells := 0, slots := 0, locals := 0 } : Room) [.ref a] ws (fun _ : Unit => (ws.set pt (at9, .inl (K 2, 16, .inl (fun i => b2i (zGn g 0 16 i)))))) (fun _ => True) := by
  refine vMv_of (cc := cX5_clear) (nL := 2) (by decide) rfl (Nat.le_of_ble_eq_true rfl) ?_
  intro X C E
  show V X 0 0 ws 0 [(0, .ref a)] []
  have hi5 : ∀ w ∈ wsX50, w ∈ wsX5_clear := fun _ h => List.mem_cons_of_mem _ (List.mem_append_right _ h)
  have zpt : pt ≠ p := pl_ne ht hp (by intro q; simp at q)
  refine V_iconst (v := 0) C dX5_clear_0 (by decide) ?_
  refine V_istore_n (lv' := [(1, .int 0), (0, .ref a)]) C dX5_clear_1 rfl (by decide) rfl ?_
  suffices zx : V X 0 0 (ws.set pt (at9, .inl (K 2, 16, .inl (fun i => b2i (zGn g 0 16 i))))) 24 [(0, .ref a)] [] by
    have zl : ∀ (m j : Nat), j ≤ 16 → 16 - j = m → V X 0 0 (ws.set pt (at9, .inl (K 2, 16, .inl (fun i => b2i (zGn g 0 j i))))) 2 [(1, .int (nI j)), (0, .ref a)] [] := by
      intro m
      induction m with
      | zero =>
        intro j hj hjm
        refine V_iload_n C dX5_clear_2 rfl 0 rfl ?_
        refine V_aload_n C dX5_clear_3 rfl 1 rfl ?_
        refine V_get (v := .ref at9) C dX5_clear_4 hi5 p (ws_ne zpt hp) rfl 0 (by decide) (List.mem_of_getElem? (i := 1) rfl) rfl rfl ?_
        refine V_alen (v := 16) C dX5_clear_7 pt 2 (ws_at ht) rfl rfl ?_
        refine V_icmp_ge (tgt := 24) C dX5_clear_8 (by decide) (fun zh8 => ?_) (fun zh8 => ?_)
        · have zj : j = 16 := by omega
          subst zj
          exact V_sub [1] rfl zx
        · exact absurd (nI_le (a := 16) (b := j) (by omega) (by omega)) zh8
      | succ m ih =>
        intro j hj hjm
        refine V_iload_n C dX5_clear_2 rfl 0 rfl ?_
        refine V_aload_n C dX5_clear_3 rfl 1 rfl ?_
        refine V_get (v := .ref at9) C dX5_clear_4 hi5 p (ws_ne zpt hp) rfl 0 (by decide) (List.mem_of_getElem? (i := 1) rfl) rfl rfl ?_
        refine V_alen (v := 16) C dX5_clear_7 pt 2 (ws_at ht) rfl rfl ?_
        refine V_icmp_ge (tgt := 24) C dX5_clear_8 (by decide) (fun zh8 => ?_) (fun zh8 => ?_)
        · exact absurd zh8 (nI_ge (a := j) (b := 16) (by omega) (by omega))
        · refine V_aload_n C dX5_clear_11 rfl 1 rfl ?_
          refine V_get (v := .ref at9) C dX5_clear_12 hi5 p (ws_ne zpt hp) rfl 0 (by decide) (List.mem_of_getElem? (i := 1) rfl) rfl rfl ?_
          refine V_iload_n C dX5_clear_15 rfl 0 rfl ?_
          refine V_iconst (v := 0) C dX5_clear_16 (by decide) ?_
          refine V_zastn (ws' := ((ws.set pt (at9, .inl (K 2, 16, .inl (fun i => b2i (zGn g 0 j i))))).set pt (at9, .inl (K 2, 16, .inl (fun i => b2i ((va_up (zGn g 0 j) j false) i)))))) C dX5_clear_17 pt 2 (ws_at ht) rfl (j) (nI_clamp (by omega)) (vp_in_nI (by omega) (by omega)) (by first | (rw [upd_b2i]; done) | (rw [← upd_b2i]; rfl)) ?_
          refine V_iinc (lv' := [(1, .int (nI (j + 1))), (0, .ref a)]) C dX5_clear_18 (j := 0) rfl (nI_1 _) (by decide) rfl ?_
          refine V_goto (tgt := 2) C dX5_clear_21 (by decide) ?_
          exact V_ws (by rw [ws_ss, zGn_s1]) (V_sub [0, 1] rfl (ih (j + 1) (by omega) (by omega)))
    exact V_ws (by rw [zGn_id g (Nat.le_refl 0), list_set_get ht]) (V_sub [0, 1] rfl (zl 16 0 (by omega) (by omega)))
  exact E () _ _ dX5_clear_24 trivial

def lAt (cnt : Int32) (f : Nat → Option Nat) (i : Int32) : Option Nat := if 0 ≤ i ∧ i < cnt ∧ i < 40 then f i.toNatClampNeg else none
set_option maxHeartbeats 4000000 in
set_option maxRecDepth 100000 in
theorem c_X4_size (l : Launch) (D : va_G) (K : Nat → ClassId) (ws : va_W) (p a al : Nat) (cnt : Int32) (hp : ws[p]? = some (a, .inr (4, [.ref al, .int cnt])))   : vMi l D vwCl (tys0 K) yX4_size wsX4_size ({ frames := 0, cells := 0, slots := 0, locals := 0 } : Room) [.ref a] ws (fun _ : Unit => ws) (fun r9 _ => r9 = cnt) := by
  refine vMi_of (cc := cX4_size) (nL := 1) (rt := .int) (by decide) rfl (Nat.le_of_ble_eq_true rfl) ?_
  intro X C E
  show V X 0 0 ws 0 [(0, .ref a)] []
  have hi4 : ∀ w ∈ wsX40, w ∈ wsX4_size := fun _ h => List.mem_cons_of_mem _ (List.mem_append_right _ h)
  refine V_aload_n C dX4_size_0 rfl 0 rfl ?_
  refine V_get (v := .int cnt) C dX4_size_1 hi4 p hp rfl 1 (by decide) (List.mem_of_getElem? (i := 1) rfl) rfl rfl ?_
  exact E cnt () _ _ dX4_size_4 rfl (rfl)

set_option maxHeartbeats 4000000 in
set_option maxRecDepth 100000 in
theorem c_X4_clear (l : Launch) (D : va_G) (K : Nat → ClassId) (ws : va_W) (p a al : Nat) (cnt : Int32) (hp : ws[p]? = some (a, .inr (4, [.ref al, .int cnt])))   : vMv l D vwCl (tys0 K) yX4_clear wsX4_clear ({ frames := 0, cells := 0, slots := 0, locals := 0 } : Room) [.ref a] ws (fun _ : Unit => (ws.set p (a, .inr (4, [.ref al, .int 0])))) (fun _ => True) := by
  refine vMv_of (cc := cX4_clear) (nL := 1) (by decide) rfl (Nat.le_of_ble_eq_true rfl) ?_
  intro X C E
  show V X 0 0 ws 0 [(0, .ref a)] []
  have hi4 : ∀ w ∈ wsX40, w ∈ wsX4_clear := fun _ h => List.mem_cons_of_mem _ (List.mem_append_right _ h)
  refine V_aload_n C dX4_clear_0 rfl 0 rfl ?_
  refine V_iconst (v := 0) C dX4_clear_1 (by decide) ?_
  refine V_put (ws' := (ws.set p (a, .inr (4, [.ref al, .int 0])))) C dX4_clear_2 hi4 tyX4_ok nmX4 p hp rfl 1 (by decide) (List.mem_of_getElem? (i := 1) rfl) rfl rfl rfl rfl rfl (Nat.le_of_ble_eq_true rfl) rfl ?_
  exact E () _ _ dX4_clear_5 trivial

set_option maxHeartbeats 4000000 in
set_option maxRecDepth 100000 in
theorem c_X4_add (l : Launch) (D : va_G) (K : Nat → ClassId) (ws : va_W) (p pl a al : Nat) (cnt : Int32) (f : Nat → Option Nat) (hp : ws[p]? = some (a, .inr (4, [.ref al, .int cnt]))) (hl9 : ws[pl]? = some (al, .inl (K 4, 40, .inr (.inr (.inr (.inr f)))))) (xl : Nat) (pi9 : Nat) (vs9 : List Value) (hi9 : ws[pi9]? = some (xl, .inr (3, vs9))) (n : Nat) (hcn : cnt = nI n) (hn40 : n < 40) : vMv l D vwCl (tys0 K) yX4_add wsX4_add ({ frames := 0, cells := 0, slots := 0, locals := 0 } : Room) [.ref a, .ref xl] ws (fun _ : Unit => ((ws.set pl (al, .inl (K 4, 40, .inr (.inr (.inr (.inr (va_up f n (some xl)))))))).set p (a, .inr (4, [.ref al, .int (cnt + 1)])))) (fun _ => True) := by
  refine vMv_of (cc := cX4_add) (nL := 2) (by decide) rfl (Nat.le_of_ble_eq_true rfl) ?_
  intro X C E
  show V X 0 0 ws 0 [(0, .ref a), (1, .ref xl)] []
  have hi4 : ∀ w ∈ wsX40, w ∈ wsX4_add := fun _ h => List.mem_cons_of_mem _ (List.mem_append_right _ h)
  have zpl : pl ≠ p := pl_ne hl9 hp (by intro q; simp at q)
  have zli : pl ≠ pi9 := pl_ne hl9 hi9 (by intro q; simp at q)
  have zoi : p ≠ pi9 := pl_ne hp hi9 (by intro q; simp at q)
  refine V_aload_n C dX4_add_0 rfl 0 rfl ?_
  refine V_get (v := .int cnt) C dX4_add_1 hi4 p hp rfl 1 (by decide) (List.mem_of_getElem? (i := 1) rfl) rfl rfl ?_
  refine V_if_lt (tgt := 39) C dX4_add_4 (by decide) (fun zh4 => ?_) (fun zh4 => ?_)
  · exact absurd zh4 (by rw [hcn]; exact nI_pos (by omega))
  · refine V_aload_n C dX4_add_7 rfl 0 rfl ?_
    refine V_get (v := .int cnt) C dX4_add_8 hi4 p hp rfl 1 (by decide) (List.mem_of_getElem? (i := 1) rfl) rfl rfl ?_
    refine V_aload_n C dX4_add_11 rfl 0 rfl ?_
    refine V_get (v := .ref al) C dX4_add_12 hi4 p hp rfl 0 (by decide) (List.mem_of_getElem? (i := 2) rfl) rfl rfl ?_
    refine V_alen (v := 40) C dX4_add_15 pl 4 hl9 rfl rfl ?_
    refine V_icmp_ge (tgt := 39) C dX4_add_16 (by decide) (fun zh16 => ?_) (fun zh16 => ?_)
    · exact absurd zh16 (by rw [hcn]; exact nI_ge (a := n) (b := 40) (by omega) (by omega))
    · refine V_aload_n C dX4_add_19 rfl 0 rfl ?_
      refine V_get (v := .ref al) C dX4_add_20 hi4 p hp rfl 0 (by decide) (List.mem_of_getElem? (i := 2) rfl) rfl rfl ?_
      refine V_aload_n C dX4_add_23 rfl 0 rfl ?_
      refine V_get (v := .int cnt) C dX4_add_24 hi4 p hp rfl 1 (by decide) (List.mem_of_getElem? (i := 1) rfl) rfl rfl ?_
      refine V_aload_n C dX4_add_27 rfl 1 rfl ?_
      refine V_aast (ws' := (ws.set pl (al, .inl (K 4, 40, .inr (.inr (.inr (.inr (va_up f n (some xl))))))))) C dX4_add_28 pl 4 pi9 3 hl9 rfl hi9 rfl (n) (by rw [hcn]; exact nI_clamp (by omega)) (by rw [hcn]; exact vp_in_nI (by omega) (by omega)) rfl ?_
      refine V_aload_n C dX4_add_29 rfl 0 rfl ?_
      refine V_dup C dX4_add_30 rfl ?_
      refine V_get (v := .int cnt) C dX4_add_31 hi4 p (ws_ne zpl hp) rfl 1 (by decide) (List.mem_of_getElem? (i := 1) rfl) rfl rfl ?_
      refine V_iconst (v := 1) C dX4_add_34 (by decide) ?_
      refine V_iadd C dX4_add_35 ?_
      refine V_put (ws' := ((ws.set pl (al, .inl (K 4, 40, .inr (.inr (.inr (.inr (va_up f n (some xl)))))))).set p (a, .inr (4, [.ref al, .int (cnt + 1)])))) C dX4_add_36 hi4 tyX4_ok nmX4 p (ws_ne zpl hp) rfl 1 (by decide) (List.mem_of_getElem? (i := 1) rfl) rfl rfl rfl rfl rfl (Nat.le_of_ble_eq_true rfl) rfl ?_
      exact E () _ _ dX4_add_39 trivial

set_option maxHeartbeats 4000000 in
set_option maxRecDepth 100000 in
theorem c_X4_at (l : Launch) (D : va_G) (K : Nat → ClassId) (G : gE) (ws : va_W) (p pl a al : Nat) (cnt : Int32) (f : Nat → Option Nat) (hp : ws[p]? = some (a, .inr (4, [.ref al, .int cnt]))) (hl9 : ws[pl]? = some (al, .inl (K 4, 40, .inr (.inr (.inr (.inr f)))))) (xi : Int32) : gMq l D vwCl (tys0 K) G yX4_at wsX4_at ({ frames := 0, cells := 0, slots := 0, locals := 0 } : Room) [.ref a, .int xi] ws (fun _ : Unit => ws) (fun r9 _ => r9 = lAt cnt f xi) := by
  refine gMq_of (cc := cX4_at) (nL := 2) (rt := .object "PredicateMachine$Instruction") (by decide) rfl (Nat.le_of_ble_eq_true rfl) ?_
  intro X C hg E
  show V X 0 0 ws 0 [(0, .ref a), (1, .int xi)] []
  have hi4 : ∀ w ∈ wsX40, w ∈ wsX4_at := fun _ h => List.mem_cons_of_mem _ (List.mem_append_right _ h)
  have zpl : pl ≠ p := pl_ne hl9 hp (by intro q; simp at q)
  refine V_iload_n C dX4_at_0 rfl 1 rfl ?_
  refine V_if_lt (tgt := 30) C dX4_at_1 (by decide) (fun zh1 => ?_) (fun zh1 => ?_)
  · refine V_aconst_null C dX4_at_30 ?_
    exact E none () _ _ dX4_at_31 (Or.inl ⟨_, rfl⟩) (by unfold lAt; rw [if_neg (fun q => absurd q.1 (Int32.not_le.mpr zh1))])
  · refine V_iload_n C dX4_at_4 rfl 1 rfl ?_
    refine V_aload_n C dX4_at_5 rfl 0 rfl ?_
    refine V_get (v := .int cnt) C dX4_at_6 hi4 p hp rfl 1 (by decide) (List.mem_of_getElem? (i := 1) rfl) rfl rfl ?_
    refine V_icmp_ge (tgt := 30) C dX4_at_9 (by decide) (fun zh9 => ?_) (fun zh9 => ?_)
    · refine V_aconst_null C dX4_at_30 ?_
      exact E none () _ _ dX4_at_31 (Or.inl ⟨_, rfl⟩) (by unfold lAt; rw [if_neg (fun q => absurd q.2.1 (Int32.not_lt.mpr zh9))])
    · refine V_iload_n C dX4_at_12 rfl 1 rfl ?_
      refine V_aload_n C dX4_at_13 rfl 0 rfl ?_
      refine V_get (v := .ref al) C dX4_at_14 hi4 p hp rfl 0 (by decide) (List.mem_of_getElem? (i := 2) rfl) rfl rfl ?_
      refine V_alen (v := 40) C dX4_at_17 pl 4 hl9 rfl rfl ?_
      refine V_icmp_ge (tgt := 30) C dX4_at_18 (by decide) (fun zh18 => ?_) (fun zh18 => ?_)
      · refine V_aconst_null C dX4_at_30 ?_
        exact E none () _ _ dX4_at_31 (Or.inl ⟨_, rfl⟩) (by unfold lAt; rw [if_neg (fun q => absurd q.2.2 (Int32.not_lt.mpr zh18))])
      · have zin : 0 ≤ xi.toInt ∧ xi.toInt < 40 := by have q_0 := Int32.le_iff_toInt_le.mp (Int32.not_lt.mp zh1); have q_1 := Int32.lt_iff_toInt_lt.mp (Int32.not_le.mp zh18); have l_0 : (0 : Int32).toInt = 0 := (by decide); have l_1 : (40 : Int32).toInt = 40 := (by decide); omega
        refine V_aload_n C dX4_at_21 rfl 0 rfl ?_
        refine V_get (v := .ref al) C dX4_at_22 hi4 p hp rfl 0 (by decide) (List.mem_of_getElem? (i := 2) rfl) rfl rfl ?_
        refine V_iload_n C dX4_at_25 rfl 1 rfl ?_
        refine V_aald (v := (f (xi.toNatClampNeg))) C dX4_at_26 pl 4 hl9 rfl (xi.toNatClampNeg) rfl (by obtain ⟨q0, q1⟩ := zin; exact vp_in_iff.mpr ⟨q0, q1⟩) rfl ?_
        refine V_goto (tgt := 31) C dX4_at_27 (by decide) ?_
        exact E (f (xi.toNatClampNeg)) () _ _ dX4_at_31 (Or.inl ⟨_, rfl⟩) (by unfold lAt; rw [if_pos ⟨Int32.not_lt.mp zh1, Int32.not_le.mp zh9, Int32.not_le.mp zh18⟩])

