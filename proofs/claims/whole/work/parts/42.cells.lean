theorem detv {P : Unit → Prop} (h : P ()) : ∀ u : Unit, True → P u := fun _ _ => h
theorem pl_ne {ws : va_W} {p q : Nat} {x y : Nat × va_E} (hp : ws[p]? = some x) (hq : ws[q]? = some y) (h : x ≠ y) : p ≠ q := fun e => by
  subst e; rw [hp] at hq; exact h (Option.some.inj hq)
/-- a Cells object of N places -/
def cHas (N : Nat) (i : Int64) : Bool := decide (0 ≤ i ∧ i < lN N)
theorem cHas_in {N : Nat} {i : Int64} (hN : N < 2 ^ 31) (h : cHas N i = true) : vp_in i.toInt32 N := by
  obtain ⟨h1, h2⟩ := of_decide_eq_true h
  have g1 := Int64.le_iff_toInt_le.mp h1
  have g2 := Int64.lt_iff_toInt_lt.mp h2
  have e0 : (0 : Int64).toInt = 0 := by decide
  rw [lN_toInt hN] at g2
  have e : i.toInt32.toInt = i.toInt := by
    rw [Int64.toInt_toInt32]
    apply Int.bmod_eq_of_le <;> omega
  exact vp_in_iff.mpr ⟨by omega, by omega⟩
abbrev ix64 (i : Int64) : Nat := i.toInt32.toNatClampNeg
def cVal (N : Nat) (f : Nat → Int64) (i : Int64) : Int64 := if cHas N i = true then f (ix64 i) else 0
def cNat (N : Nat) (g : Nat → Bool) (i : Int64) : Bool := cHas N i && g (ix64 i)
def cWv (N : Nat) (f : Nat → Int64) (i v : Int64) : Nat → Int64 := if cHas N i = true then vp_updL f (ix64 i) v else f
def cWn (N : Nat) (g : Nat → Bool) (i : Int64) (b : Bool) : Nat → Bool := if cHas N i = true then va_up g (ix64 i) b else g
/-- a world with a Cells object's two rows anew -/
def cset (K : Nat → ClassId) (ws : va_W) (pv pn av an N : Nat) (f : Nat → Int64) (g : Nat → Bool) : va_W := (ws.set pv (av, .inl (K 1, N, .inr (.inl f)))).set pn (an, .inl (K 2, N, .inl (fun i => b2i (g i))))
theorem cset_o {K : Nat → ClassId} {ws : va_W} {pv pn av an N p : Nat} {f : Nat → Int64} {g : Nat → Bool} {x : Nat × va_E} (h1 : pv ≠ p) (h2 : pn ≠ p) (h : ws[p]? = some x) : (cset K ws pv pn av an N f g)[p]? = some x := ws_ne h2 (ws_ne h1 h)
theorem cset_v {K : Nat → ClassId} {ws : va_W} {pv pn av an N : Nat} {f : Nat → Int64} {g : Nat → Bool} {x : Nat × va_E} (h1 : pn ≠ pv) (h : ws[pv]? = some x) : (cset K ws pv pn av an N f g)[pv]? = some (av, .inl (K 1, N, .inr (.inl f))) := ws_ne h1 (ws_at h)
theorem cset_n {K : Nat → ClassId} {ws : va_W} {pv pn av an N : Nat} {f : Nat → Int64} {g : Nat → Bool} {x : Nat × va_E} (h1 : pv ≠ pn) (h : ws[pn]? = some x) : (cset K ws pv pn av an N f g)[pn]? = some (an, .inl (K 2, N, .inl (fun i => b2i (g i)))) := ws_at (ws_ne h1 h)
theorem list_set_get {α : Type} {l : List α} {p : Nat} {x : α} (h : l[p]? = some x) : l.set p x = l := by
  apply List.ext_getElem?
  intro j
  by_cases e : p = j
  · subst e; rw [List.getElem?_set_self (List.getElem?_eq_some_iff.mp h).1, h]
  · rw [List.getElem?_set_ne e]
theorem cset_self {K : Nat → ClassId} {ws : va_W} {pv pn av an N : Nat} {f : Nat → Int64} {g : Nat → Bool} (hv : ws[pv]? = some (av, .inl (K 1, N, .inr (.inl f)))) (hn : ws[pn]? = some (an, .inl (K 2, N, .inl (fun i => b2i (g i))))) : cset K ws pv pn av an N f g = ws := by
  unfold cset
  rw [list_set_get hv, list_set_get hn]
theorem cset_cset {K : Nat → ClassId} {ws : va_W} {pv pn av an N : Nat} {f f2 : Nat → Int64} {g g2 : Nat → Bool} (h1 : pv ≠ pn) : cset K (cset K ws pv pn av an N f g) pv pn av an N f2 g2 = cset K ws pv pn av an N f2 g2 := by
  unfold cset
  rw [List.set_comm _ _ h1, ws_ss]
  have e : ((ws.set pv (av, .inl (K 1, N, .inr (.inl f)))).set pn (an, .inl (K 2, N, .inl (fun i => b2i (g2 i))))).set pv (av, .inl (K 1, N, .inr (.inl f2))) = ((ws.set pv (av, .inl (K 1, N, .inr (.inl f)))).set pv (av, .inl (K 1, N, .inr (.inl f2)))).set pn (an, .inl (K 2, N, .inl (fun i => b2i (g2 i)))) := List.set_comm _ _ (Ne.symm h1)
  first | (rw [e, ws_ss]; done) | (rw [ws_ss]; done) | rfl
set_option maxHeartbeats 4000000 in
set_option maxRecDepth 100000 in
theorem c_X0_has (l : Launch) (D : va_G) (K : Nat → ClassId) (ws : va_W) (p pv pn a av an N : Nat) (f : Nat → Int64) (g : Nat → Bool) (hp : ws[p]? = some (a, .inr (0, [.ref av, .ref an]))) (hv : ws[pv]? = some (av, .inl (K 1, N, .inr (.inl f)))) (hn : ws[pn]? = some (an, .inl (K 2, N, .inl (fun i => b2i (g i))))) (hN : N < 2 ^ 31) (xi : Int64)  : vMi l D vwCl (tys0 K) yX0_has wsX0_has ({ frames := 0, cells := 0, slots := 0, locals := 0 } : Room) [.ref a, .long xi] ws (fun _ : Unit => ws) (fun r9 _ => r9 = b2i (cHas N xi)) := by
  refine vMi_of (cc := cX0_has) (nL := 3) (rt := .boolean) (by decide) rfl (Nat.le_of_ble_eq_true rfl) ?_
  intro X C E
  show V X 0 0 ws 0 [(0, .ref a), (1, .long xi)] []
  have hi0 : ∀ w ∈ wsX00, w ∈ wsX0_has := fun _ h => List.mem_cons_of_mem _ (List.mem_append_right _ h)
  have zpv : pv ≠ p := pl_ne hv hp (by intro q; simp at q)
  have zpn : pn ≠ p := pl_ne hn hp (by intro q; simp at q)
  have zvn : pv ≠ pn := pl_ne hv hn (by intro q; simp at q)
  refine V_lload_n C dX0_has_0 rfl 1 rfl ?_
  refine V_lconst (v := 0) C dX0_has_1 (by decide) ?_
  refine V_lcmp C dX0_has_2 ?_
  refine V_lc_lt (tgt := 32) C dX0_has_3 (by decide) (fun zh3 => ?_) (fun zh3 => ?_)
  · refine V_iconst (v := 0) C dX0_has_32 (by decide) ?_
    exact E 0 () _ _ dX0_has_33 rfl (by simp (decide := true) [cHas, b2i, zh3, Int64.not_le.mpr zh3])
  · refine V_lload_n C dX0_has_6 rfl 1 rfl ?_
    refine V_aload_n C dX0_has_7 rfl 0 rfl ?_
    refine V_get (v := .ref av) C dX0_has_8 hi0 p hp rfl 0 (by decide) (List.mem_of_getElem? (i := 1) rfl) rfl rfl ?_
    refine V_alen (v := nI N) C dX0_has_11 pv 1 hv rfl rfl ?_
    refine V_i2l C dX0_has_12 ?_
    rw [nI_l hN]
    refine V_lcmp C dX0_has_13 ?_
    refine V_lc_ge (tgt := 32) C dX0_has_14 (by decide) (fun zh14 => ?_) (fun zh14 => ?_)
    · refine V_iconst (v := 0) C dX0_has_32 (by decide) ?_
      exact E 0 () _ _ dX0_has_33 rfl (by simp (decide := true) [cHas, b2i, zh3, Int64.not_lt.mp zh3, zh14, Int64.not_lt.mpr zh14])
    · refine V_lload_n C dX0_has_17 rfl 1 rfl ?_
      refine V_aload_n C dX0_has_18 rfl 0 rfl ?_
      refine V_get (v := .ref an) C dX0_has_19 hi0 p hp rfl 1 (by decide) (List.mem_of_getElem? (i := 2) rfl) rfl rfl ?_
      refine V_alen (v := nI N) C dX0_has_22 pn 2 hn rfl rfl ?_
      refine V_i2l C dX0_has_23 ?_
      rw [nI_l hN]
      refine V_lcmp C dX0_has_24 ?_
      refine V_lc_ge (tgt := 32) C dX0_has_25 (by decide) (fun zh25 => ?_) (fun zh25 => ?_)
      · first | exact absurd zh25 zh14 | exact absurd zh14 zh25 | exact absurd (Int32.not_lt.mp zh25) zh14 | exact absurd (Int32.not_le.mp zh25) zh14 | exact absurd zh25 (Int32.not_lt.mpr zh14) | exact absurd zh25 (Int32.not_le.mpr zh14) | exact absurd (Int32.not_lt.mp zh14) (Int32.not_le.mpr zh25) | (rw [zh14] at zh25; cases zh25)
      · refine V_iconst (v := 1) C dX0_has_28 (by decide) ?_
        refine V_goto (tgt := 33) C dX0_has_29 (by decide) ?_
        exact E 1 () _ _ dX0_has_33 rfl (by simp (decide := true) [cHas, b2i, zh3, Int64.not_lt.mp zh3, zh14, Int64.not_le.mp zh14, zh25, Int64.not_le.mp zh25])

set_option maxHeartbeats 4000000 in
set_option maxRecDepth 100000 in
theorem c_X0_valueAt (l : Launch) (D : va_G) (K : Nat → ClassId) (ws : va_W) (p pv pn a av an N : Nat) (f : Nat → Int64) (g : Nat → Bool) (hp : ws[p]? = some (a, .inr (0, [.ref av, .ref an]))) (hv : ws[pv]? = some (av, .inl (K 1, N, .inr (.inl f)))) (hn : ws[pn]? = some (an, .inl (K 2, N, .inl (fun i => b2i (g i))))) (hN : N < 2 ^ 31) (xi : Int64)  : vMl l D vwCl (tys0 K) yX0_valueAt wsX0_valueAt ({ frames := 1, cells := 0, slots := 0, locals := 22 } : Room) [.ref a, .long xi] ws (fun _ : Unit => ws) (fun r9 _ => r9 = cVal N f xi) := by
  refine vMl_of (cc := cX0_valueAt) (nL := 3) (by decide) rfl (Nat.le_of_ble_eq_true rfl) ?_
  intro X C E
  show V X 0 0 ws 0 [(0, .ref a), (1, .long xi)] []
  have hi0 : ∀ w ∈ wsX00, w ∈ wsX0_valueAt := fun _ h => List.mem_cons_of_mem _ (List.mem_append_right _ h)
  have zpv : pv ≠ p := pl_ne hv hp (by intro q; simp at q)
  have zpn : pn ≠ p := pl_ne hn hp (by intro q; simp at q)
  have zvn : pv ≠ pn := pl_ne hv hn (by intro q; simp at q)
  refine V_aload_n C dX0_valueAt_0 rfl 0 rfl ?_
  refine V_lload_n C dX0_valueAt_1 rfl 1 rfl ?_
  refine V_calliV C dX0_valueAt_2 p hp rfl (c_X0_has l D K ws p pv pn a av an N f g hp hv hn hN xi) gX0_valueAt_X0_has rfl 1 rfl (by decide +kernel) (by decide) ⟨Nat.le_of_ble_eq_true rfl, Nat.le_of_ble_eq_true rfl⟩ rfl (Nat.le_of_ble_eq_true rfl) (det0 ?_)
  refine V_ifz_eq (tgt := 18) C dX0_valueAt_5 (by decide) (fun zh5 => ?_) (fun zh5 => ?_)
  · refine V_lconst (v := 0) C dX0_valueAt_18 (by decide) ?_
    exact E 0 () _ _ dX0_valueAt_19 (by simp (decide := true) [cVal, zh5])
  · refine V_aload_n C dX0_valueAt_8 rfl 0 rfl ?_
    refine V_get (v := .ref av) C dX0_valueAt_9 hi0 p hp rfl 0 (by decide) (List.mem_of_getElem? (i := 1) rfl) rfl rfl ?_
    refine V_lload_n C dX0_valueAt_12 rfl 1 rfl ?_
    refine V_l2i C dX0_valueAt_13 ?_
    refine V_laldn (v := (f ((Int64.toInt32 xi).toNatClampNeg))) C dX0_valueAt_14 pv 1 hv rfl ((Int64.toInt32 xi).toNatClampNeg) rfl (cHas_in hN zh5) rfl ?_
    refine V_goto (tgt := 19) C dX0_valueAt_15 (by decide) ?_
    exact E (f ((Int64.toInt32 xi).toNatClampNeg)) () _ _ dX0_valueAt_19 (by simp (decide := true) [cVal, zh5])

set_option maxHeartbeats 4000000 in
set_option maxRecDepth 100000 in
theorem c_X0_natAt (l : Launch) (D : va_G) (K : Nat → ClassId) (ws : va_W) (p pv pn a av an N : Nat) (f : Nat → Int64) (g : Nat → Bool) (hp : ws[p]? = some (a, .inr (0, [.ref av, .ref an]))) (hv : ws[pv]? = some (av, .inl (K 1, N, .inr (.inl f)))) (hn : ws[pn]? = some (an, .inl (K 2, N, .inl (fun i => b2i (g i))))) (hN : N < 2 ^ 31) (xi : Int64)  : vMi l D vwCl (tys0 K) yX0_natAt wsX0_natAt ({ frames := 1, cells := 0, slots := 0, locals := 22 } : Room) [.ref a, .long xi] ws (fun _ : Unit => ws) (fun r9 _ => r9 = b2i (cNat N g xi)) := by
  refine vMi_of (cc := cX0_natAt) (nL := 3) (rt := .boolean) (by decide) rfl (Nat.le_of_ble_eq_true rfl) ?_
  intro X C E
  show V X 0 0 ws 0 [(0, .ref a), (1, .long xi)] []
  have hi0 : ∀ w ∈ wsX00, w ∈ wsX0_natAt := fun _ h => List.mem_cons_of_mem _ (List.mem_append_right _ h)
  have zpv : pv ≠ p := pl_ne hv hp (by intro q; simp at q)
  have zpn : pn ≠ p := pl_ne hn hp (by intro q; simp at q)
  have zvn : pv ≠ pn := pl_ne hv hn (by intro q; simp at q)
  refine V_aload_n C dX0_natAt_0 rfl 0 rfl ?_
  refine V_lload_n C dX0_natAt_1 rfl 1 rfl ?_
  refine V_calliV C dX0_natAt_2 p hp rfl (c_X0_has l D K ws p pv pn a av an N f g hp hv hn hN xi) gX0_natAt_X0_has rfl 1 rfl (by decide +kernel) (by decide) ⟨Nat.le_of_ble_eq_true rfl, Nat.le_of_ble_eq_true rfl⟩ rfl (Nat.le_of_ble_eq_true rfl) (det0 ?_)
  refine V_ifz_eq (tgt := 22) C dX0_natAt_5 (by decide) (fun zh5 => ?_) (fun zh5 => ?_)
  · refine V_iconst (v := 0) C dX0_natAt_22 (by decide) ?_
    exact E 0 () _ _ dX0_natAt_23 rfl (by simp (decide := true) [cNat, b2i, zh5])
  · refine V_aload_n C dX0_natAt_8 rfl 0 rfl ?_
    refine V_get (v := .ref an) C dX0_natAt_9 hi0 p hp rfl 1 (by decide) (List.mem_of_getElem? (i := 1) rfl) rfl rfl ?_
    refine V_lload_n C dX0_natAt_12 rfl 1 rfl ?_
    refine V_l2i C dX0_natAt_13 ?_
    refine V_zaldn (v := (b2i (g ((Int64.toInt32 xi).toNatClampNeg)))) C dX0_natAt_14 pn 2 hn rfl ((Int64.toInt32 xi).toNatClampNeg) rfl (cHas_in hN zh5) rfl ?_
    refine V_ifz_eq (tgt := 22) C dX0_natAt_15 (by decide) (fun zh15 => ?_) (fun zh15 => ?_)
    · refine V_iconst (v := 0) C dX0_natAt_22 (by decide) ?_
      exact E 0 () _ _ dX0_natAt_23 rfl (by simp (decide := true) [cNat, b2i, zh5, zh15])
    · refine V_iconst (v := 1) C dX0_natAt_18 (by decide) ?_
      refine V_goto (tgt := 23) C dX0_natAt_19 (by decide) ?_
      exact E 1 () _ _ dX0_natAt_23 rfl (by simp (decide := true) [cNat, b2i, zh5, zh15])

set_option maxHeartbeats 4000000 in
set_option maxRecDepth 100000 in
theorem c_X0_write (l : Launch) (D : va_G) (K : Nat → ClassId) (ws : va_W) (p pv pn a av an N : Nat) (f : Nat → Int64) (g : Nat → Bool) (hp : ws[p]? = some (a, .inr (0, [.ref av, .ref an]))) (hv : ws[pv]? = some (av, .inl (K 1, N, .inr (.inl f)))) (hn : ws[pn]? = some (an, .inl (K 2, N, .inl (fun i => b2i (g i))))) (hN : N < 2 ^ 31) (xi : Int64) (xv : Int64) (xb : Bool)  : vMv l D vwCl (tys0 K) yX0_write wsX0_write ({ frames := 1, cells := 0, slots := 0, locals := 22 } : Room) [.ref a, .long xi, .long xv, .int (b2i xb)] ws (fun _ : Unit => (cset K ws pv pn av an N (cWv N f xi xv) (cWn N g xi xb))) (fun _ => True) := by
  refine vMv_of (cc := cX0_write) (nL := 6) (by decide) rfl (Nat.le_of_ble_eq_true rfl) ?_
  intro X C E
  show V X 0 0 ws 0 [(0, .ref a), (1, .long xi), (3, .long xv), (5, .int (b2i xb))] []
  have hi0 : ∀ w ∈ wsX00, w ∈ wsX0_write := fun _ h => List.mem_cons_of_mem _ (List.mem_append_right _ h)
  have zpv : pv ≠ p := pl_ne hv hp (by intro q; simp at q)
  have zpn : pn ≠ p := pl_ne hn hp (by intro q; simp at q)
  have zvn : pv ≠ pn := pl_ne hv hn (by intro q; simp at q)
  refine V_aload_n C dX0_write_0 rfl 0 rfl ?_
  refine V_lload_n C dX0_write_1 rfl 1 rfl ?_
  refine V_calliV C dX0_write_2 p hp rfl (c_X0_has l D K ws p pv pn a av an N f g hp hv hn hN xi) gX0_write_X0_has rfl 1 rfl (by decide +kernel) (by decide) ⟨Nat.le_of_ble_eq_true rfl, Nat.le_of_ble_eq_true rfl⟩ rfl (Nat.le_of_ble_eq_true rfl) (det0 ?_)
  refine V_ifz_eq (tgt := 25) C dX0_write_5 (by decide) (fun zh5 => ?_) (fun zh5 => ?_)
  · refine V_ws (ws' := (cset K ws pv pn av an N (cWv N f xi xv) (cWn N g xi xb))) (by unfold cWv cWn; rw [if_neg (by rw [zh5]; decide), if_neg (by rw [zh5]; decide), cset_self hv hn]) ?_
    exact E () _ _ dX0_write_25 trivial
  · refine V_aload_n C dX0_write_8 rfl 0 rfl ?_
    refine V_get (v := .ref av) C dX0_write_9 hi0 p hp rfl 0 (by decide) (List.mem_of_getElem? (i := 1) rfl) rfl rfl ?_
    refine V_lload_n C dX0_write_12 rfl 1 rfl ?_
    refine V_l2i C dX0_write_13 ?_
    refine V_lload_n C dX0_write_14 rfl 2 rfl ?_
    refine V_lastn (ws' := (ws.set pv (av, .inl (K 1, N, .inr (.inl (vp_updL f ((Int64.toInt32 xi).toNatClampNeg) xv)))))) C dX0_write_15 pv 1 hv rfl ((Int64.toInt32 xi).toNatClampNeg) rfl (cHas_in hN zh5) rfl ?_
    refine V_aload_n C dX0_write_16 rfl 0 rfl ?_
    refine V_get (v := .ref an) C dX0_write_17 hi0 p (ws_ne zpv hp) rfl 1 (by decide) (List.mem_of_getElem? (i := 2) rfl) rfl rfl ?_
    refine V_lload_n C dX0_write_20 rfl 1 rfl ?_
    refine V_l2i C dX0_write_21 ?_
    refine V_iload C dX0_write_22 3 rfl ?_
    refine V_zastn (ws' := ((ws.set pv (av, .inl (K 1, N, .inr (.inl (vp_updL f ((Int64.toInt32 xi).toNatClampNeg) xv))))).set pn (an, .inl (K 2, N, .inl (fun i => b2i ((va_up g ((Int64.toInt32 xi).toNatClampNeg) xb) i)))))) C dX0_write_24 pn 2 (ws_ne zvn hn) rfl ((Int64.toInt32 xi).toNatClampNeg) rfl (cHas_in hN zh5) (by first | (rw [upd_b2i]; done) | (rw [← upd_b2i]; rfl)) ?_
    refine V_ws (ws' := (cset K ws pv pn av an N (cWv N f xi xv) (cWn N g xi xb))) (by unfold cWv cWn; rw [if_pos zh5, if_pos zh5]; rfl) ?_
    exact E () _ _ dX0_write_25 trivial

def zFn (f : Nat → Int64) (a b : Nat) : Nat → Int64 := fun i => if a ≤ i ∧ i < b then 0 else f i
def zGn (g : Nat → Bool) (a b : Nat) : Nat → Bool := fun i => if a ≤ i ∧ i < b then false else g i
theorem zFn_id (f : Nat → Int64) {a b : Nat} (h : b ≤ a) : zFn f a b = f := by funext i; unfold zFn; rw [if_neg (by omega)]
theorem zGn_id (g : Nat → Bool) {a b : Nat} (h : b ≤ a) : zGn g a b = g := by funext i; unfold zGn; rw [if_neg (by omega)]
theorem cHas_nI {N j : Nat} (hN : N < 2 ^ 31) (h : j < N) : cHas N (nI j).toInt64 = true := by
  unfold cHas
  rw [nI_l (by omega)]
  refine decide_eq_true ⟨?_, (lN_lt (by omega) hN).mpr h⟩
  have := (lN_le (a := 0) (b := j) (by omega) (by omega)).mpr (Nat.zero_le j)
  exact this
theorem ix64_nI {j : Nat} (h : j < 2 ^ 31) : ix64 (nI j).toInt64 = j := by
  unfold ix64; rw [nI_l h, lN_i, nI_clamp h]
theorem zFn_succ (f : Nat → Int64) {a j N : Nat} (hN : N < 2 ^ 31) (h : a ≤ j) (hj : j < N) : cWv N (zFn f a j) (nI j).toInt64 0 = zFn f a (j + 1) := by
  unfold cWv; rw [if_pos (cHas_nI hN hj), ix64_nI (by omega)]
  funext i; unfold vp_updL zFn
  by_cases e : i = j
  · subst e; simp [h]
  · rw [if_neg e]; congr 1; apply propext; omega
theorem zGn_succ (g : Nat → Bool) {a j N : Nat} (hN : N < 2 ^ 31) (h : a ≤ j) (hj : j < N) : cWn N (zGn g a j) (nI j).toInt64 false = zGn g a (j + 1) := by
  unfold cWn; rw [if_pos (cHas_nI hN hj), ix64_nI (by omega)]
  funext i; unfold va_up zGn
  by_cases e : i = j
  · subst e; simp [h]
  · rw [if_neg e]; congr 1; apply propext; omega
set_option maxHeartbeats 4000000 in
set_option maxRecDepth 100000 in
theorem c_X0_clearFrom (l : Launch) (D : va_G) (K : Nat → ClassId) (ws : va_W) (p pv pn a av an N : Nat) (f : Nat → Int64) (g : Nat → Bool) (hp : ws[p]? = some (a, .inr (0, [.ref av, .ref an]))) (hv : ws[pv]? = some (av, .inl (K 1, N, .inr (.inl f)))) (hn : ws[pn]? = some (an, .inl (K 2, N, .inl (fun i => b2i (g i))))) (hN : N < 2 ^ 31) (ca cb : Nat) (hca : ca < 2 ^ 31) (hcb : cb ≤ N) : vMv l D vwCl (tys0 K) yX0_clearFrom wsX0_clearFrom ({ frames := 2, cells := 0, slots := 0, locals := 47 } : Room) [.ref a, .int (nI ca), .int (nI cb)] ws (fun _ : Unit => (cset K ws pv pn av an N (zFn f ca cb) (zGn g ca cb))) (fun _ => True) := by
  refine vMv_of (cc := cX0_clearFrom) (nL := 4) (by decide) rfl (Nat.le_of_ble_eq_true rfl) ?_
  intro X C E
  show V X 0 0 ws 0 [(0, .ref a), (1, .int (nI ca)), (2, .int (nI cb))] []
  have hi0 : ∀ w ∈ wsX00, w ∈ wsX0_clearFrom := fun _ h => List.mem_cons_of_mem _ (List.mem_append_right _ h)
  have zpv : pv ≠ p := pl_ne hv hp (by intro q; simp at q)
  have zpn : pn ≠ p := pl_ne hn hp (by intro q; simp at q)
  have zvn : pv ≠ pn := pl_ne hv hn (by intro q; simp at q)
  refine V_iload_n C dX0_clearFrom_0 rfl 1 rfl ?_
  refine V_istore_n (lv' := [(3, .int (nI ca)), (0, .ref a), (1, .int (nI ca)), (2, .int (nI cb))]) C dX0_clearFrom_1 rfl (by decide) rfl ?_
  suffices zx : V X 0 0 (cset K ws pv pn av an N (zFn f ca cb) (zGn g ca cb)) 21 [(0, .ref a)] [] by
    have zl : ∀ (m j : Nat), ca ≤ j → (j ≤ cb ∨ j = ca) → cb - j = m → V X 0 0 (cset K ws pv pn av an N (zFn f ca j) (zGn g ca j)) 2 [(3, .int (nI j)), (0, .ref a), (1, .int (nI ca)), (2, .int (nI cb))] [] := by
      intro m
      induction m with
      | zero =>
        intro j hj hj2 hjm
        refine V_iload_n C dX0_clearFrom_2 rfl 0 rfl ?_
        refine V_iload_n C dX0_clearFrom_3 rfl 3 rfl ?_
        refine V_icmp_ge (tgt := 21) C dX0_clearFrom_4 (by decide) (fun zh4 => ?_) (fun zh4 => ?_)
        · rw [show zFn f ca j = zFn f ca cb from by rcases hj2 with q | q; rw [show j = cb by omega]; rw [q, zFn_id f (Nat.le_refl ca), zFn_id f (by omega)], show zGn g ca j = zGn g ca cb from by rcases hj2 with q | q; rw [show j = cb by omega]; rw [q, zGn_id g (Nat.le_refl ca), zGn_id g (by omega)]]
          exact V_sub [1] rfl zx
        · exact absurd (nI_le (a := cb) (b := j) (by omega) (by omega)) zh4
      | succ m ih =>
        intro j hj hj2 hjm
        refine V_iload_n C dX0_clearFrom_2 rfl 0 rfl ?_
        refine V_iload_n C dX0_clearFrom_3 rfl 3 rfl ?_
        refine V_icmp_ge (tgt := 21) C dX0_clearFrom_4 (by decide) (fun zh4 => ?_) (fun zh4 => ?_)
        · exact absurd zh4 (nI_ge (a := j) (b := cb) (by omega) (by omega))
        · refine V_aload_n C dX0_clearFrom_7 rfl 1 rfl ?_
          refine V_iload_n C dX0_clearFrom_8 rfl 0 rfl ?_
          refine V_i2l C dX0_clearFrom_9 ?_
          refine V_lconst (v := 0) C dX0_clearFrom_10 (by decide) ?_
          refine V_iconst (v := 0) C dX0_clearFrom_11 (by decide) ?_
          refine V_callvV C dX0_clearFrom_12 p (cset_o zpv zpn hp) rfl (c_X0_write l D K (cset K ws pv pn av an N (zFn f ca j) (zGn g ca j)) p pv pn a av an N (zFn f ca j) (zGn g ca j) (cset_o zpv zpn hp) (cset_v (Ne.symm zvn) hv) (cset_n zvn hn) hN (Int32.toInt64 (nI j)) 0 false) gX0_clearFrom_X0_write rfl 3 rfl (by decide +kernel) (by decide) ⟨Nat.le_of_ble_eq_true rfl, Nat.le_of_ble_eq_true rfl⟩ rfl (Nat.le_of_ble_eq_true rfl) (detv ?_)
          refine V_iinc (lv' := [(3, .int (nI (j + 1))), (0, .ref a), (1, .int (nI ca)), (2, .int (nI cb))]) C dX0_clearFrom_15 (j := 0) rfl (nI_1 _) (by decide) rfl ?_
          refine V_goto (tgt := 2) C dX0_clearFrom_18 (by decide) ?_
          exact V_ws (by rw [cset_cset zvn, zFn_succ f hN hj (by omega), zGn_succ g hN hj (by omega)]) (V_sub [0, 1, 2, 3] rfl (ih (j + 1) (by omega) (Or.inl (by omega)) (by omega)))
    exact V_ws (by rw [zFn_id f (Nat.le_refl ca), zGn_id g (Nat.le_refl ca), cset_self hv hn]) (V_sub [0, 1, 2, 3] rfl (zl (cb - ca) ca (Nat.le_refl ca) (Or.inr rfl) rfl))
  exact E () _ _ dX0_clearFrom_21 trivial

