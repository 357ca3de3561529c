def nGrp (N : I6) : I6 := (iO N, iQ N, iA N, 0, 0, false)
def nCl (N I : I6) : Bool := iS N || decide (¬ ((iRg I 1 ||| iRg I 2) &&& iB N) = 0) || decide (¬ (((1 : Int32) <<< (iQ I &&& 31) ||| iPw I) &&& iC N) = 0)
def nAdd (N I : I6) : I6 := if iS I = true then (iO N, iQ N, iA N + 1, 0, 0, false) else (iO N, iQ N, iA N, iB N ||| iRg I 2, iC N ||| iPw I, mCls (iO I))
def nFo (N I : I6) (i c : Int32) : Int32 × I6 := if nFit I c = true then (if nCl N I = true then (2, N) else if i = c - 1 ∧ iMay I = false then (3, N) else (0, nAdd N I)) else (1, N)
set_option maxHeartbeats 4000000 in
set_option maxRecDepth 100000 in
theorem c_X2_beginGroup (l : Launch) (D : va_G) (K : Nat → ClassId) (ws : va_W) (p0 a0 : Nat) (N : I6) (hp0 : ws[p0]? = some (a0, .inr (2, iFs N)))   : vMv l D vwCl (tys0 K) yX2_beginGroup wsX2_beginGroup ({ frames := 0, cells := 0, slots := 0, locals := 0 } : Room) [.ref a0] ws (fun _ : Unit => (ws.set p0 (a0, .inr (2, iFs (nGrp N))))) (fun _ => True) := by
  refine vMv_of (cc := cX2_beginGroup) (nL := 1) (by decide) rfl (Nat.le_of_ble_eq_true rfl) ?_
  intro X C E
  show V X 0 0 ws 0 [(0, .ref a0)] []
  have hi2 : ∀ w ∈ wsX20, w ∈ wsX2_beginGroup := fun _ h => List.mem_cons_of_mem _ (List.mem_append_right _ h)
  refine V_aload_n C dX2_beginGroup_0 rfl 0 rfl ?_
  refine V_iconst (v := 0) C dX2_beginGroup_1 (by decide) ?_
  refine V_put (ws' := (ws.set p0 (a0, .inr (2, [.int (iO N), .int (iQ N), .int (iA N), .int 0, .int (iC N), .int (b2i (iS N))])))) C dX2_beginGroup_2 hi2 tyX2_ok nmX2 p0 hp0 rfl 3 (by decide) (List.mem_of_getElem? (i := 1) rfl) rfl rfl rfl rfl rfl (Nat.le_of_ble_eq_true rfl) rfl ?_
  refine V_aload_n C dX2_beginGroup_5 rfl 0 rfl ?_
  refine V_iconst (v := 0) C dX2_beginGroup_6 (by decide) ?_
  refine V_put (ws' := ((ws.set p0 (a0, .inr (2, [.int (iO N), .int (iQ N), .int (iA N), .int 0, .int (iC N), .int (b2i (iS N))]))).set p0 (a0, .inr (2, [.int (iO N), .int (iQ N), .int (iA N), .int 0, .int 0, .int (b2i (iS N))])))) C dX2_beginGroup_7 hi2 tyX2_ok nmX2 p0 (ws_at hp0) rfl 4 (by decide) (List.mem_of_getElem? (i := 2) rfl) rfl rfl rfl rfl rfl (Nat.le_of_ble_eq_true rfl) rfl ?_
  refine V_aload_n C dX2_beginGroup_10 rfl 0 rfl ?_
  refine V_iconst (v := 0) C dX2_beginGroup_11 (by decide) ?_
  refine V_put (ws' := (((ws.set p0 (a0, .inr (2, [.int (iO N), .int (iQ N), .int (iA N), .int 0, .int (iC N), .int (b2i (iS N))]))).set p0 (a0, .inr (2, [.int (iO N), .int (iQ N), .int (iA N), .int 0, .int 0, .int (b2i (iS N))]))).set p0 (a0, .inr (2, [.int (iO N), .int (iQ N), .int (iA N), .int 0, .int 0, .int (b2i false)])))) C dX2_beginGroup_12 hi2 tyX2_ok nmX2 p0 (ws_at (ws_at hp0)) rfl 5 (by decide) (List.mem_of_getElem? (i := 3) rfl) rfl rfl rfl rfl rfl (Nat.le_of_ble_eq_true rfl) rfl ?_
  refine V_ws (ws' := (ws.set p0 (a0, .inr (2, iFs (nGrp N))))) (by simp only [ws_ss]; rfl) ?_
  exact E () _ _ dX2_beginGroup_15 trivial

set_option maxHeartbeats 4000000 in
set_option maxRecDepth 100000 in
theorem c_X2_clashes (l : Launch) (D : va_G) (K : Nat → ClassId) (G : gE) (tb : Nat → Nat) (ga9 : gAll G tb) (ws : va_W) (p0 a0 : Nat) (N : I6) (hp0 : ws[p0]? = some (a0, .inr (2, iFs N))) (p a : Nat) (I : I6) (hp : ws[p]? = some (a, .inr (3, iFs I))) : gMi l D vwCl (tys0 K) G yX2_clashes wsX2_clashes ({ frames := 3, cells := 0, slots := 0, locals := 63 } : Room) [.ref a0, .ref a] ws (fun _ : Unit => ws) (fun r9 _ => r9 = b2i (nCl N I)) := by
  refine gMi_of (cc := cX2_clashes) (nL := 4) (rt := .boolean) (by decide) rfl (Nat.le_of_ble_eq_true rfl) ?_
  intro X C hg E
  show V X 0 0 ws 0 [(0, .ref a0), (1, .ref a)] []
  have hi2 : ∀ w ∈ wsX20, w ∈ wsX2_clashes := fun _ h => List.mem_cons_of_mem _ (List.mem_append_left _ (List.mem_append_right _ h))
  have go := ga9.1
  have gn := ga9.2.1
  have gt := ga9.2.2
  have zni : p0 ≠ p := pl_ne hp0 hp (by intro q; simp at q)
  refine V_aload_n C dX2_clashes_0 rfl 1 rfl ?_
  refine V_iconst (v := 1) C dX2_clashes_1 (by decide) ?_
  refine V_gcalliV C go hg dX2_clashes_2 p hp rfl (c_X3_registersOf l D K G tb ga9 ws p a I hp 1) gX2_clashes_X3_registersOf rfl 1 rfl (by decide +kernel) (by decide) ⟨Nat.le_of_ble_eq_true rfl, Nat.le_of_ble_eq_true rfl⟩ rfl (Nat.le_of_ble_eq_true rfl) (det0 ?_)
  refine V_aload_n C dX2_clashes_5 rfl 1 rfl ?_
  refine V_iconst (v := 2) C dX2_clashes_6 (by decide) ?_
  refine V_gcalliV C go hg dX2_clashes_7 p hp rfl (c_X3_registersOf l D K G tb ga9 ws p a I hp 2) gX2_clashes_X3_registersOf rfl 1 rfl (by decide +kernel) (by decide) ⟨Nat.le_of_ble_eq_true rfl, Nat.le_of_ble_eq_true rfl⟩ rfl (Nat.le_of_ble_eq_true rfl) (det0 ?_)
  refine V_ior C dX2_clashes_10 ?_
  refine V_istore_n (lv' := [(2, .int ((iRg I 1) ||| (iRg I 2))), (0, .ref a0), (1, .ref a)]) C dX2_clashes_11 rfl (by decide) rfl ?_
  refine V_aload_n C dX2_clashes_12 rfl 2 rfl ?_
  refine V_calliV C dX2_clashes_13 p hp rfl (c_X3_predicatesRead l D K ws p a I hp) gX2_clashes_X3_predicatesRead rfl 0 rfl (by decide +kernel) (by decide) ⟨Nat.le_of_ble_eq_true rfl, Nat.le_of_ble_eq_true rfl⟩ rfl (Nat.le_of_ble_eq_true rfl) (det0 ?_)
  refine V_aload_n C dX2_clashes_16 rfl 2 rfl ?_
  refine V_gcalliV C go hg dX2_clashes_17 p hp rfl (c_X3_predicatesWritten l D K G tb ga9 ws p a I hp) gX2_clashes_X3_predicatesWritten rfl 0 rfl (by decide +kernel) (by decide) ⟨Nat.le_of_ble_eq_true rfl, Nat.le_of_ble_eq_true rfl⟩ rfl (Nat.le_of_ble_eq_true rfl) (det0 ?_)
  refine V_ior C dX2_clashes_20 ?_
  refine V_istore_n (lv' := [(3, .int (((1 : Int32) <<< (iQ I &&& 31)) ||| (iPw I))), (2, .int ((iRg I 1) ||| (iRg I 2))), (0, .ref a0), (1, .ref a)]) C dX2_clashes_21 rfl (by decide) rfl ?_
  refine V_aload_n C dX2_clashes_22 rfl 2 rfl ?_
  refine V_get (v := .int (b2i (iS N))) C dX2_clashes_23 hi2 p0 hp0 rfl 5 (by decide) (List.mem_of_getElem? (i := 1) rfl) rfl rfl ?_
  refine V_ifz_ne (tgt := 47) C dX2_clashes_26 (by decide) (fun zh26 => ?_) (fun zh26 => ?_)
  · refine V_iconst (v := 1) C dX2_clashes_47 (by decide) ?_
    refine V_goto (tgt := 52) C dX2_clashes_48 (by decide) ?_
    exact E 1 () _ _ dX2_clashes_52 rfl (by simp (decide := true) [nCl, b2i, zh26])
  · refine V_iload_n C dX2_clashes_29 rfl 1 rfl ?_
    refine V_aload_n C dX2_clashes_30 rfl 2 rfl ?_
    refine V_get (v := .int (iB N)) C dX2_clashes_31 hi2 p0 hp0 rfl 3 (by decide) (List.mem_of_getElem? (i := 2) rfl) rfl rfl ?_
    refine V_iand C dX2_clashes_34 ?_
    refine V_if_ne (tgt := 47) C dX2_clashes_35 (by decide) (fun zh35 => ?_) (fun zh35 => ?_)
    · refine V_iconst (v := 1) C dX2_clashes_47 (by decide) ?_
      refine V_goto (tgt := 52) C dX2_clashes_48 (by decide) ?_
      exact E 1 () _ _ dX2_clashes_52 rfl (by simp (decide := true) [nCl, b2i, zh26, zh35])
    · refine V_iload_n C dX2_clashes_38 rfl 0 rfl ?_
      refine V_aload_n C dX2_clashes_39 rfl 2 rfl ?_
      refine V_get (v := .int (iC N)) C dX2_clashes_40 hi2 p0 hp0 rfl 4 (by decide) (List.mem_of_getElem? (i := 3) rfl) rfl rfl ?_
      refine V_iand C dX2_clashes_43 ?_
      refine V_if_eq (tgt := 51) C dX2_clashes_44 (by decide) (fun zh44 => ?_) (fun zh44 => ?_)
      · refine V_iconst (v := 0) C dX2_clashes_51 (by decide) ?_
        exact E 0 () _ _ dX2_clashes_52 rfl (by simp (decide := true) [nCl, b2i, zh26, zh35, zh44])
      · refine V_iconst (v := 1) C dX2_clashes_47 (by decide) ?_
        refine V_goto (tgt := 52) C dX2_clashes_48 (by decide) ?_
        exact E 1 () _ _ dX2_clashes_52 rfl (by simp (decide := true) [nCl, b2i, zh26, zh35, zh44])

set_option maxHeartbeats 4000000 in
set_option maxRecDepth 100000 in
theorem c_X2_addToGroup (l : Launch) (D : va_G) (K : Nat → ClassId) (G : gE) (tb : Nat → Nat) (ga9 : gAll G tb) (ws : va_W) (p0 a0 : Nat) (N : I6) (hp0 : ws[p0]? = some (a0, .inr (2, iFs N))) (p a : Nat) (I : I6) (hp : ws[p]? = some (a, .inr (3, iFs I))) : gMv l D vwCl (tys0 K) G yX2_addToGroup wsX2_addToGroup ({ frames := 3, cells := 0, slots := 0, locals := 63 } : Room) [.ref a0, .ref a] ws (fun _ : Unit => (ws.set p0 (a0, .inr (2, iFs (nAdd N I))))) (fun _ => True) := by
  refine gMv_of (cc := cX2_addToGroup) (nL := 2) (by decide) rfl (Nat.le_of_ble_eq_true rfl) ?_
  intro X C hg E
  show V X 0 0 ws 0 [(0, .ref a0), (1, .ref a)] []
  have hi2 : ∀ w ∈ wsX20, w ∈ wsX2_addToGroup := fun _ h => List.mem_cons_of_mem _ (List.mem_append_right _ h)
  have hi3 : ∀ w ∈ wsX30, w ∈ wsX2_addToGroup := fun _ h => List.mem_cons_of_mem _ (List.mem_append_left _ (List.mem_append_right _ h))
  have go := ga9.1
  have gn := ga9.2.1
  have gt := ga9.2.2
  have zni : p0 ≠ p := pl_ne hp0 hp (by intro q; simp at q)
  refine V_aload_n C dX2_addToGroup_0 rfl 1 rfl ?_
  refine V_getN (v := .int (b2i (iS I))) C gn hg dX2_addToGroup_1 hi3 p hp rfl 5 (by decide) (List.mem_of_getElem? (i := 33) rfl) rfl rfl ?_
  refine V_ifz_eq (tgt := 22) C dX2_addToGroup_4 (by decide) (fun zh4 => ?_) (fun zh4 => ?_)
  · refine V_aload_n C dX2_addToGroup_22 rfl 0 rfl ?_
    refine V_dup C dX2_addToGroup_23 rfl ?_
    refine V_get (v := .int (iB N)) C dX2_addToGroup_24 hi2 p0 hp0 rfl 3 (by decide) (List.mem_of_getElem? (i := 2) rfl) rfl rfl ?_
    refine V_aload_n C dX2_addToGroup_27 rfl 1 rfl ?_
    refine V_iconst (v := 2) C dX2_addToGroup_28 (by decide) ?_
    refine V_gcalliV C go hg dX2_addToGroup_29 p hp rfl (c_X3_registersOf l D K G tb ga9 ws p a I hp 2) gX2_addToGroup_X3_registersOf rfl 1 rfl (by decide +kernel) (by decide) ⟨Nat.le_of_ble_eq_true rfl, Nat.le_of_ble_eq_true rfl⟩ rfl (Nat.le_of_ble_eq_true rfl) (det0 ?_)
    refine V_ior C dX2_addToGroup_32 ?_
    refine V_put (ws' := (ws.set p0 (a0, .inr (2, [.int (iO N), .int (iQ N), .int (iA N), .int ((iB N) ||| (iRg I 2)), .int (iC N), .int (b2i (iS N))])))) C dX2_addToGroup_33 hi2 tyX2_ok nmX2 p0 hp0 rfl 3 (by decide) (List.mem_of_getElem? (i := 2) rfl) rfl rfl rfl rfl rfl (Nat.le_of_ble_eq_true rfl) rfl ?_
    refine V_aload_n C dX2_addToGroup_36 rfl 0 rfl ?_
    refine V_dup C dX2_addToGroup_37 rfl ?_
    refine V_get (v := .int (iC N)) C dX2_addToGroup_38 hi2 p0 (ws_at hp0) rfl 4 (by decide) (List.mem_of_getElem? (i := 3) rfl) rfl rfl ?_
    refine V_aload_n C dX2_addToGroup_41 rfl 1 rfl ?_
    refine V_gcalliV C go hg dX2_addToGroup_42 p (ws_ne zni hp) rfl (c_X3_predicatesWritten l D K G tb ga9 (ws.set p0 (a0, .inr (2, [.int (iO N), .int (iQ N), .int (iA N), .int ((iB N) ||| (iRg I 2)), .int (iC N), .int (b2i (iS N))]))) p a I (ws_ne zni hp)) gX2_addToGroup_X3_predicatesWritten rfl 0 rfl (by decide +kernel) (by decide) ⟨Nat.le_of_ble_eq_true rfl, Nat.le_of_ble_eq_true rfl⟩ rfl (Nat.le_of_ble_eq_true rfl) (det0 ?_)
    refine V_ior C dX2_addToGroup_45 ?_
    refine V_put (ws' := ((ws.set p0 (a0, .inr (2, [.int (iO N), .int (iQ N), .int (iA N), .int ((iB N) ||| (iRg I 2)), .int (iC N), .int (b2i (iS N))]))).set p0 (a0, .inr (2, [.int (iO N), .int (iQ N), .int (iA N), .int ((iB N) ||| (iRg I 2)), .int ((iC N) ||| (iPw I)), .int (b2i (iS N))])))) C dX2_addToGroup_46 hi2 tyX2_ok nmX2 p0 (ws_at hp0) rfl 4 (by decide) (List.mem_of_getElem? (i := 3) rfl) rfl rfl rfl rfl rfl (Nat.le_of_ble_eq_true rfl) rfl ?_
    refine V_aload_n C dX2_addToGroup_49 rfl 0 rfl ?_
    refine V_aload_n C dX2_addToGroup_50 rfl 1 rfl ?_
    refine V_calliV C dX2_addToGroup_51 p (ws_ne zni (ws_ne zni hp)) rfl (c_X3_mustEndGroup l D K ((ws.set p0 (a0, .inr (2, [.int (iO N), .int (iQ N), .int (iA N), .int ((iB N) ||| (iRg I 2)), .int (iC N), .int (b2i (iS N))]))).set p0 (a0, .inr (2, [.int (iO N), .int (iQ N), .int (iA N), .int ((iB N) ||| (iRg I 2)), .int ((iC N) ||| (iPw I)), .int (b2i (iS N))]))) p a I (ws_ne zni (ws_ne zni hp))) gX2_addToGroup_X3_mustEndGroup rfl 0 rfl (by decide +kernel) (by decide) ⟨Nat.le_of_ble_eq_true rfl, Nat.le_of_ble_eq_true rfl⟩ rfl (Nat.le_of_ble_eq_true rfl) (det0 ?_)
    refine V_put (ws' := (((ws.set p0 (a0, .inr (2, [.int (iO N), .int (iQ N), .int (iA N), .int ((iB N) ||| (iRg I 2)), .int (iC N), .int (b2i (iS N))]))).set p0 (a0, .inr (2, [.int (iO N), .int (iQ N), .int (iA N), .int ((iB N) ||| (iRg I 2)), .int ((iC N) ||| (iPw I)), .int (b2i (iS N))]))).set p0 (a0, .inr (2, [.int (iO N), .int (iQ N), .int (iA N), .int ((iB N) ||| (iRg I 2)), .int ((iC N) ||| (iPw I)), .int (b2i (mCls (iO I)))])))) C dX2_addToGroup_54 hi2 tyX2_ok nmX2 p0 (ws_at (ws_at hp0)) rfl 5 (by decide) (List.mem_of_getElem? (i := 4) rfl) rfl rfl rfl (nar_b2i _) (fit_b2i _) (Nat.le_of_ble_eq_true rfl) rfl ?_
    refine V_ws (ws' := (ws.set p0 (a0, .inr (2, iFs (nAdd N I))))) (by simp only [ws_ss]; unfold nAdd; rw [if_neg (by rw [zh4]; decide)]; rfl) ?_
    exact E () _ _ dX2_addToGroup_57 trivial
  · refine V_aload_n C dX2_addToGroup_7 rfl 0 rfl ?_
    refine V_dup C dX2_addToGroup_8 rfl ?_
    refine V_get (v := .int (iA N)) C dX2_addToGroup_9 hi2 p0 hp0 rfl 2 (by decide) (List.mem_of_getElem? (i := 1) rfl) rfl rfl ?_
    refine V_iconst (v := 1) C dX2_addToGroup_12 (by decide) ?_
    refine V_iadd C dX2_addToGroup_13 ?_
    refine V_put (ws' := (ws.set p0 (a0, .inr (2, [.int (iO N), .int (iQ N), .int ((iA N) + 1), .int (iB N), .int (iC N), .int (b2i (iS N))])))) C dX2_addToGroup_14 hi2 tyX2_ok nmX2 p0 hp0 rfl 2 (by decide) (List.mem_of_getElem? (i := 1) rfl) rfl rfl rfl rfl rfl (Nat.le_of_ble_eq_true rfl) rfl ?_
    refine V_aload_n C dX2_addToGroup_17 rfl 0 rfl ?_
    refine V_callvV C dX2_addToGroup_18 p0 (ws_at hp0) rfl (c_X2_beginGroup l D K (ws.set p0 (a0, .inr (2, [.int (iO N), .int (iQ N), .int ((iA N) + 1), .int (iB N), .int (iC N), .int (b2i (iS N))]))) p0 a0 ((iO N), (iQ N), ((iA N) + 1), (iB N), (iC N), (iS N)) (ws_at hp0)) gX2_addToGroup_X2_beginGroup rfl 0 rfl (by decide +kernel) (by decide) ⟨Nat.le_of_ble_eq_true rfl, Nat.le_of_ble_eq_true rfl⟩ rfl (Nat.le_of_ble_eq_true rfl) (detv ?_)
    refine V_ws (ws' := ((ws.set p0 (a0, .inr (2, [.int (iO N), .int (iQ N), .int ((iA N) + 1), .int (iB N), .int (iC N), .int (b2i (iS N))]))).set p0 (a0, .inr (2, [.int (iO N), .int (iQ N), .int ((iA N) + 1), .int 0, .int 0, .int (b2i false)])))) rfl ?_
    refine V_ws (ws' := (ws.set p0 (a0, .inr (2, iFs (nAdd N I))))) (by simp only [ws_ss]; unfold nAdd; rw [if_pos zh4]; rfl) ?_
    exact E () _ _ dX2_addToGroup_21 trivial

set_option maxHeartbeats 4000000 in
set_option maxRecDepth 100000 in
theorem c_X2_faultOf (l : Launch) (D : va_G) (K : Nat → ClassId) (G : gE) (tb : Nat → Nat) (ga9 : gAll G tb) (ws : va_W) (p0 a0 : Nat) (N : I6) (hp0 : ws[p0]? = some (a0, .inr (2, iFs N))) (p a : Nat) (I : I6) (hp : ws[p]? = some (a, .inr (3, iFs I))) (xi : Int32) (xc : Int32)  : gMi l D vwCl (tys0 K) G yX2_faultOf wsX2_faultOf ({ frames := 4, cells := 0, slots := 0, locals := 86 } : Room) [.ref a0, .ref a, .int xi, .int xc] ws (fun _ : Unit => (ws.set p0 (a0, .inr (2, iFs (nFo N I xi xc).2)))) (fun r9 _ => r9 = (nFo N I xi xc).1) := by
  refine gMi_of (cc := cX2_faultOf) (nL := 4) (rt := .int) (by decide) rfl (Nat.le_of_ble_eq_true rfl) ?_
  intro X C hg E
  show V X 0 0 ws 0 [(0, .ref a0), (1, .ref a), (2, .int xi), (3, .int xc)] []
  have go := ga9.1
  have gn := ga9.2.1
  have gt := ga9.2.2
  have zni : p0 ≠ p := pl_ne hp0 hp (by intro q; simp at q)
  refine V_aload_n C dX2_faultOf_0 rfl 1 rfl ?_
  refine V_ifnull C dX2_faultOf_1 ?_
  refine V_aload_n C dX2_faultOf_4 rfl 1 rfl ?_
  refine V_iload_n C dX2_faultOf_5 rfl 3 rfl ?_
  refine V_gcalliS C go hg dX2_faultOf_6 (c_X2_numbersFit l D K G tb ga9 ws p a I hp xc) gX2_faultOf_X2_numbersFit rfl 2 rfl (by decide +kernel) (by decide) ⟨Nat.le_of_ble_eq_true rfl, Nat.le_of_ble_eq_true rfl⟩ rfl (Nat.le_of_ble_eq_true rfl) (det0 ?_)
  refine V_ifz_ne (tgt := 14) C dX2_faultOf_9 (by decide) (fun zh9 => ?_) (fun zh9 => ?_)
  · refine V_aload_n C dX2_faultOf_14 rfl 0 rfl ?_
    refine V_aload_n C dX2_faultOf_15 rfl 1 rfl ?_
    refine V_gcalliV C go hg dX2_faultOf_16 p0 hp0 rfl (c_X2_clashes l D K G tb ga9 ws p0 a0 N hp0 p a I hp) gX2_faultOf_X2_clashes rfl 1 rfl (by decide +kernel) (by decide) ⟨Nat.le_of_ble_eq_true rfl, Nat.le_of_ble_eq_true rfl⟩ rfl (Nat.le_of_ble_eq_true rfl) (det0 ?_)
    refine V_ifz_eq (tgt := 24) C dX2_faultOf_19 (by decide) (fun zh19 => ?_) (fun zh19 => ?_)
    · refine V_iload_n C dX2_faultOf_24 rfl 2 rfl ?_
      refine V_iload_n C dX2_faultOf_25 rfl 3 rfl ?_
      refine V_iconst (v := 1) C dX2_faultOf_26 (by decide) ?_
      refine V_isub C dX2_faultOf_27 ?_
      refine V_icmp_ne (tgt := 40) C dX2_faultOf_28 (by decide) (fun zh28 => ?_) (fun zh28 => ?_)
      · refine V_aload_n C dX2_faultOf_40 rfl 0 rfl ?_
        refine V_aload_n C dX2_faultOf_41 rfl 1 rfl ?_
        refine V_gcallvV C go hg dX2_faultOf_42 p0 hp0 rfl (c_X2_addToGroup l D K G tb ga9 ws p0 a0 N hp0 p a I hp) gX2_faultOf_X2_addToGroup rfl 1 rfl (by decide +kernel) (by decide) ⟨Nat.le_of_ble_eq_true rfl, Nat.le_of_ble_eq_true rfl⟩ rfl (Nat.le_of_ble_eq_true rfl) (detv ?_)
        refine V_iconst (v := 0) C dX2_faultOf_45 (by decide) ?_
        refine V_ws (ws' := (ws.set p0 (a0, .inr (2, iFs (nFo N I xi xc).2)))) (by unfold nFo; rw [if_pos zh9, if_neg (by rw [zh19]; decide), if_neg (fun q => zh28 q.1)]) ?_
        exact E 0 () _ _ dX2_faultOf_46 rfl (by unfold nFo; rw [if_pos zh9, if_neg (by rw [zh19]; decide), if_neg (fun q => zh28 q.1)])
      · refine V_aload_n C dX2_faultOf_31 rfl 1 rfl ?_
        refine V_calliV C dX2_faultOf_32 p hp rfl (c_X3_mayEndProgram l D K ws p a I hp) gX2_faultOf_X3_mayEndProgram rfl 0 rfl (by decide +kernel) (by decide) ⟨Nat.le_of_ble_eq_true rfl, Nat.le_of_ble_eq_true rfl⟩ rfl (Nat.le_of_ble_eq_true rfl) (det0 ?_)
        refine V_ifz_ne (tgt := 40) C dX2_faultOf_35 (by decide) (fun zh35 => ?_) (fun zh35 => ?_)
        · refine V_aload_n C dX2_faultOf_40 rfl 0 rfl ?_
          refine V_aload_n C dX2_faultOf_41 rfl 1 rfl ?_
          refine V_gcallvV C go hg dX2_faultOf_42 p0 hp0 rfl (c_X2_addToGroup l D K G tb ga9 ws p0 a0 N hp0 p a I hp) gX2_faultOf_X2_addToGroup rfl 1 rfl (by decide +kernel) (by decide) ⟨Nat.le_of_ble_eq_true rfl, Nat.le_of_ble_eq_true rfl⟩ rfl (Nat.le_of_ble_eq_true rfl) (detv ?_)
          refine V_iconst (v := 0) C dX2_faultOf_45 (by decide) ?_
          refine V_ws (ws' := (ws.set p0 (a0, .inr (2, iFs (nFo N I xi xc).2)))) (by unfold nFo; rw [if_pos zh9, if_neg (by rw [zh19]; decide), if_neg (fun q => absurd (q.2.symm.trans zh35) (by decide))]) ?_
          exact E 0 () _ _ dX2_faultOf_46 rfl (by unfold nFo; rw [if_pos zh9, if_neg (by rw [zh19]; decide), if_neg (fun q => absurd (q.2.symm.trans zh35) (by decide))])
        · refine V_iconst (v := 3) C dX2_faultOf_38 (by decide) ?_
          refine V_ws (ws' := (ws.set p0 (a0, .inr (2, iFs (nFo N I xi xc).2)))) (by unfold nFo; rw [if_pos zh9, if_neg (by rw [zh19]; decide), if_pos ⟨zh28, zh35⟩]; exact (list_set_get hp0).symm) ?_
          exact E 3 () _ _ dX2_faultOf_39 rfl (by unfold nFo; rw [if_pos zh9, if_neg (by rw [zh19]; decide), if_pos ⟨zh28, zh35⟩])
    · refine V_iconst (v := 2) C dX2_faultOf_22 (by decide) ?_
      refine V_ws (ws' := (ws.set p0 (a0, .inr (2, iFs (nFo N I xi xc).2)))) (by unfold nFo; rw [if_pos zh9, if_pos zh19]; exact (list_set_get hp0).symm) ?_
      exact E 2 () _ _ dX2_faultOf_23 rfl (by unfold nFo; rw [if_pos zh9, if_pos zh19])
  · refine V_iconst (v := 1) C dX2_faultOf_12 (by decide) ?_
    refine V_ws (ws' := (ws.set p0 (a0, .inr (2, iFs (nFo N I xi xc).2)))) (by unfold nFo; rw [if_neg (by rw [zh9]; decide)]; exact (list_set_get hp0).symm) ?_
    exact E 1 () _ _ dX2_faultOf_13 rfl (by unfold nFo; rw [if_neg (by rw [zh9]; decide)])

def nIn0 (n : Nat) : I6 := (if n = 0 then 4 else 0, -1, 0, 0, 0, false)
def nIn1 (n : Nat) (II : Nat → I6) (i : Nat) (N : I6) : I6 := ((nFo N (II i) (nI i) (nI n)).1, if (nFo N (II i) (nI i) (nI n)).1 = 0 then iQ (nFo N (II i) (nI i) (nI n)).2 else nI i, iA (nFo N (II i) (nI i) (nI n)).2, iB (nFo N (II i) (nI i) (nI n)).2, iC (nFo N (II i) (nI i) (nI n)).2, iS (nFo N (II i) (nI i) (nI n)).2)
def nInL (n : Nat) (II : Nat → I6) : Nat → Nat → I6 → I6
  | 0, _, N => N
  | f + 1, i, N => if i < n ∧ iO N = 0 then nInL n II f (i + 1) (nIn1 n II i N) else N
def nInsp (n : Nat) (II : Nat → I6) : I6 := nInL n II 41 0 (nIn0 n)
theorem lAt_nI {f : Nat → Option Nat} {n i : Nat} (h : i < n) (hn : n ≤ 40) : lAt (nI n) f (nI i) = f i := by
  unfold lAt
  rw [if_pos ⟨nI_pos' (by omega), nI_lt h (by omega), nI_lt (b := 40) (by omega) (by omega)⟩, nI_clamp (by omega)]
set_option maxHeartbeats 4000000 in
set_option maxRecDepth 100000 in
theorem c_X2_inspect (l : Launch) (D : va_G) (K : Nat → ClassId) (G : gE) (tb : Nat → Nat) (ga9 : gAll G tb) (ws : va_W) (p0 a0 : Nat) (N : I6) (hp0 : ws[p0]? = some (a0, .inr (2, iFs N))) (p pl a al n : Nat) (f : Nat → Option Nat) (hp : ws[p]? = some (a, .inr (4, [.ref al, .int (nI n)]))) (hl9 : ws[pl]? = some (al, .inl (K 4, 40, .inr (.inr (.inr (.inr f)))))) (hn40 : n ≤ 40) (ad pI : Nat → Nat) (II : Nat → I6) (hf : ∀ i, i < n → f i = some (ad i)) (hI : ∀ i, i < n → ws[pI i]? = some (ad i, .inr (3, iFs (II i)))) : gMv l D vwCl (tys0 K) G yX2_inspect wsX2_inspect ({ frames := 5, cells := 0, slots := 0, locals := 109 } : Room) [.ref a0, .ref a] ws (fun _ : Unit => ws.set p0 (a0, .inr (2, iFs (nInsp n II)))) (fun _ => True) := by
  refine gMv_of (cc := cX2_inspect) (nL := 4) (by decide) rfl (Nat.le_of_ble_eq_true rfl) ?_
  intro X C hg E
  show V X 0 0 ws 0 [(0, .ref a0), (1, .ref a)] []
  have hi2 : ∀ w ∈ wsX20, w ∈ wsX2_inspect := fun _ h => List.mem_cons_of_mem _ (List.mem_append_left _ (List.mem_append_left _ (List.mem_append_right _ h)))
  have go := ga9.1
  have gn := ga9.2.1
  have gt := ga9.2.2
  have zn1 : p0 ≠ p := pl_ne hp0 hp (by intro q; simp at q)
  have zn2 : p0 ≠ pl := pl_ne hp0 hl9 (by intro q; simp at q)
  have znI : ∀ i, i < n → p0 ≠ pI i := fun i hi => pl_ne hp0 (hI i hi) (by intro q; simp at q)
  refine V_aload_n C dX2_inspect_0 rfl 1 rfl ?_
  refine V_calliV C dX2_inspect_1 p hp rfl (c_X4_size l D K ws p a al (nI n) hp) gX2_inspect_X4_size rfl 0 rfl (by decide +kernel) (by decide) ⟨Nat.le_of_ble_eq_true rfl, Nat.le_of_ble_eq_true rfl⟩ rfl (Nat.le_of_ble_eq_true rfl) (det0 ?_)
  refine V_istore_n (lv' := [(2, .int (nI n)), (0, .ref a0), (1, .ref a)]) C dX2_inspect_4 rfl (by decide) rfl ?_
  refine V_aload_n C dX2_inspect_5 rfl 1 rfl ?_
  suffices zj15 : ∀ xf : Int32, xf = (if n = 0 then 4 else 0) → V X 0 0 ws 15 [(2, .int (nI n)), (0, .ref a0), (1, .ref a)] [.int xf, .ref a0] by
    refine V_iload_n C dX2_inspect_6 rfl 0 rfl ?_
    refine V_if_ne (tgt := 14) C dX2_inspect_7 (by decide) (fun zh7 => ?_) (fun zh7 => ?_)
    · refine V_iconst (v := 0) C dX2_inspect_14 (by decide) ?_
      refine V_sub [0, 1, 2] rfl ?_
      exact zj15 0 (by rw [if_neg (fun q => zh7 (by rw [q]; exact nI_0))])
    · refine V_iconst (v := 4) C dX2_inspect_10 (by decide) ?_
      refine V_goto (tgt := 15) C dX2_inspect_11 (by decide) ?_
      refine V_sub [0, 1, 2] rfl ?_
      exact zj15 4 (by rw [if_pos ((nI_eq (by omega) (by omega)).mp (zh7.trans nI_0.symm))])
  intro xf e_xf
  refine V_put (ws' := (ws.set p0 (a0, .inr (2, [.int xf, .int (iQ N), .int (iA N), .int (iB N), .int (iC N), .int (b2i (iS N))])))) C dX2_inspect_15 hi2 tyX2_ok nmX2 p0 hp0 rfl 0 (by decide) (List.mem_of_getElem? (i := 1) rfl) rfl rfl rfl rfl rfl (Nat.le_of_ble_eq_true rfl) rfl ?_
  refine V_aload_n C dX2_inspect_18 rfl 1 rfl ?_
  refine V_iconst (v := (-1)) C dX2_inspect_19 (by decide) ?_
  refine V_put (ws' := ((ws.set p0 (a0, .inr (2, [.int xf, .int (iQ N), .int (iA N), .int (iB N), .int (iC N), .int (b2i (iS N))]))).set p0 (a0, .inr (2, [.int xf, .int (-1), .int (iA N), .int (iB N), .int (iC N), .int (b2i (iS N))])))) C dX2_inspect_20 hi2 tyX2_ok nmX2 p0 (ws_at hp0) rfl 1 (by decide) (List.mem_of_getElem? (i := 2) rfl) rfl rfl rfl rfl rfl (Nat.le_of_ble_eq_true rfl) rfl ?_
  refine V_aload_n C dX2_inspect_23 rfl 1 rfl ?_
  refine V_iconst (v := 0) C dX2_inspect_24 (by decide) ?_
  refine V_put (ws' := (((ws.set p0 (a0, .inr (2, [.int xf, .int (iQ N), .int (iA N), .int (iB N), .int (iC N), .int (b2i (iS N))]))).set p0 (a0, .inr (2, [.int xf, .int (-1), .int (iA N), .int (iB N), .int (iC N), .int (b2i (iS N))]))).set p0 (a0, .inr (2, [.int xf, .int (-1), .int 0, .int (iB N), .int (iC N), .int (b2i (iS N))])))) C dX2_inspect_25 hi2 tyX2_ok nmX2 p0 (ws_at (ws_at hp0)) rfl 2 (by decide) (List.mem_of_getElem? (i := 3) rfl) rfl rfl rfl rfl rfl (Nat.le_of_ble_eq_true rfl) rfl ?_
  refine V_aload_n C dX2_inspect_28 rfl 1 rfl ?_
  refine V_callvV C dX2_inspect_29 p0 (ws_at (ws_at (ws_at hp0))) rfl (c_X2_beginGroup l D K (((ws.set p0 (a0, .inr (2, [.int xf, .int (iQ N), .int (iA N), .int (iB N), .int (iC N), .int (b2i (iS N))]))).set p0 (a0, .inr (2, [.int xf, .int (-1), .int (iA N), .int (iB N), .int (iC N), .int (b2i (iS N))]))).set p0 (a0, .inr (2, [.int xf, .int (-1), .int 0, .int (iB N), .int (iC N), .int (b2i (iS N))]))) p0 a0 (xf, (-1), 0, (iB N), (iC N), (iS N)) (ws_at (ws_at (ws_at hp0)))) gX2_inspect_X2_beginGroup rfl 0 rfl (by decide +kernel) (by decide) ⟨Nat.le_of_ble_eq_true rfl, Nat.le_of_ble_eq_true rfl⟩ rfl (Nat.le_of_ble_eq_true rfl) (detv ?_)
  refine V_ws (ws' := ((((ws.set p0 (a0, .inr (2, [.int xf, .int (iQ N), .int (iA N), .int (iB N), .int (iC N), .int (b2i (iS N))]))).set p0 (a0, .inr (2, [.int xf, .int (-1), .int (iA N), .int (iB N), .int (iC N), .int (b2i (iS N))]))).set p0 (a0, .inr (2, [.int xf, .int (-1), .int 0, .int (iB N), .int (iC N), .int (b2i (iS N))]))).set p0 (a0, .inr (2, [.int xf, .int (-1), .int 0, .int 0, .int 0, .int (b2i false)])))) rfl ?_
  refine V_iconst (v := 0) C dX2_inspect_32 (by decide) ?_
  refine V_istore_n (lv' := [(3, .int 0), (2, .int (nI n)), (0, .ref a0), (1, .ref a)]) C dX2_inspect_33 rfl (by decide) rfl ?_
  refine V_ws (ws' := ws.set p0 (a0, .inr (2, iFs (nIn0 n)))) (by simp only [ws_ss]; rw [e_xf]; rfl) ?_
  suffices zx : V X 0 0 (ws.set p0 (a0, .inr (2, iFs (nInsp n II)))) 79 [(0, .ref a0)] [] by
    have zl : ∀ (m i : Nat) (M : I6), i ≤ n → n - i < m → nInL n II m i M = nInsp n II → V X 0 0 (ws.set p0 (a0, .inr (2, iFs M))) 34 [(3, .int (nI i)), (2, .int (nI n)), (0, .ref a0), (1, .ref a)] [] := by
      intro m
      induction m with
      | zero =>
        intro i M hi9 him hF
        omega
      | succ m ih =>
        intro i M hi9 him hF
        refine V_iload_n C dX2_inspect_34 rfl 0 rfl ?_
        refine V_iload_n C dX2_inspect_35 rfl 1 rfl ?_
        refine V_icmp_ge (tgt := 79) C dX2_inspect_36 (by decide) (fun zh36 => ?_) (fun zh36 => ?_)
        · have zi : ¬ i < n := fun q => absurd zh36 (nI_ge q (by omega))
          rw [nInL, if_neg (fun q => zi q.1)] at hF
          rw [hF]
          exact V_sub [2] rfl zx
        · have zi : i < n := (Nat.lt_or_ge i n).elim id (fun q => absurd (nI_le q (by omega)) zh36)
          refine V_aload_n C dX2_inspect_39 rfl 2 rfl ?_
          refine V_get (v := .int (iO M)) C dX2_inspect_40 hi2 p0 (ws_at hp0) rfl 0 (by decide) (List.mem_of_getElem? (i := 1) rfl) rfl rfl ?_
          refine V_if_ne (tgt := 79) C dX2_inspect_43 (by decide) (fun zh43 => ?_) (fun zh43 => ?_)
          · rw [nInL, if_neg (fun q => zh43 q.2)] at hF
            rw [hF]
            exact V_sub [2] rfl zx
          · refine V_aload_n C dX2_inspect_46 rfl 2 rfl ?_
            refine V_aload_n C dX2_inspect_47 rfl 2 rfl ?_
            refine V_aload_n C dX2_inspect_48 rfl 3 rfl ?_
            refine V_iload_n C dX2_inspect_49 rfl 0 rfl ?_
            refine V_gcallqV C go hg dX2_inspect_50 p (ws_ne zn1 hp) rfl (c_X4_at l D K G (ws.set p0 (a0, .inr (2, iFs M))) p pl a al (nI n) f (ws_ne zn1 hp) (ws_ne zn2 hl9) (nI i)) gX2_inspect_X4_at rfl 1 rfl (by decide +kernel) (by decide) ⟨Nat.le_of_ble_eq_true rfl, Nat.le_of_ble_eq_true rfl⟩ rfl (Nat.le_of_ble_eq_true rfl) (det0 ?_)
            rw [lAt_nI zi hn40, hf i zi]
            refine V_iload_n C dX2_inspect_53 rfl 0 rfl ?_
            refine V_iload_n C dX2_inspect_54 rfl 1 rfl ?_
            refine V_gcalliV C go hg dX2_inspect_55 p0 (ws_at hp0) rfl (c_X2_faultOf l D K G tb ga9 (ws.set p0 (a0, .inr (2, iFs M))) p0 a0 M (ws_at hp0) (pI i) (ad i) (II i) (ws_ne (znI i zi) (hI i zi)) (nI i) (nI n)) gX2_inspect_X2_faultOf rfl 3 rfl (by decide +kernel) (by decide) ⟨Nat.le_of_ble_eq_true rfl, Nat.le_of_ble_eq_true rfl⟩ rfl (Nat.le_of_ble_eq_true rfl) (det0 ?_)
            refine V_put (ws' := (((ws.set p0 (a0, .inr (2, iFs M))).set p0 (a0, .inr (2, iFs (nFo M (II i) (nI i) (nI n)).2))).set p0 (a0, .inr (2, [.int (nFo M (II i) (nI i) (nI n)).1, .int (iQ (nFo M (II i) (nI i) (nI n)).2), .int (iA (nFo M (II i) (nI i) (nI n)).2), .int (iB (nFo M (II i) (nI i) (nI n)).2), .int (iC (nFo M (II i) (nI i) (nI n)).2), .int (b2i (iS (nFo M (II i) (nI i) (nI n)).2))])))) C dX2_inspect_58 hi2 tyX2_ok nmX2 p0 (ws_at (ws_at hp0)) rfl 0 (by decide) (List.mem_of_getElem? (i := 1) rfl) rfl rfl rfl rfl rfl (Nat.le_of_ble_eq_true rfl) rfl ?_
            refine V_aload_n C dX2_inspect_61 rfl 2 rfl ?_
            refine V_get (v := .int (nFo M (II i) (nI i) (nI n)).1) C dX2_inspect_62 hi2 p0 (ws_at (ws_at (ws_at hp0))) rfl 0 (by decide) (List.mem_of_getElem? (i := 1) rfl) rfl rfl ?_
            refine V_if_eq (tgt := 73) C dX2_inspect_65 (by decide) (fun zh65 => ?_) (fun zh65 => ?_)
            · refine V_iinc (lv' := [(3, .int (nI (i + 1))), (2, .int (nI n)), (0, .ref a0), (1, .ref a)]) C dX2_inspect_73 (j := 0) rfl (nI_1 _) (by decide) rfl ?_
              refine V_goto (tgt := 34) C dX2_inspect_76 (by decide) ?_
              refine V_ws (ws' := ws.set p0 (a0, .inr (2, iFs (nIn1 n II i M)))) (by simp only [ws_ss]; unfold nIn1; rw [if_pos zh65]; rfl) ?_
              rw [nInL, if_pos ⟨zi, zh43⟩] at hF
              exact V_sub [0, 1, 2, 3] rfl (ih (i + 1) _ (by omega) (by omega) hF)
            · refine V_aload_n C dX2_inspect_68 rfl 2 rfl ?_
              refine V_iload_n C dX2_inspect_69 rfl 0 rfl ?_
              refine V_put (ws' := ((((ws.set p0 (a0, .inr (2, iFs M))).set p0 (a0, .inr (2, iFs (nFo M (II i) (nI i) (nI n)).2))).set p0 (a0, .inr (2, [.int (nFo M (II i) (nI i) (nI n)).1, .int (iQ (nFo M (II i) (nI i) (nI n)).2), .int (iA (nFo M (II i) (nI i) (nI n)).2), .int (iB (nFo M (II i) (nI i) (nI n)).2), .int (iC (nFo M (II i) (nI i) (nI n)).2), .int (b2i (iS (nFo M (II i) (nI i) (nI n)).2))]))).set p0 (a0, .inr (2, [.int (nFo M (II i) (nI i) (nI n)).1, .int (nI i), .int (iA (nFo M (II i) (nI i) (nI n)).2), .int (iB (nFo M (II i) (nI i) (nI n)).2), .int (iC (nFo M (II i) (nI i) (nI n)).2), .int (b2i (iS (nFo M (II i) (nI i) (nI n)).2))])))) C dX2_inspect_70 hi2 tyX2_ok nmX2 p0 (ws_at (ws_at (ws_at hp0))) rfl 1 (by decide) (List.mem_of_getElem? (i := 2) rfl) rfl rfl rfl rfl rfl (Nat.le_of_ble_eq_true rfl) rfl ?_
              refine V_iinc (lv' := [(3, .int (nI (i + 1))), (2, .int (nI n)), (0, .ref a0), (1, .ref a)]) C dX2_inspect_73 (j := 0) rfl (nI_1 _) (by decide) rfl ?_
              refine V_goto (tgt := 34) C dX2_inspect_76 (by decide) ?_
              refine V_ws (ws' := ws.set p0 (a0, .inr (2, iFs (nIn1 n II i M)))) (by simp only [ws_ss]; unfold nIn1; rw [if_neg zh65]; rfl) ?_
              rw [nInL, if_pos ⟨zi, zh43⟩] at hF
              exact V_sub [0, 1, 2, 3] rfl (ih (i + 1) _ (by omega) (by omega) hF)
    exact V_sub [0, 1, 2, 3] rfl (zl 41 0 (nIn0 n) (by omega) (by omega) rfl)
  exact E () _ _ dX2_inspect_79 trivial

