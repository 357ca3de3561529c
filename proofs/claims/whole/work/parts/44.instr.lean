abbrev I6 : Type := Int32 × Int32 × Int32 × Int32 × Int32 × Bool
def iO (I : I6) : Int32 := I.1
def iQ (I : I6) : Int32 := I.2.1
def iA (I : I6) : Int32 := I.2.2.1
def iB (I : I6) : Int32 := I.2.2.2.1
def iC (I : I6) : Int32 := I.2.2.2.2.1
def iS (I : I6) : Bool := I.2.2.2.2.2
def iFs (I : I6) : List Value := [.int (iO I), .int (iQ I), .int (iA I), .int (iB I), .int (iC I), .int (b2i (iS I))]
def kd (k : Nat) (o : Int32) : Int32 := if 0 ≤ o ∧ o < 21 then kTab k o.toNatClampNeg else 0
def iRg (I : I6) (k : Int32) : Int32 :=
  if kd 2 (iO I) = k then (if kd 1 (iO I) = k then (if kd 0 (iO I) = k then ((0 : Int32) ||| ((1 : Int32) <<< (iA I &&& 31))) else (0 : Int32)) ||| ((1 : Int32) <<< (iB I &&& 31)) else (if kd 0 (iO I) = k then ((0 : Int32) ||| ((1 : Int32) <<< (iA I &&& 31))) else 0)) ||| ((1 : Int32) <<< (iC I &&& 31)) else (if kd 1 (iO I) = k then (if kd 0 (iO I) = k then ((0 : Int32) ||| ((1 : Int32) <<< (iA I &&& 31))) else (0 : Int32)) ||| ((1 : Int32) <<< (iB I &&& 31)) else (if kd 0 (iO I) = k then ((0 : Int32) ||| ((1 : Int32) <<< (iA I &&& 31))) else 0))
def iPw (I : I6) : Int32 := if kd 0 (iO I) = 3 then 3 <<< (iA I &&& 31) else 0
def iMay (I : I6) : Bool := mEnds (iO I) && iS I && decide (iQ I = 0)
def nFits (k n c : Int32) : Bool := if k = 1 then !mOut n 0 31 else if k = 2 then !mOut n 1 31 else if k = 3 then !mOut n 1 14 else if k = 4 then !mOut n 0 (c - 1) else true
def fFits (I : I6) : Bool := !mOut (iA I) 0 24 && !mOut (iB I) 0 (iA I) && decide (iC I = 0 ∨ iC I = 8 ∨ iC I = 16) && decide (iC I ≤ iA I)
def nFit (I : I6) (c : Int32) : Bool := if iO I = 17 then fFits I else if iO I = 18 then !mOut (iA I) 0 20 && !mOut (iB I) 0 20 else nFits (kd 0 (iO I)) (iA I) c && nFits (kd 1 (iO I)) (iB I) c && nFits (kd 2 (iO I)) (iC I) c
theorem kd_in {x : Int32} (h1 : ¬ x < 0) (h2 : ¬ 21 ≤ x) : vp_in x 21 := by
  have q_0 := Int32.le_iff_toInt_le.mp (Int32.not_lt.mp h1)
  have q_1 := Int32.lt_iff_toInt_lt.mp (Int32.not_le.mp h2)
  have l_0 : (0 : Int32).toInt = 0 := (by decide)
  have l_1 : (21 : Int32).toInt = 21 := (by decide)
  exact vp_in_iff.mpr ⟨by omega, by omega⟩
set_option maxHeartbeats 4000000 in
set_option maxRecDepth 100000 in
theorem c_X3_kindIn (l : Launch) (D : va_G) (K : Nat → ClassId) (G : gE) (tb : Nat → Nat) (ga9 : gAll G tb) (ws : va_W) (p a : Nat) (I : I6) (hp : ws[p]? = some (a, .inr (3, iFs I))) (k9 : Nat) (hk9 : k9 < 3) : gMi l D vwCl (tys0 K) G yX3_kindIn wsX3_kindIn ({ frames := 0, cells := 0, slots := 0, locals := 0 } : Room) [.ref a, .ref (tb k9)] ws (fun _ : Unit => ws) (fun r9 _ => r9 = kd k9 (iO I)) := by
  refine gMi_of (cc := cX3_kindIn) (nL := 2) (rt := .int) (by decide) rfl (Nat.le_of_ble_eq_true rfl) ?_
  intro X C hg E
  show V X 0 0 ws 0 [(0, .ref a), (1, .ref (tb k9))] []
  have hi3 : ∀ w ∈ wsX30, w ∈ wsX3_kindIn := fun _ h => List.mem_cons_of_mem _ (List.mem_append_right _ h)
  have go := ga9.1
  have gn := ga9.2.1
  have gt := ga9.2.2
  refine V_aload_n C dX3_kindIn_0 rfl 0 rfl ?_
  refine V_get (v := .int (iO I)) C dX3_kindIn_1 hi3 p hp rfl 0 (by decide) (List.mem_of_getElem? (i := 1) rfl) rfl rfl ?_
  refine V_if_lt (tgt := 25) C dX3_kindIn_4 (by decide) (fun zh4 => ?_) (fun zh4 => ?_)
  · refine V_iconst (v := 0) C dX3_kindIn_25 (by decide) ?_
    exact E 0 () _ _ dX3_kindIn_26 rfl (by unfold kd; rw [if_neg (fun q => absurd q.1 (Int32.not_le.mpr zh4))])
  · refine V_aload_n C dX3_kindIn_7 rfl 0 rfl ?_
    refine V_get (v := .int (iO I)) C dX3_kindIn_8 hi3 p hp rfl 0 (by decide) (List.mem_of_getElem? (i := 1) rfl) rfl rfl ?_
    refine V_aload_n C dX3_kindIn_11 rfl 1 rfl ?_
    refine V_tlen (v := 21) C dX3_kindIn_12 (vG_mono (fun A U H q => (gt A U H q k9 hk9).2) hg) rfl ?_
    refine V_icmp_ge (tgt := 25) C dX3_kindIn_13 (by decide) (fun zh13 => ?_) (fun zh13 => ?_)
    · refine V_iconst (v := 0) C dX3_kindIn_25 (by decide) ?_
      exact E 0 () _ _ dX3_kindIn_26 rfl (by unfold kd; rw [if_neg (fun q => absurd q.2 (Int32.not_lt.mpr zh13))])
    · refine V_aload_n C dX3_kindIn_16 rfl 1 rfl ?_
      refine V_aload_n C dX3_kindIn_17 rfl 0 rfl ?_
      refine V_get (v := .int (iO I)) C dX3_kindIn_18 hi3 p hp rfl 0 (by decide) (List.mem_of_getElem? (i := 1) rfl) rfl rfl ?_
      refine V_tald (v := .int (kTab k9 (iO I).toNatClampNeg)) C dX3_kindIn_21 (vG_mono (fun A U H q => (gt A U H q k9 hk9).2) hg) (kd_in zh4 zh13) rfl ?_
      refine V_goto (tgt := 26) C dX3_kindIn_22 (by decide) ?_
      exact E (kTab k9 (iO I).toNatClampNeg) () _ _ dX3_kindIn_26 rfl (by unfold kd; rw [if_pos ⟨Int32.not_lt.mp zh4, Int32.not_le.mp zh13⟩])

set_option maxHeartbeats 4000000 in
set_option maxRecDepth 100000 in
theorem c_X3_kindOfA (l : Launch) (D : va_G) (K : Nat → ClassId) (G : gE) (tb : Nat → Nat) (ga9 : gAll G tb) (ws : va_W) (p a : Nat) (I : I6) (hp : ws[p]? = some (a, .inr (3, iFs I))) : gMi l D vwCl (tys0 K) G yX3_kindOfA wsX3_kindOfA ({ frames := 1, cells := 0, slots := 0, locals := 21 } : Room) [.ref a] ws (fun _ : Unit => ws) (fun r9 _ => r9 = kd 0 (iO I)) := by
  refine gMi_of (cc := cX3_kindOfA) (nL := 1) (rt := .int) (by decide) rfl (Nat.le_of_ble_eq_true rfl) ?_
  intro X C hg E
  show V X 0 0 ws 0 [(0, .ref a)] []
  have go := ga9.1
  have gn := ga9.2.1
  have gt := ga9.2.2
  refine V_aload_n C dX3_kindOfA_0 rfl 0 rfl ?_
  refine V_getsN C gn gt hg 0 (by decide) dX3_kindOfA_1 (List.mem_of_getElem? (i := 34) rfl) ?_
  refine V_gcalliV C go hg dX3_kindOfA_4 p hp rfl (c_X3_kindIn l D K G tb ga9 ws p a I hp 0 (by decide)) gX3_kindOfA_X3_kindIn rfl 1 rfl (by decide +kernel) (by decide) ⟨Nat.le_of_ble_eq_true rfl, Nat.le_of_ble_eq_true rfl⟩ rfl (Nat.le_of_ble_eq_true rfl) (det0 ?_)
  exact E _ () _ _ dX3_kindOfA_7 rfl rfl

set_option maxHeartbeats 4000000 in
set_option maxRecDepth 100000 in
theorem c_X3_kindOfB (l : Launch) (D : va_G) (K : Nat → ClassId) (G : gE) (tb : Nat → Nat) (ga9 : gAll G tb) (ws : va_W) (p a : Nat) (I : I6) (hp : ws[p]? = some (a, .inr (3, iFs I))) : gMi l D vwCl (tys0 K) G yX3_kindOfB wsX3_kindOfB ({ frames := 1, cells := 0, slots := 0, locals := 21 } : Room) [.ref a] ws (fun _ : Unit => ws) (fun r9 _ => r9 = kd 1 (iO I)) := by
  refine gMi_of (cc := cX3_kindOfB) (nL := 1) (rt := .int) (by decide) rfl (Nat.le_of_ble_eq_true rfl) ?_
  intro X C hg E
  show V X 0 0 ws 0 [(0, .ref a)] []
  have go := ga9.1
  have gn := ga9.2.1
  have gt := ga9.2.2
  refine V_aload_n C dX3_kindOfB_0 rfl 0 rfl ?_
  refine V_getsN C gn gt hg 1 (by decide) dX3_kindOfB_1 (List.mem_of_getElem? (i := 35) rfl) ?_
  refine V_gcalliV C go hg dX3_kindOfB_4 p hp rfl (c_X3_kindIn l D K G tb ga9 ws p a I hp 1 (by decide)) gX3_kindOfB_X3_kindIn rfl 1 rfl (by decide +kernel) (by decide) ⟨Nat.le_of_ble_eq_true rfl, Nat.le_of_ble_eq_true rfl⟩ rfl (Nat.le_of_ble_eq_true rfl) (det0 ?_)
  exact E _ () _ _ dX3_kindOfB_7 rfl rfl

set_option maxHeartbeats 4000000 in
set_option maxRecDepth 100000 in
theorem c_X3_kindOfC (l : Launch) (D : va_G) (K : Nat → ClassId) (G : gE) (tb : Nat → Nat) (ga9 : gAll G tb) (ws : va_W) (p a : Nat) (I : I6) (hp : ws[p]? = some (a, .inr (3, iFs I))) : gMi l D vwCl (tys0 K) G yX3_kindOfC wsX3_kindOfC ({ frames := 1, cells := 0, slots := 0, locals := 21 } : Room) [.ref a] ws (fun _ : Unit => ws) (fun r9 _ => r9 = kd 2 (iO I)) := by
  refine gMi_of (cc := cX3_kindOfC) (nL := 1) (rt := .int) (by decide) rfl (Nat.le_of_ble_eq_true rfl) ?_
  intro X C hg E
  show V X 0 0 ws 0 [(0, .ref a)] []
  have go := ga9.1
  have gn := ga9.2.1
  have gt := ga9.2.2
  refine V_aload_n C dX3_kindOfC_0 rfl 0 rfl ?_
  refine V_getsN C gn gt hg 2 (by decide) dX3_kindOfC_1 (List.mem_of_getElem? (i := 36) rfl) ?_
  refine V_gcalliV C go hg dX3_kindOfC_4 p hp rfl (c_X3_kindIn l D K G tb ga9 ws p a I hp 2 (by decide)) gX3_kindOfC_X3_kindIn rfl 1 rfl (by decide +kernel) (by decide) ⟨Nat.le_of_ble_eq_true rfl, Nat.le_of_ble_eq_true rfl⟩ rfl (Nat.le_of_ble_eq_true rfl) (det0 ?_)
  exact E _ () _ _ dX3_kindOfC_7 rfl rfl

set_option maxHeartbeats 4000000 in
set_option maxRecDepth 100000 in
theorem c_X3_registersOf (l : Launch) (D : va_G) (K : Nat → ClassId) (G : gE) (tb : Nat → Nat) (ga9 : gAll G tb) (ws : va_W) (p a : Nat) (I : I6) (hp : ws[p]? = some (a, .inr (3, iFs I))) (xk : Int32)  : gMi l D vwCl (tys0 K) G yX3_registersOf wsX3_registersOf ({ frames := 2, cells := 0, slots := 0, locals := 41 } : Room) [.ref a, .int xk] ws (fun _ : Unit => ws) (fun r9 _ => r9 = iRg I xk) := by
  refine gMi_of (cc := cX3_registersOf) (nL := 3) (rt := .int) (by decide) rfl (Nat.le_of_ble_eq_true rfl) ?_
  intro X C hg E
  show V X 0 0 ws 0 [(0, .ref a), (1, .int xk)] []
  have hi3 : ∀ w ∈ wsX30, w ∈ wsX3_registersOf := fun _ h => List.mem_cons_of_mem _ (List.mem_append_right _ h)
  have go := ga9.1
  have gn := ga9.2.1
  have gt := ga9.2.2
  refine V_iconst (v := 0) C dX3_registersOf_0 (by decide) ?_
  refine V_istore_n (lv' := [(2, .int 0), (0, .ref a), (1, .int xk)]) C dX3_registersOf_1 rfl (by decide) rfl ?_
  suffices zj19 : ∀ xb1 : Int32, xb1 = (if kd 0 (iO I) = xk then ((0 : Int32) ||| (1 <<< (iA I &&& 31))) else 0) → V X 0 0 ws 19 [(2, .int xb1), (0, .ref a), (1, .int xk)] [] by
    refine V_aload_n C dX3_registersOf_2 rfl 1 rfl ?_
    refine V_gcalliV C go hg dX3_registersOf_3 p hp rfl (c_X3_kindOfA l D K G tb ga9 ws p a I hp) gX3_registersOf_X3_kindOfA rfl 0 rfl (by decide +kernel) (by decide) ⟨Nat.le_of_ble_eq_true rfl, Nat.le_of_ble_eq_true rfl⟩ rfl (Nat.le_of_ble_eq_true rfl) (det0 ?_)
    refine V_iload_n C dX3_registersOf_6 rfl 2 rfl ?_
    refine V_icmp_ne (tgt := 19) C dX3_registersOf_7 (by decide) (fun zh7 => ?_) (fun zh7 => ?_)
    · refine V_sub [0, 1, 2] rfl ?_
      exact zj19 0 (by first | rfl | (simp (decide := true) [b2i, gi_si, zh7]; done) | (simp (decide := true) [b2i, gi_si, zh7]; rfl) | (simp_all (decide := true) [b2i, gi_si]; done))
    · refine V_iload_n C dX3_registersOf_10 rfl 0 rfl ?_
      refine V_iconst (v := 1) C dX3_registersOf_11 (by decide) ?_
      refine V_aload_n C dX3_registersOf_12 rfl 1 rfl ?_
      refine V_get (v := .int (iA I)) C dX3_registersOf_13 hi3 p hp rfl 2 (by decide) (List.mem_of_getElem? (i := 1) rfl) rfl rfl ?_
      refine V_ishl C dX3_registersOf_16 ?_
      refine V_ior C dX3_registersOf_17 ?_
      refine V_istore_n (lv' := [(2, .int ((0 : Int32) ||| ((1 : Int32) <<< ((iA I) &&& 31)))), (0, .ref a), (1, .int xk)]) C dX3_registersOf_18 rfl (by decide) rfl ?_
      refine V_sub [0, 1, 2] rfl ?_
      exact zj19 ((0 : Int32) ||| ((1 : Int32) <<< ((iA I) &&& 31))) (by first | rfl | (simp (decide := true) [b2i, gi_si, zh7]; done) | (simp (decide := true) [b2i, gi_si, zh7]; rfl) | (simp_all (decide := true) [b2i, gi_si]; done))
  intro xb1 e_xb1
  suffices zj36 : ∀ xb2 : Int32, xb2 = (if kd 1 (iO I) = xk then (xb1 ||| (1 <<< (iB I &&& 31))) else xb1) → V X 0 0 ws 36 [(2, .int xb2), (0, .ref a), (1, .int xk)] [] by
    refine V_aload_n C dX3_registersOf_19 rfl 1 rfl ?_
    refine V_gcalliV C go hg dX3_registersOf_20 p hp rfl (c_X3_kindOfB l D K G tb ga9 ws p a I hp) gX3_registersOf_X3_kindOfB rfl 0 rfl (by decide +kernel) (by decide) ⟨Nat.le_of_ble_eq_true rfl, Nat.le_of_ble_eq_true rfl⟩ rfl (Nat.le_of_ble_eq_true rfl) (det0 ?_)
    refine V_iload_n C dX3_registersOf_23 rfl 2 rfl ?_
    refine V_icmp_ne (tgt := 36) C dX3_registersOf_24 (by decide) (fun zh24 => ?_) (fun zh24 => ?_)
    · refine V_sub [0, 1, 2] rfl ?_
      exact zj36 xb1 (by first | rfl | (simp (decide := true) [b2i, gi_si, zh24]; done) | (simp (decide := true) [b2i, gi_si, zh24]; rfl) | (simp_all (decide := true) [b2i, gi_si]; done))
    · refine V_iload_n C dX3_registersOf_27 rfl 0 rfl ?_
      refine V_iconst (v := 1) C dX3_registersOf_28 (by decide) ?_
      refine V_aload_n C dX3_registersOf_29 rfl 1 rfl ?_
      refine V_get (v := .int (iB I)) C dX3_registersOf_30 hi3 p hp rfl 3 (by decide) (List.mem_of_getElem? (i := 2) rfl) rfl rfl ?_
      refine V_ishl C dX3_registersOf_33 ?_
      refine V_ior C dX3_registersOf_34 ?_
      refine V_istore_n (lv' := [(2, .int (xb1 ||| ((1 : Int32) <<< ((iB I) &&& 31)))), (0, .ref a), (1, .int xk)]) C dX3_registersOf_35 rfl (by decide) rfl ?_
      refine V_sub [0, 1, 2] rfl ?_
      exact zj36 (xb1 ||| ((1 : Int32) <<< ((iB I) &&& 31))) (by first | rfl | (simp (decide := true) [b2i, gi_si, zh24]; done) | (simp (decide := true) [b2i, gi_si, zh24]; rfl) | (simp_all (decide := true) [b2i, gi_si]; done))
  intro xb2 e_xb2
  suffices zj53 : ∀ xb3 : Int32, xb3 = (if kd 2 (iO I) = xk then (xb2 ||| (1 <<< (iC I &&& 31))) else xb2) → V X 0 0 ws 53 [(2, .int xb3), (0, .ref a), (1, .int xk)] [] by
    refine V_aload_n C dX3_registersOf_36 rfl 1 rfl ?_
    refine V_gcalliV C go hg dX3_registersOf_37 p hp rfl (c_X3_kindOfC l D K G tb ga9 ws p a I hp) gX3_registersOf_X3_kindOfC rfl 0 rfl (by decide +kernel) (by decide) ⟨Nat.le_of_ble_eq_true rfl, Nat.le_of_ble_eq_true rfl⟩ rfl (Nat.le_of_ble_eq_true rfl) (det0 ?_)
    refine V_iload_n C dX3_registersOf_40 rfl 2 rfl ?_
    refine V_icmp_ne (tgt := 53) C dX3_registersOf_41 (by decide) (fun zh41 => ?_) (fun zh41 => ?_)
    · refine V_sub [0, 1, 2] rfl ?_
      exact zj53 xb2 (by first | rfl | (simp (decide := true) [b2i, gi_si, zh41]; done) | (simp (decide := true) [b2i, gi_si, zh41]; rfl) | (simp_all (decide := true) [b2i, gi_si]; done))
    · refine V_iload_n C dX3_registersOf_44 rfl 0 rfl ?_
      refine V_iconst (v := 1) C dX3_registersOf_45 (by decide) ?_
      refine V_aload_n C dX3_registersOf_46 rfl 1 rfl ?_
      refine V_get (v := .int (iC I)) C dX3_registersOf_47 hi3 p hp rfl 4 (by decide) (List.mem_of_getElem? (i := 3) rfl) rfl rfl ?_
      refine V_ishl C dX3_registersOf_50 ?_
      refine V_ior C dX3_registersOf_51 ?_
      refine V_istore_n (lv' := [(2, .int (xb2 ||| ((1 : Int32) <<< ((iC I) &&& 31)))), (0, .ref a), (1, .int xk)]) C dX3_registersOf_52 rfl (by decide) rfl ?_
      refine V_sub [0, 1, 2] rfl ?_
      exact zj53 (xb2 ||| ((1 : Int32) <<< ((iC I) &&& 31))) (by first | rfl | (simp (decide := true) [b2i, gi_si, zh41]; done) | (simp (decide := true) [b2i, gi_si, zh41]; rfl) | (simp_all (decide := true) [b2i, gi_si]; done))
  intro xb3 e_xb3
  refine V_iload_n C dX3_registersOf_53 rfl 0 rfl ?_
  exact E xb3 () _ _ dX3_registersOf_54 rfl (by rw [e_xb3, e_xb2, e_xb1]; rfl)

set_option maxHeartbeats 4000000 in
set_option maxRecDepth 100000 in
theorem c_X3_predicatesRead (l : Launch) (D : va_G) (K : Nat → ClassId) (ws : va_W) (p a : Nat) (I : I6) (hp : ws[p]? = some (a, .inr (3, iFs I)))   : vMi l D vwCl (tys0 K) yX3_predicatesRead wsX3_predicatesRead ({ frames := 0, cells := 0, slots := 0, locals := 0 } : Room) [.ref a] ws (fun _ : Unit => ws) (fun r9 _ => r9 = 1 <<< (iQ I &&& 31)) := by
  refine vMi_of (cc := cX3_predicatesRead) (nL := 1) (rt := .int) (by decide) rfl (Nat.le_of_ble_eq_true rfl) ?_
  intro X C E
  show V X 0 0 ws 0 [(0, .ref a)] []
  have hi3 : ∀ w ∈ wsX30, w ∈ wsX3_predicatesRead := fun _ h => List.mem_cons_of_mem _ (List.mem_append_right _ h)
  refine V_iconst (v := 1) C dX3_predicatesRead_0 (by decide) ?_
  refine V_aload_n C dX3_predicatesRead_1 rfl 0 rfl ?_
  refine V_get (v := .int (iQ I)) C dX3_predicatesRead_2 hi3 p hp rfl 1 (by decide) (List.mem_of_getElem? (i := 1) rfl) rfl rfl ?_
  refine V_ishl C dX3_predicatesRead_5 ?_
  exact E ((1 : Int32) <<< ((iQ I) &&& 31)) () _ _ dX3_predicatesRead_6 rfl (rfl)

set_option maxHeartbeats 4000000 in
set_option maxRecDepth 100000 in
theorem c_X3_predicatesWritten (l : Launch) (D : va_G) (K : Nat → ClassId) (G : gE) (tb : Nat → Nat) (ga9 : gAll G tb) (ws : va_W) (p a : Nat) (I : I6) (hp : ws[p]? = some (a, .inr (3, iFs I)))   : gMi l D vwCl (tys0 K) G yX3_predicatesWritten wsX3_predicatesWritten ({ frames := 2, cells := 0, slots := 0, locals := 41 } : Room) [.ref a] ws (fun _ : Unit => ws) (fun r9 _ => r9 = iPw I) := by
  refine gMi_of (cc := cX3_predicatesWritten) (nL := 1) (rt := .int) (by decide) rfl (Nat.le_of_ble_eq_true rfl) ?_
  intro X C hg E
  show V X 0 0 ws 0 [(0, .ref a)] []
  have hi3 : ∀ w ∈ wsX30, w ∈ wsX3_predicatesWritten := fun _ h => List.mem_cons_of_mem _ (List.mem_append_right _ h)
  have go := ga9.1
  have gn := ga9.2.1
  have gt := ga9.2.2
  refine V_aload_n C dX3_predicatesWritten_0 rfl 0 rfl ?_
  refine V_gcalliV C go hg dX3_predicatesWritten_1 p hp rfl (c_X3_kindOfA l D K G tb ga9 ws p a I hp) gX3_predicatesWritten_X3_kindOfA rfl 0 rfl (by decide +kernel) (by decide) ⟨Nat.le_of_ble_eq_true rfl, Nat.le_of_ble_eq_true rfl⟩ rfl (Nat.le_of_ble_eq_true rfl) (det0 ?_)
  refine V_iconst (v := 3) C dX3_predicatesWritten_4 (by decide) ?_
  refine V_icmp_ne (tgt := 17) C dX3_predicatesWritten_5 (by decide) (fun zh5 => ?_) (fun zh5 => ?_)
  · refine V_iconst (v := 0) C dX3_predicatesWritten_17 (by decide) ?_
    exact E 0 () _ _ dX3_predicatesWritten_18 rfl (by simp [iPw, zh5])
  · refine V_iconst (v := 3) C dX3_predicatesWritten_8 (by decide) ?_
    refine V_aload_n C dX3_predicatesWritten_9 rfl 0 rfl ?_
    refine V_get (v := .int (iA I)) C dX3_predicatesWritten_10 hi3 p hp rfl 2 (by decide) (List.mem_of_getElem? (i := 1) rfl) rfl rfl ?_
    refine V_ishl C dX3_predicatesWritten_13 ?_
    refine V_goto (tgt := 18) C dX3_predicatesWritten_14 (by decide) ?_
    exact E ((3 : Int32) <<< ((iA I) &&& 31)) () _ _ dX3_predicatesWritten_18 rfl (by simp [iPw, zh5])

set_option maxHeartbeats 4000000 in
set_option maxRecDepth 100000 in
theorem c_X3_mustEndGroup (l : Launch) (D : va_G) (K : Nat → ClassId) (ws : va_W) (p a : Nat) (I : I6) (hp : ws[p]? = some (a, .inr (3, iFs I)))   : vMi l D vwCl (tys0 K) yX3_mustEndGroup wsX3_mustEndGroup ({ frames := 0, cells := 0, slots := 0, locals := 0 } : Room) [.ref a] ws (fun _ : Unit => ws) (fun r9 _ => r9 = b2i (mCls (iO I))) := by
  refine vMi_of (cc := cX3_mustEndGroup) (nL := 1) (rt := .boolean) (by decide) rfl (Nat.le_of_ble_eq_true rfl) ?_
  intro X C E
  show V X 0 0 ws 0 [(0, .ref a)] []
  have hi3 : ∀ w ∈ wsX30, w ∈ wsX3_mustEndGroup := fun _ h => List.mem_cons_of_mem _ (List.mem_append_right _ h)
  refine V_aload_n C dX3_mustEndGroup_0 rfl 0 rfl ?_
  refine V_get (v := .int (iO I)) C dX3_mustEndGroup_1 hi3 p hp rfl 0 (by decide) (List.mem_of_getElem? (i := 1) rfl) rfl rfl ?_
  refine V_bipush (v := 17) C dX3_mustEndGroup_4 (by decide) ?_
  refine V_icmp_eq (tgt := 45) C dX3_mustEndGroup_6 (by decide) (fun zh6 => ?_) (fun zh6 => ?_)
  · refine V_iconst (v := 1) C dX3_mustEndGroup_45 (by decide) ?_
    refine V_goto (tgt := 50) C dX3_mustEndGroup_46 (by decide) ?_
    exact E 1 () _ _ dX3_mustEndGroup_50 rfl (by simp (decide := true) [mCls, b2i, zh6])
  · refine V_aload_n C dX3_mustEndGroup_9 rfl 0 rfl ?_
    refine V_get (v := .int (iO I)) C dX3_mustEndGroup_10 hi3 p hp rfl 0 (by decide) (List.mem_of_getElem? (i := 1) rfl) rfl rfl ?_
    refine V_bipush (v := 18) C dX3_mustEndGroup_13 (by decide) ?_
    refine V_icmp_eq (tgt := 45) C dX3_mustEndGroup_15 (by decide) (fun zh15 => ?_) (fun zh15 => ?_)
    · refine V_iconst (v := 1) C dX3_mustEndGroup_45 (by decide) ?_
      refine V_goto (tgt := 50) C dX3_mustEndGroup_46 (by decide) ?_
      exact E 1 () _ _ dX3_mustEndGroup_50 rfl (by simp (decide := true) [mCls, b2i, zh6, zh15])
    · refine V_aload_n C dX3_mustEndGroup_18 rfl 0 rfl ?_
      refine V_get (v := .int (iO I)) C dX3_mustEndGroup_19 hi3 p hp rfl 0 (by decide) (List.mem_of_getElem? (i := 1) rfl) rfl rfl ?_
      refine V_bipush (v := 15) C dX3_mustEndGroup_22 (by decide) ?_
      refine V_icmp_eq (tgt := 45) C dX3_mustEndGroup_24 (by decide) (fun zh24 => ?_) (fun zh24 => ?_)
      · refine V_iconst (v := 1) C dX3_mustEndGroup_45 (by decide) ?_
        refine V_goto (tgt := 50) C dX3_mustEndGroup_46 (by decide) ?_
        exact E 1 () _ _ dX3_mustEndGroup_50 rfl (by simp (decide := true) [mCls, b2i, zh6, zh15, zh24])
      · refine V_aload_n C dX3_mustEndGroup_27 rfl 0 rfl ?_
        refine V_get (v := .int (iO I)) C dX3_mustEndGroup_28 hi3 p hp rfl 0 (by decide) (List.mem_of_getElem? (i := 1) rfl) rfl rfl ?_
        refine V_bipush (v := 16) C dX3_mustEndGroup_31 (by decide) ?_
        refine V_icmp_eq (tgt := 45) C dX3_mustEndGroup_33 (by decide) (fun zh33 => ?_) (fun zh33 => ?_)
        · refine V_iconst (v := 1) C dX3_mustEndGroup_45 (by decide) ?_
          refine V_goto (tgt := 50) C dX3_mustEndGroup_46 (by decide) ?_
          exact E 1 () _ _ dX3_mustEndGroup_50 rfl (by simp (decide := true) [mCls, b2i, zh6, zh15, zh24, zh33])
        · refine V_aload_n C dX3_mustEndGroup_36 rfl 0 rfl ?_
          refine V_get (v := .int (iO I)) C dX3_mustEndGroup_37 hi3 p hp rfl 0 (by decide) (List.mem_of_getElem? (i := 1) rfl) rfl rfl ?_
          refine V_bipush (v := 19) C dX3_mustEndGroup_40 (by decide) ?_
          refine V_icmp_ne (tgt := 49) C dX3_mustEndGroup_42 (by decide) (fun zh42 => ?_) (fun zh42 => ?_)
          · refine V_iconst (v := 0) C dX3_mustEndGroup_49 (by decide) ?_
            exact E 0 () _ _ dX3_mustEndGroup_50 rfl (by simp (decide := true) [mCls, b2i, zh6, zh15, zh24, zh33, zh42])
          · refine V_iconst (v := 1) C dX3_mustEndGroup_45 (by decide) ?_
            refine V_goto (tgt := 50) C dX3_mustEndGroup_46 (by decide) ?_
            exact E 1 () _ _ dX3_mustEndGroup_50 rfl (by simp (decide := true) [mCls, b2i, zh6, zh15, zh24, zh33, zh42])

set_option maxHeartbeats 4000000 in
set_option maxRecDepth 100000 in
theorem c_X3_mayEndProgram (l : Launch) (D : va_G) (K : Nat → ClassId) (ws : va_W) (p a : Nat) (I : I6) (hp : ws[p]? = some (a, .inr (3, iFs I)))   : vMi l D vwCl (tys0 K) yX3_mayEndProgram wsX3_mayEndProgram ({ frames := 0, cells := 0, slots := 0, locals := 0 } : Room) [.ref a] ws (fun _ : Unit => ws) (fun r9 _ => r9 = b2i (iMay I)) := by
  refine vMi_of (cc := cX3_mayEndProgram) (nL := 2) (rt := .boolean) (by decide) rfl (Nat.le_of_ble_eq_true rfl) ?_
  intro X C E
  show V X 0 0 ws 0 [(0, .ref a)] []
  have hi3 : ∀ w ∈ wsX30, w ∈ wsX3_mayEndProgram := fun _ h => List.mem_cons_of_mem _ (List.mem_append_right _ h)
  suffices zj32 : ∀ xe : Bool, xe = (mEnds (iO I)) → V X 0 0 ws 32 [(0, .ref a)] [.int (b2i xe)] by
    refine V_aload_n C dX3_mayEndProgram_0 rfl 0 rfl ?_
    refine V_get (v := .int (iO I)) C dX3_mayEndProgram_1 hi3 p hp rfl 0 (by decide) (List.mem_of_getElem? (i := 1) rfl) rfl rfl ?_
    refine V_bipush (v := 14) C dX3_mayEndProgram_4 (by decide) ?_
    refine V_icmp_eq (tgt := 27) C dX3_mayEndProgram_6 (by decide) (fun zh6 => ?_) (fun zh6 => ?_)
    · refine V_iconst (v := 1) C dX3_mayEndProgram_27 (by decide) ?_
      refine V_goto (tgt := 32) C dX3_mayEndProgram_28 (by decide) ?_
      refine V_sub [0] rfl ?_
      exact zj32 true (by simp (decide := true) [mEnds, zh6])
    · refine V_aload_n C dX3_mayEndProgram_9 rfl 0 rfl ?_
      refine V_get (v := .int (iO I)) C dX3_mayEndProgram_10 hi3 p hp rfl 0 (by decide) (List.mem_of_getElem? (i := 1) rfl) rfl rfl ?_
      refine V_bipush (v := 16) C dX3_mayEndProgram_13 (by decide) ?_
      refine V_icmp_eq (tgt := 27) C dX3_mayEndProgram_15 (by decide) (fun zh15 => ?_) (fun zh15 => ?_)
      · refine V_iconst (v := 1) C dX3_mayEndProgram_27 (by decide) ?_
        refine V_goto (tgt := 32) C dX3_mayEndProgram_28 (by decide) ?_
        refine V_sub [0] rfl ?_
        exact zj32 true (by simp (decide := true) [mEnds, zh6, zh15])
      · refine V_aload_n C dX3_mayEndProgram_18 rfl 0 rfl ?_
        refine V_get (v := .int (iO I)) C dX3_mayEndProgram_19 hi3 p hp rfl 0 (by decide) (List.mem_of_getElem? (i := 1) rfl) rfl rfl ?_
        refine V_bipush (v := 20) C dX3_mayEndProgram_22 (by decide) ?_
        refine V_icmp_ne (tgt := 31) C dX3_mayEndProgram_24 (by decide) (fun zh24 => ?_) (fun zh24 => ?_)
        · refine V_iconst (v := 0) C dX3_mayEndProgram_31 (by decide) ?_
          refine V_sub [0] rfl ?_
          exact zj32 false (by simp (decide := true) [mEnds, zh6, zh15, zh24])
        · refine V_iconst (v := 1) C dX3_mayEndProgram_27 (by decide) ?_
          refine V_goto (tgt := 32) C dX3_mayEndProgram_28 (by decide) ?_
          refine V_sub [0] rfl ?_
          exact zj32 true (by simp (decide := true) [mEnds, zh6, zh15, zh24])
  intro xe e_xe
  refine V_istore_n (lv' := [(1, .int (b2i xe)), (0, .ref a)]) C dX3_mayEndProgram_32 rfl (by decide) rfl ?_
  refine V_iload_n C dX3_mayEndProgram_33 rfl 0 rfl ?_
  refine V_ifz_eq (tgt := 55) C dX3_mayEndProgram_34 (by decide) (fun zh34 => ?_) (fun zh34 => ?_)
  · refine V_iconst (v := 0) C dX3_mayEndProgram_55 (by decide) ?_
    exact E 0 () _ _ dX3_mayEndProgram_56 rfl (by unfold iMay; rw [← e_xe]; simp (decide := true) [b2i, zh34])
  · refine V_aload_n C dX3_mayEndProgram_37 rfl 1 rfl ?_
    refine V_get (v := .int (b2i (iS I))) C dX3_mayEndProgram_38 hi3 p hp rfl 5 (by decide) (List.mem_of_getElem? (i := 2) rfl) rfl rfl ?_
    refine V_ifz_eq (tgt := 55) C dX3_mayEndProgram_41 (by decide) (fun zh41 => ?_) (fun zh41 => ?_)
    · refine V_iconst (v := 0) C dX3_mayEndProgram_55 (by decide) ?_
      exact E 0 () _ _ dX3_mayEndProgram_56 rfl (by unfold iMay; rw [← e_xe]; simp (decide := true) [b2i, zh34, zh41])
    · refine V_aload_n C dX3_mayEndProgram_44 rfl 1 rfl ?_
      refine V_get (v := .int (iQ I)) C dX3_mayEndProgram_45 hi3 p hp rfl 1 (by decide) (List.mem_of_getElem? (i := 3) rfl) rfl rfl ?_
      refine V_if_ne (tgt := 55) C dX3_mayEndProgram_48 (by decide) (fun zh48 => ?_) (fun zh48 => ?_)
      · refine V_iconst (v := 0) C dX3_mayEndProgram_55 (by decide) ?_
        exact E 0 () _ _ dX3_mayEndProgram_56 rfl (by unfold iMay; rw [← e_xe]; simp (decide := true) [b2i, zh34, zh41, zh48])
      · refine V_iconst (v := 1) C dX3_mayEndProgram_51 (by decide) ?_
        refine V_goto (tgt := 56) C dX3_mayEndProgram_52 (by decide) ?_
        exact E 1 () _ _ dX3_mayEndProgram_56 rfl (by unfold iMay; rw [← e_xe]; simp (decide := true) [b2i, zh34, zh41, zh48])

set_option maxHeartbeats 4000000 in
set_option maxRecDepth 100000 in
theorem c_X2_isWithin (l : Launch) (D : va_G) (K : Nat → ClassId) (w0 : va_W) (xn xl xh : Int32) : vMi l D vwCl (tys0 K) yX2_isWithin wsX2_isWithin ({ frames := 0, cells := 0, slots := 0, locals := 0 } : Room) [.int xn, .int xl, .int xh] w0 (fun _ : Unit => w0) (fun r _ => r = b2i (!mOut xn xl xh)) := by
  refine vMi_of (cc := cX2_isWithin) (nL := 3) (rt := .boolean) (by decide) rfl (Nat.le_of_ble_eq_true rfl) ?_
  intro X C E
  show V X 0 0 w0 0 [(0, .int xn), (1, .int xl), (2, .int xh)] []
  refine V_iload_n C dX2_isWithin_0 rfl 0 rfl ?_
  refine V_iload_n C dX2_isWithin_1 rfl 1 rfl ?_
  refine V_icmp_lt (tgt := 14) C dX2_isWithin_2 (by decide) (fun zh2 => ?_) (fun zh2 => ?_)
  · refine V_iconst (v := 0) C dX2_isWithin_14 (by decide) ?_
    exact E 0 () _ _ dX2_isWithin_15 rfl (by simp (decide := true) [mOut, b2i, zh2, Int32.not_le.mpr zh2])
  · refine V_iload_n C dX2_isWithin_5 rfl 0 rfl ?_
    refine V_iload_n C dX2_isWithin_6 rfl 2 rfl ?_
    refine V_icmp_gt (tgt := 14) C dX2_isWithin_7 (by decide) (fun zh7 => ?_) (fun zh7 => ?_)
    · refine V_iconst (v := 0) C dX2_isWithin_14 (by decide) ?_
      exact E 0 () _ _ dX2_isWithin_15 rfl (by simp (decide := true) [mOut, b2i, zh2, Int32.not_lt.mp zh2, zh7, Int32.not_le.mpr zh7])
    · refine V_iconst (v := 1) C dX2_isWithin_10 (by decide) ?_
      refine V_goto (tgt := 15) C dX2_isWithin_11 (by decide) ?_
      exact E 1 () _ _ dX2_isWithin_15 rfl (by simp (decide := true) [mOut, b2i, zh2, Int32.not_lt.mp zh2, zh7, Int32.not_lt.mp zh7])
set_option maxHeartbeats 4000000 in
set_option maxRecDepth 100000 in
theorem c_X2_fits (l : Launch) (D : va_G) (K : Nat → ClassId) (w0 : va_W) (xk xn xc : Int32) : vMi l D vwCl (tys0 K) yX2_fits wsX2_fits ({ frames := 1, cells := 0, slots := 0, locals := 22 } : Room) [.int xk, .int xn, .int xc] w0 (fun _ : Unit => w0) (fun r _ => r = b2i (nFits xk xn xc)) := by
  refine vMi_of (cc := cX2_fits) (nL := 3) (rt := .boolean) (by decide) rfl (Nat.le_of_ble_eq_true rfl) ?_
  intro X C E
  show V X 0 0 w0 0 [(0, .int xk), (1, .int xn), (2, .int xc)] []
  refine V_iload_n C dX2_fits_0 rfl 0 rfl ?_
  by_cases zs1_1 : xk = 1
  · refine V_tab C dX2_fits_1 32 (Or.inl (by rw [zs1_1]; exact ⟨by decide, by decide, _, rfl, by decide⟩)) ?_
    refine V_iload_n C dX2_fits_32 rfl 1 rfl ?_
    refine V_iconst (v := 0) C dX2_fits_33 (by decide) ?_
    refine V_bipush (v := 31) C dX2_fits_34 (by decide) ?_
    refine V_calliS C dX2_fits_36 (c_X2_isWithin l D K w0 xn 0 31) gX2_fits_X2_isWithin rfl 3 rfl (by decide +kernel) (by decide) ⟨Nat.le_of_ble_eq_true rfl, Nat.le_of_ble_eq_true rfl⟩ rfl (Nat.le_of_ble_eq_true rfl) (det0 ?_)
    exact E (b2i (!mOut xn 0 31)) () _ _ dX2_fits_39 (nar_b2i _) (by simp (decide := true) [nFits, b2i, zs1_1])
  by_cases zs1_2 : xk = 2
  · refine V_tab C dX2_fits_1 40 (Or.inl (by rw [zs1_2]; exact ⟨by decide, by decide, _, rfl, by decide⟩)) ?_
    refine V_iload_n C dX2_fits_40 rfl 1 rfl ?_
    refine V_iconst (v := 1) C dX2_fits_41 (by decide) ?_
    refine V_bipush (v := 31) C dX2_fits_42 (by decide) ?_
    refine V_calliS C dX2_fits_44 (c_X2_isWithin l D K w0 xn 1 31) gX2_fits_X2_isWithin rfl 3 rfl (by decide +kernel) (by decide) ⟨Nat.le_of_ble_eq_true rfl, Nat.le_of_ble_eq_true rfl⟩ rfl (Nat.le_of_ble_eq_true rfl) (det0 ?_)
    exact E (b2i (!mOut xn 1 31)) () _ _ dX2_fits_47 (nar_b2i _) (by simp (decide := true) [nFits, b2i, zs1_2])
  by_cases zs1_3 : xk = 3
  · refine V_tab C dX2_fits_1 48 (Or.inl (by rw [zs1_3]; exact ⟨by decide, by decide, _, rfl, by decide⟩)) ?_
    refine V_iload_n C dX2_fits_48 rfl 1 rfl ?_
    refine V_iconst (v := 1) C dX2_fits_49 (by decide) ?_
    refine V_bipush (v := 14) C dX2_fits_50 (by decide) ?_
    refine V_calliS C dX2_fits_52 (c_X2_isWithin l D K w0 xn 1 14) gX2_fits_X2_isWithin rfl 3 rfl (by decide +kernel) (by decide) ⟨Nat.le_of_ble_eq_true rfl, Nat.le_of_ble_eq_true rfl⟩ rfl (Nat.le_of_ble_eq_true rfl) (det0 ?_)
    exact E (b2i (!mOut xn 1 14)) () _ _ dX2_fits_55 (nar_b2i _) (by simp (decide := true) [nFits, b2i, zs1_3])
  by_cases zs1_4 : xk = 4
  · refine V_tab C dX2_fits_1 56 (Or.inl (by rw [zs1_4]; exact ⟨by decide, by decide, _, rfl, by decide⟩)) ?_
    refine V_iload_n C dX2_fits_56 rfl 1 rfl ?_
    refine V_iconst (v := 0) C dX2_fits_57 (by decide) ?_
    refine V_iload_n C dX2_fits_58 rfl 2 rfl ?_
    refine V_iconst (v := 1) C dX2_fits_59 (by decide) ?_
    refine V_isub C dX2_fits_60 ?_
    refine V_calliS C dX2_fits_61 (c_X2_isWithin l D K w0 xn 0 (xc - 1)) gX2_fits_X2_isWithin rfl 3 rfl (by decide +kernel) (by decide) ⟨Nat.le_of_ble_eq_true rfl, Nat.le_of_ble_eq_true rfl⟩ rfl (Nat.le_of_ble_eq_true rfl) (det0 ?_)
    exact E (b2i (!mOut xn 0 (xc - 1))) () _ _ dX2_fits_64 (nar_b2i _) (by simp (decide := true) [nFits, b2i, zs1_4])
  refine V_tab C dX2_fits_1 65 (Or.inr ⟨by have q_0 := i32ne (c := 1) 1 (by decide) zs1_1; have q_1 := i32ne (c := 2) 2 (by decide) zs1_2; have q_2 := i32ne (c := 3) 3 (by decide) zs1_3; have q_3 := i32ne (c := 4) 4 (by decide) zs1_4; omega, by decide⟩) ?_
  refine V_iconst (v := 1) C dX2_fits_65 (by decide) ?_
  exact E 1 () _ _ dX2_fits_66 rfl (by simp (decide := true) [nFits, b2i, zs1_1, zs1_2, zs1_3, zs1_4])
set_option maxHeartbeats 4000000 in
set_option maxRecDepth 100000 in
theorem c_X2_frameFits (l : Launch) (D : va_G) (K : Nat → ClassId) (G : gE) (tb : Nat → Nat) (ga9 : gAll G tb) (ws : va_W) (p a : Nat) (I : I6) (hp : ws[p]? = some (a, .inr (3, iFs I)))  : gMi l D vwCl (tys0 K) G yX2_frameFits wsX2_frameFits ({ frames := 1, cells := 0, slots := 0, locals := 22 } : Room) [.ref a] ws (fun _ : Unit => ws) (fun r _ => r = b2i (fFits I)) := by
  refine gMi_of (cc := cX2_frameFits) (nL := 2) (rt := .boolean) (by decide) rfl (Nat.le_of_ble_eq_true rfl) ?_
  intro X C hg E
  show V X 0 0 ws 0 [(0, .ref a)] []
  have go := ga9.1
  have gn := ga9.2.1
  have gt := ga9.2.2
  have hi3 : ∀ w ∈ wsX30, w ∈ wsX2_frameFits := fun _ h => List.mem_cons_of_mem _ (List.mem_append_right _ h)
  suffices zj30 : ∀ xt : Bool, xt = (decide (iC I = 0 ∨ iC I = 8 ∨ iC I = 16)) → V X 0 0 ws 30 [(0, .ref a)] [.int (b2i xt)] by
    refine V_aload_n C dX2_frameFits_0 rfl 0 rfl ?_
    refine V_getN (v := .int (iC I)) C gn hg dX2_frameFits_1 hi3 p hp rfl 4 (by decide) (List.mem_of_getElem? (i := 31) rfl) rfl rfl ?_
    refine V_if_eq (tgt := 25) C dX2_frameFits_4 (by decide) (fun zh4 => ?_) (fun zh4 => ?_)
    · refine V_iconst (v := 1) C dX2_frameFits_25 (by decide) ?_
      refine V_goto (tgt := 30) C dX2_frameFits_26 (by decide) ?_
      refine V_sub [0] rfl ?_
      exact zj30 true (by first | rfl | (simp (decide := true) [b2i, gi_si, zh4]; done) | (simp (decide := true) [b2i, gi_si, zh4]; rfl) | (simp_all (decide := true) [b2i, gi_si]; done))
    · refine V_aload_n C dX2_frameFits_7 rfl 0 rfl ?_
      refine V_getN (v := .int (iC I)) C gn hg dX2_frameFits_8 hi3 p hp rfl 4 (by decide) (List.mem_of_getElem? (i := 31) rfl) rfl rfl ?_
      refine V_bipush (v := 8) C dX2_frameFits_11 (by decide) ?_
      refine V_icmp_eq (tgt := 25) C dX2_frameFits_13 (by decide) (fun zh13 => ?_) (fun zh13 => ?_)
      · refine V_iconst (v := 1) C dX2_frameFits_25 (by decide) ?_
        refine V_goto (tgt := 30) C dX2_frameFits_26 (by decide) ?_
        refine V_sub [0] rfl ?_
        exact zj30 true (by first | rfl | (simp (decide := true) [b2i, gi_si, zh4, zh13]; done) | (simp (decide := true) [b2i, gi_si, zh4, zh13]; rfl) | (simp_all (decide := true) [b2i, gi_si]; done))
      · refine V_aload_n C dX2_frameFits_16 rfl 0 rfl ?_
        refine V_getN (v := .int (iC I)) C gn hg dX2_frameFits_17 hi3 p hp rfl 4 (by decide) (List.mem_of_getElem? (i := 31) rfl) rfl rfl ?_
        refine V_bipush (v := 16) C dX2_frameFits_20 (by decide) ?_
        refine V_icmp_ne (tgt := 29) C dX2_frameFits_22 (by decide) (fun zh22 => ?_) (fun zh22 => ?_)
        · refine V_iconst (v := 0) C dX2_frameFits_29 (by decide) ?_
          refine V_sub [0] rfl ?_
          exact zj30 false (by first | rfl | (simp (decide := true) [b2i, gi_si, zh4, zh13, zh22]; done) | (simp (decide := true) [b2i, gi_si, zh4, zh13, zh22]; rfl) | (simp_all (decide := true) [b2i, gi_si]; done))
        · refine V_iconst (v := 1) C dX2_frameFits_25 (by decide) ?_
          refine V_goto (tgt := 30) C dX2_frameFits_26 (by decide) ?_
          refine V_sub [0] rfl ?_
          exact zj30 true (by first | rfl | (simp (decide := true) [b2i, gi_si, zh4, zh13, zh22]; done) | (simp (decide := true) [b2i, gi_si, zh4, zh13, zh22]; rfl) | (simp_all (decide := true) [b2i, gi_si]; done))
  intro xt e_xt
  refine V_istore_n (lv' := [(1, .int (b2i xt)), (0, .ref a)]) C dX2_frameFits_30 rfl (by decide) rfl ?_
  refine V_aload_n C dX2_frameFits_31 rfl 1 rfl ?_
  refine V_getN (v := .int (iA I)) C gn hg dX2_frameFits_32 hi3 p hp rfl 2 (by decide) (List.mem_of_getElem? (i := 27) rfl) rfl rfl ?_
  refine V_iconst (v := 0) C dX2_frameFits_35 (by decide) ?_
  refine V_bipush (v := 24) C dX2_frameFits_36 (by decide) ?_
  refine V_calliS C dX2_frameFits_38 (c_X2_isWithin l D K ws (iA I) 0 24) gX2_frameFits_X2_isWithin rfl 3 rfl (by decide +kernel) (by decide) ⟨Nat.le_of_ble_eq_true rfl, Nat.le_of_ble_eq_true rfl⟩ rfl (Nat.le_of_ble_eq_true rfl) (det0 ?_)
  refine V_ifz_eq (tgt := 78) C dX2_frameFits_41 (by decide) (fun zh41 => ?_) (fun zh41 => ?_)
  · refine V_iconst (v := 0) C dX2_frameFits_78 (by decide) ?_
    exact E 0 () _ _ dX2_frameFits_79 rfl (by unfold fFits; rw [← e_xt]; simp (decide := true) [b2i, zh41])
  · refine V_aload_n C dX2_frameFits_44 rfl 1 rfl ?_
    refine V_getN (v := .int (iB I)) C gn hg dX2_frameFits_45 hi3 p hp rfl 3 (by decide) (List.mem_of_getElem? (i := 29) rfl) rfl rfl ?_
    refine V_iconst (v := 0) C dX2_frameFits_48 (by decide) ?_
    refine V_aload_n C dX2_frameFits_49 rfl 1 rfl ?_
    refine V_getN (v := .int (iA I)) C gn hg dX2_frameFits_50 hi3 p hp rfl 2 (by decide) (List.mem_of_getElem? (i := 27) rfl) rfl rfl ?_
    refine V_calliS C dX2_frameFits_53 (c_X2_isWithin l D K ws (iB I) 0 (iA I)) gX2_frameFits_X2_isWithin rfl 3 rfl (by decide +kernel) (by decide) ⟨Nat.le_of_ble_eq_true rfl, Nat.le_of_ble_eq_true rfl⟩ rfl (Nat.le_of_ble_eq_true rfl) (det0 ?_)
    refine V_ifz_eq (tgt := 78) C dX2_frameFits_56 (by decide) (fun zh56 => ?_) (fun zh56 => ?_)
    · refine V_iconst (v := 0) C dX2_frameFits_78 (by decide) ?_
      exact E 0 () _ _ dX2_frameFits_79 rfl (by unfold fFits; rw [← e_xt]; simp (decide := true) [b2i, zh41, zh56])
    · refine V_iload_n C dX2_frameFits_59 rfl 0 rfl ?_
      refine V_ifz_eq (tgt := 78) C dX2_frameFits_60 (by decide) (fun zh60 => ?_) (fun zh60 => ?_)
      · refine V_iconst (v := 0) C dX2_frameFits_78 (by decide) ?_
        exact E 0 () _ _ dX2_frameFits_79 rfl (by unfold fFits; rw [← e_xt]; simp (decide := true) [b2i, zh41, zh56, zh60])
      · refine V_aload_n C dX2_frameFits_63 rfl 1 rfl ?_
        refine V_getN (v := .int (iC I)) C gn hg dX2_frameFits_64 hi3 p hp rfl 4 (by decide) (List.mem_of_getElem? (i := 31) rfl) rfl rfl ?_
        refine V_aload_n C dX2_frameFits_67 rfl 1 rfl ?_
        refine V_getN (v := .int (iA I)) C gn hg dX2_frameFits_68 hi3 p hp rfl 2 (by decide) (List.mem_of_getElem? (i := 27) rfl) rfl rfl ?_
        refine V_icmp_gt (tgt := 78) C dX2_frameFits_71 (by decide) (fun zh71 => ?_) (fun zh71 => ?_)
        · refine V_iconst (v := 0) C dX2_frameFits_78 (by decide) ?_
          exact E 0 () _ _ dX2_frameFits_79 rfl (by unfold fFits; rw [← e_xt]; simp (decide := true) [b2i, zh41, zh56, zh60, zh71, Int32.not_le.mpr zh71])
        · refine V_iconst (v := 1) C dX2_frameFits_74 (by decide) ?_
          refine V_goto (tgt := 79) C dX2_frameFits_75 (by decide) ?_
          exact E 1 () _ _ dX2_frameFits_79 rfl (by unfold fFits; rw [← e_xt]; simp (decide := true) [b2i, zh41, zh56, zh60, zh71, Int32.not_lt.mp zh71])
set_option maxHeartbeats 4000000 in
set_option maxRecDepth 100000 in
theorem c_X2_numbersFit (l : Launch) (D : va_G) (K : Nat → ClassId) (G : gE) (tb : Nat → Nat) (ga9 : gAll G tb) (ws : va_W) (p a : Nat) (I : I6) (hp : ws[p]? = some (a, .inr (3, iFs I))) (xc : Int32)  : gMi l D vwCl (tys0 K) G yX2_numbersFit wsX2_numbersFit ({ frames := 2, cells := 0, slots := 0, locals := 44 } : Room) [.ref a, .int xc] ws (fun _ : Unit => ws) (fun r _ => r = b2i (nFit I xc)) := by
  refine gMi_of (cc := cX2_numbersFit) (nL := 2) (rt := .boolean) (by decide) rfl (Nat.le_of_ble_eq_true rfl) ?_
  intro X C hg E
  show V X 0 0 ws 0 [(0, .ref a), (1, .int xc)] []
  have go := ga9.1
  have gn := ga9.2.1
  have gt := ga9.2.2
  have hi3 : ∀ w ∈ wsX30, w ∈ wsX2_numbersFit := fun _ h => List.mem_cons_of_mem _ (List.mem_append_right _ h)
  refine V_aload_n C dX2_numbersFit_0 rfl 0 rfl ?_
  refine V_getN (v := .int (iO I)) C gn hg dX2_numbersFit_1 hi3 p hp rfl 0 (by decide) (List.mem_of_getElem? (i := 24) rfl) rfl rfl ?_
  refine V_bipush (v := 17) C dX2_numbersFit_4 (by decide) ?_
  refine V_icmp_ne (tgt := 14) C dX2_numbersFit_6 (by decide) (fun zh6 => ?_) (fun zh6 => ?_)
  · refine V_aload_n C dX2_numbersFit_14 rfl 0 rfl ?_
    refine V_getN (v := .int (iO I)) C gn hg dX2_numbersFit_15 hi3 p hp rfl 0 (by decide) (List.mem_of_getElem? (i := 24) rfl) rfl rfl ?_
    refine V_bipush (v := 18) C dX2_numbersFit_18 (by decide) ?_
    refine V_icmp_ne (tgt := 55) C dX2_numbersFit_20 (by decide) (fun zh20 => ?_) (fun zh20 => ?_)
    · refine V_aload_n C dX2_numbersFit_55 rfl 0 rfl ?_
      refine V_gcalliV C go hg dX2_numbersFit_56 p hp rfl (c_X3_kindOfA l D K G tb ga9 ws p a I hp) gX2_numbersFit_X3_kindOfA rfl 0 rfl (by decide +kernel) (by decide) ⟨Nat.le_of_ble_eq_true rfl, Nat.le_of_ble_eq_true rfl⟩ rfl (Nat.le_of_ble_eq_true rfl) (det0 ?_)
      refine V_aload_n C dX2_numbersFit_59 rfl 0 rfl ?_
      refine V_getN (v := .int (iA I)) C gn hg dX2_numbersFit_60 hi3 p hp rfl 2 (by decide) (List.mem_of_getElem? (i := 27) rfl) rfl rfl ?_
      refine V_iload_n C dX2_numbersFit_63 rfl 1 rfl ?_
      refine V_calliS C dX2_numbersFit_64 (c_X2_fits l D K ws (kd 0 (iO I)) (iA I) xc) gX2_numbersFit_X2_fits rfl 3 rfl (by decide +kernel) (by decide) ⟨Nat.le_of_ble_eq_true rfl, Nat.le_of_ble_eq_true rfl⟩ rfl (Nat.le_of_ble_eq_true rfl) (det0 ?_)
      refine V_ifz_eq (tgt := 104) C dX2_numbersFit_67 (by decide) (fun zh67 => ?_) (fun zh67 => ?_)
      · refine V_iconst (v := 0) C dX2_numbersFit_104 (by decide) ?_
        exact E 0 () _ _ dX2_numbersFit_105 rfl (by simp (decide := true) [nFit, b2i, zh6, zh20, zh67])
      · refine V_aload_n C dX2_numbersFit_70 rfl 0 rfl ?_
        refine V_gcalliV C go hg dX2_numbersFit_71 p hp rfl (c_X3_kindOfB l D K G tb ga9 ws p a I hp) gX2_numbersFit_X3_kindOfB rfl 0 rfl (by decide +kernel) (by decide) ⟨Nat.le_of_ble_eq_true rfl, Nat.le_of_ble_eq_true rfl⟩ rfl (Nat.le_of_ble_eq_true rfl) (det0 ?_)
        refine V_aload_n C dX2_numbersFit_74 rfl 0 rfl ?_
        refine V_getN (v := .int (iB I)) C gn hg dX2_numbersFit_75 hi3 p hp rfl 3 (by decide) (List.mem_of_getElem? (i := 29) rfl) rfl rfl ?_
        refine V_iload_n C dX2_numbersFit_78 rfl 1 rfl ?_
        refine V_calliS C dX2_numbersFit_79 (c_X2_fits l D K ws (kd 1 (iO I)) (iB I) xc) gX2_numbersFit_X2_fits rfl 3 rfl (by decide +kernel) (by decide) ⟨Nat.le_of_ble_eq_true rfl, Nat.le_of_ble_eq_true rfl⟩ rfl (Nat.le_of_ble_eq_true rfl) (det0 ?_)
        refine V_ifz_eq (tgt := 104) C dX2_numbersFit_82 (by decide) (fun zh82 => ?_) (fun zh82 => ?_)
        · refine V_iconst (v := 0) C dX2_numbersFit_104 (by decide) ?_
          exact E 0 () _ _ dX2_numbersFit_105 rfl (by simp (decide := true) [nFit, b2i, zh6, zh20, zh67, zh82])
        · refine V_aload_n C dX2_numbersFit_85 rfl 0 rfl ?_
          refine V_gcalliV C go hg dX2_numbersFit_86 p hp rfl (c_X3_kindOfC l D K G tb ga9 ws p a I hp) gX2_numbersFit_X3_kindOfC rfl 0 rfl (by decide +kernel) (by decide) ⟨Nat.le_of_ble_eq_true rfl, Nat.le_of_ble_eq_true rfl⟩ rfl (Nat.le_of_ble_eq_true rfl) (det0 ?_)
          refine V_aload_n C dX2_numbersFit_89 rfl 0 rfl ?_
          refine V_getN (v := .int (iC I)) C gn hg dX2_numbersFit_90 hi3 p hp rfl 4 (by decide) (List.mem_of_getElem? (i := 31) rfl) rfl rfl ?_
          refine V_iload_n C dX2_numbersFit_93 rfl 1 rfl ?_
          refine V_calliS C dX2_numbersFit_94 (c_X2_fits l D K ws (kd 2 (iO I)) (iC I) xc) gX2_numbersFit_X2_fits rfl 3 rfl (by decide +kernel) (by decide) ⟨Nat.le_of_ble_eq_true rfl, Nat.le_of_ble_eq_true rfl⟩ rfl (Nat.le_of_ble_eq_true rfl) (det0 ?_)
          refine V_ifz_eq (tgt := 104) C dX2_numbersFit_97 (by decide) (fun zh97 => ?_) (fun zh97 => ?_)
          · refine V_iconst (v := 0) C dX2_numbersFit_104 (by decide) ?_
            exact E 0 () _ _ dX2_numbersFit_105 rfl (by simp (decide := true) [nFit, b2i, zh6, zh20, zh67, zh82, zh97])
          · refine V_iconst (v := 1) C dX2_numbersFit_100 (by decide) ?_
            refine V_goto (tgt := 105) C dX2_numbersFit_101 (by decide) ?_
            exact E 1 () _ _ dX2_numbersFit_105 rfl (by simp (decide := true) [nFit, b2i, zh6, zh20, zh67, zh82, zh97])
    · refine V_aload_n C dX2_numbersFit_23 rfl 0 rfl ?_
      refine V_getN (v := .int (iA I)) C gn hg dX2_numbersFit_24 hi3 p hp rfl 2 (by decide) (List.mem_of_getElem? (i := 27) rfl) rfl rfl ?_
      refine V_iconst (v := 0) C dX2_numbersFit_27 (by decide) ?_
      refine V_bipush (v := 20) C dX2_numbersFit_28 (by decide) ?_
      refine V_calliS C dX2_numbersFit_30 (c_X2_isWithin l D K ws (iA I) 0 20) gX2_numbersFit_X2_isWithin rfl 3 rfl (by decide +kernel) (by decide) ⟨Nat.le_of_ble_eq_true rfl, Nat.le_of_ble_eq_true rfl⟩ rfl (Nat.le_of_ble_eq_true rfl) (det0 ?_)
      refine V_ifz_eq (tgt := 53) C dX2_numbersFit_33 (by decide) (fun zh33 => ?_) (fun zh33 => ?_)
      · refine V_iconst (v := 0) C dX2_numbersFit_53 (by decide) ?_
        exact E 0 () _ _ dX2_numbersFit_54 rfl (by simp (decide := true) [nFit, b2i, zh6, zh20, zh33])
      · refine V_aload_n C dX2_numbersFit_36 rfl 0 rfl ?_
        refine V_getN (v := .int (iB I)) C gn hg dX2_numbersFit_37 hi3 p hp rfl 3 (by decide) (List.mem_of_getElem? (i := 29) rfl) rfl rfl ?_
        refine V_iconst (v := 0) C dX2_numbersFit_40 (by decide) ?_
        refine V_bipush (v := 20) C dX2_numbersFit_41 (by decide) ?_
        refine V_calliS C dX2_numbersFit_43 (c_X2_isWithin l D K ws (iB I) 0 20) gX2_numbersFit_X2_isWithin rfl 3 rfl (by decide +kernel) (by decide) ⟨Nat.le_of_ble_eq_true rfl, Nat.le_of_ble_eq_true rfl⟩ rfl (Nat.le_of_ble_eq_true rfl) (det0 ?_)
        refine V_ifz_eq (tgt := 53) C dX2_numbersFit_46 (by decide) (fun zh46 => ?_) (fun zh46 => ?_)
        · refine V_iconst (v := 0) C dX2_numbersFit_53 (by decide) ?_
          exact E 0 () _ _ dX2_numbersFit_54 rfl (by simp (decide := true) [nFit, b2i, zh6, zh20, zh33, zh46])
        · refine V_iconst (v := 1) C dX2_numbersFit_49 (by decide) ?_
          refine V_goto (tgt := 54) C dX2_numbersFit_50 (by decide) ?_
          exact E 1 () _ _ dX2_numbersFit_54 rfl (by simp (decide := true) [nFit, b2i, zh6, zh20, zh33, zh46])
  · refine V_aload_n C dX2_numbersFit_9 rfl 0 rfl ?_
    refine V_gcalliS C go hg dX2_numbersFit_10 (c_X2_frameFits l D K G tb ga9 ws p a I hp) gX2_numbersFit_X2_frameFits rfl 1 rfl (by decide +kernel) (by decide) ⟨Nat.le_of_ble_eq_true rfl, Nat.le_of_ble_eq_true rfl⟩ rfl (Nat.le_of_ble_eq_true rfl) (det0 ?_)
    exact E (b2i (fFits I)) () _ _ dX2_numbersFit_13 (nar_b2i _) (by simp (decide := true) [nFit, b2i, zh6])
