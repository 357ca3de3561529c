section MM
variable {X : vCtx} {kc kn : Nat} {w0 : va_W} {pc : Nat} {lv : List (Nat × Value)} {st : List Value} {cc : ByteArray} {nL : Nat} {Ts : List Cond} {own : String} {cl0 : List vw_C} {D0 : va_G} {tys : List (ClassId × FieldType)} {l0 : Launch} {R0 : Room}
theorem V_mmax (C : vC X cc nL Ts own cl0 D0 tys l0 R0) {index : Nat} {x y : Int32} (hdg : decode cc pc = .ok (.invokestatic index, 3)) (h1 : Cond.methodLink own index Lib.Math.max.name ∈ Ts) (h2 : Cond.static Lib.Math.max.name ∈ Ts) (h3 : Cond.initialized "java/lang/Math" ∈ Ts) (h4 : Cond.code Lib.Math.max.name Lib.Math.max.code 2 (some .int) ∈ Ts) (hf : 1 ≤ R0.frames) (hlo : (st.map fun v => v.category).sum + 13 ≤ R0.locals) (hc : kc ≤ R0.cells) (hs : kn ≤ R0.slots) (k : V X kc kn w0 (pc + 3) lv (.int (if x < y then y else x) :: st)) : V X kc kn w0 pc lv (.int y :: .int x :: st) := by
  obtain ⟨p, l, e, R, s, m, args, below, meth, c, Q, D, cl, A⟩ := X
  obtain ⟨hx, hb, hml, hown, hts, hK, hA, rfl, rfl, rfl, rfl, hlk⟩ := C
  intro H locs ls hP hD hS hl
  exact va_mmax hx hb hl.1.symm hown (hts _ h1) (hts _ h2) (hts _ h3) (hts _ h4) hf hlo hc hs hdg (k H locs ls hP hD hS hl)
theorem V_mmin (C : vC X cc nL Ts own cl0 D0 tys l0 R0) {index : Nat} {x y : Int32} (hdg : decode cc pc = .ok (.invokestatic index, 3)) (h1 : Cond.methodLink own index Lib.Math.min.name ∈ Ts) (h2 : Cond.static Lib.Math.min.name ∈ Ts) (h3 : Cond.initialized "java/lang/Math" ∈ Ts) (h4 : Cond.code Lib.Math.min.name Lib.Math.min.code 2 (some .int) ∈ Ts) (hf : 1 ≤ R0.frames) (hlo : (st.map fun v => v.category).sum + 13 ≤ R0.locals) (hc : kc ≤ R0.cells) (hs : kn ≤ R0.slots) (k : V X kc kn w0 (pc + 3) lv (.int (if y < x then y else x) :: st)) : V X kc kn w0 pc lv (.int y :: .int x :: st) := by
  obtain ⟨p, l, e, R, s, m, args, below, meth, c, Q, D, cl, A⟩ := X
  obtain ⟨hx, hb, hml, hown, hts, hK, hA, rfl, rfl, rfl, rfl, hlk⟩ := C
  intro H locs ls hP hD hS hl
  exact va_mmin hx hb hl.1.symm hown (hts _ h1) (hts _ h2) (hts _ h3) (hts _ h4) hf hlo hc hs hdg (k H locs ls hP hD hS hl)
end MM
def rHas (u : CS) (r : Int32) : Bool := decide (0 ≤ r ∧ r < 8 + cF u (cC u) 1)
def rPl (u : CS) (r : Int32) : Int32 := fPl (cF u (cC u) 0) (cF u (cC u) 3) (cF u (cC u) 4) (r - 8)
def rVal (u : CS) (r : Int32) : Int64 := if 8 ≤ r then cVal 120 (cL u 2) (rPl u r).toInt64 else cVal 8 (cL u 1) r.toInt64
def rNat (u : CS) (r : Int32) : Bool := if 8 ≤ r then cNat 120 (cZ u 2) (rPl u r).toInt64 else cNat 8 (cZ u 1) r.toInt64
def rWr (u : CS) (r : Int32) (v : Int64) (b : Bool) : CS := if r < 8 then (if r = 0 then u else tL u 1 (cWv 8 (cL u 1) r.toInt64 v) (cWn 8 (cZ u 1) r.toInt64 b)) else tL u 2 (cWv 120 (cL u 2) (rPl u r).toInt64 v) (cWn 120 (cZ u 2) (rPl u r).toInt64 b)
def rRot (u : CS) : CS := tF u (cC u) 4 (if cF u (cC u) 4 = 0 then 15 else cF u (cC u) 4 - 1)
set_option maxHeartbeats 4000000 in
set_option maxRecDepth 100000 in
theorem c_X6_has (l : Launch) (D : va_G) (K : Nat → ClassId) (G : gE) (tb : Nat → Nat) (ga9 : gAll G tb) (h : Nat → Nat) (u : CS) (xr : Int32) (hC : cC u < 41) : gMi l D vwCl (tys0 K) G yX6_has wsX6_has ({ frames := 0, cells := 0, slots := 0, locals := 0 } : Room) [.ref (h 2), .int xr] (cw K h u) (cw K h) (fun r9 u9 => r9 = b2i (rHas u xr) ∧ u9 = u) := by
  refine gMi_of (cc := cX6_has) (nL := 2) (rt := .boolean) (by decide) rfl (Nat.le_of_ble_eq_true rfl) ?_
  intro X C hg E
  show V X 0 0 (cw K h u) 0 [(0, .ref (h 2)), (1, .int xr)] []
  have go := ga9.1
  have gn := ga9.2.1
  have gt := ga9.2.2
  have hi6 : ∀ w ∈ wsX60, w ∈ wsX6_has := fun _ h => List.mem_cons_of_mem _ (List.mem_append_left _ (List.mem_append_right _ h))
  have hi1 : ∀ w ∈ wsX10, w ∈ wsX6_has := fun _ h => List.mem_cons_of_mem _ (List.mem_append_right _ h)
  refine V_iload_n C dX6_has_0 rfl 1 rfl ?_
  refine V_if_lt (tgt := 22) C dX6_has_1 (by decide) (fun zh1 => ?_) (fun zh1 => ?_)
  · refine V_iconst (v := 0) C dX6_has_22 (by decide) ?_
    exact E 0 u _ _ dX6_has_23 rfl ⟨by simp (decide := true) [rHas, b2i, zh1, Int32.not_le.mpr zh1], rfl⟩
  · refine V_iload_n C dX6_has_4 rfl 1 rfl ?_
    refine V_bipush (v := 8) C dX6_has_5 (by decide) ?_
    refine V_aload_n C dX6_has_7 rfl 0 rfl ?_
    refine V_get (v := .ref (h (22 + (cC u)))) C dX6_has_8 hi6 2 (cw_a rfl) rfl 4 (by decide) (List.mem_of_getElem? (i := 1) rfl) rfl rfl ?_
    refine V_getN (v := .int (cF u (cC u) 1)) C gn hg dX6_has_11 hi1 (22 + (cC u)) (cw_f hC) rfl 1 (by decide) (List.mem_of_getElem? (i := 7) rfl) rfl rfl ?_
    refine V_iadd C dX6_has_14 ?_
    refine V_icmp_ge (tgt := 22) C dX6_has_15 (by decide) (fun zh15 => ?_) (fun zh15 => ?_)
    · refine V_iconst (v := 0) C dX6_has_22 (by decide) ?_
      exact E 0 u _ _ dX6_has_23 rfl ⟨by simp (decide := true) [rHas, b2i, zh1, Int32.not_lt.mp zh1, zh15, Int32.not_lt.mpr zh15], rfl⟩
    · refine V_iconst (v := 1) C dX6_has_18 (by decide) ?_
      refine V_goto (tgt := 23) C dX6_has_19 (by decide) ?_
      exact E 1 u _ _ dX6_has_23 rfl ⟨by simp (decide := true) [rHas, b2i, zh1, Int32.not_lt.mp zh1, zh15, Int32.not_le.mp zh15], rfl⟩

set_option maxHeartbeats 4000000 in
set_option maxRecDepth 100000 in
theorem c_X6_valueOf (l : Launch) (D : va_G) (K : Nat → ClassId) (G : gE) (tb : Nat → Nat) (ga9 : gAll G tb) (h : Nat → Nat) (u : CS) (xr : Int32) (hC : cC u < 41) : gMl l D vwCl (tys0 K) G yX6_valueOf wsX6_valueOf ({ frames := 2, cells := 0, slots := 0, locals := 44 } : Room) [.ref (h 2), .int xr] (cw K h u) (cw K h) (fun r9 u9 => r9 = rVal u xr ∧ u9 = u) := by
  refine gMl_of (cc := cX6_valueOf) (nL := 2) (by decide) rfl (Nat.le_of_ble_eq_true rfl) ?_
  intro X C hg E
  show V X 0 0 (cw K h u) 0 [(0, .ref (h 2)), (1, .int xr)] []
  have go := ga9.1
  have gn := ga9.2.1
  have gt := ga9.2.2
  have hi6 : ∀ w ∈ wsX60, w ∈ wsX6_valueOf := fun _ h => List.mem_cons_of_mem _ (List.mem_append_left _ (List.mem_append_left _ (List.mem_append_right _ h)))
  refine V_iload_n C dX6_valueOf_0 rfl 1 rfl ?_
  refine V_bipush (v := 8) C dX6_valueOf_1 (by decide) ?_
  refine V_icmp_ge (tgt := 18) C dX6_valueOf_3 (by decide) (fun zh3 => ?_) (fun zh3 => ?_)
  · refine V_aload_n C dX6_valueOf_18 rfl 0 rfl ?_
    refine V_get (v := .ref (h 11)) C dX6_valueOf_19 hi6 2 (cw_a rfl) rfl 1 (by decide) (List.mem_of_getElem? (i := 2) rfl) rfl rfl ?_
    refine V_aload_n C dX6_valueOf_22 rfl 0 rfl ?_
    refine V_get (v := .ref (h (22 + (cC u)))) C dX6_valueOf_23 hi6 2 (cw_a rfl) rfl 4 (by decide) (List.mem_of_getElem? (i := 3) rfl) rfl rfl ?_
    refine V_iload_n C dX6_valueOf_26 rfl 1 rfl ?_
    refine V_bipush (v := 8) C dX6_valueOf_27 (by decide) ?_
    refine V_isub C dX6_valueOf_29 ?_
    refine V_calliV C dX6_valueOf_30 (22 + (cC u)) (cw_f hC) rfl (c_X1_placeOf l D K (cw K h u) (22 + (cC u)) (h (22 + (cC u))) (cF u (cC u) 0) (cF u (cC u) 1) (cF u (cC u) 2) (cF u (cC u) 3) (cF u (cC u) 4) (cF u (cC u) 5) (cw_f hC) (xr - 8)) gX6_valueOf_X1_placeOf rfl 1 rfl (by decide +kernel) (by decide) ⟨Nat.le_of_ble_eq_true rfl, Nat.le_of_ble_eq_true rfl⟩ rfl (Nat.le_of_ble_eq_true rfl) (det0 ?_)
    refine V_i2l C dX6_valueOf_33 ?_
    refine V_calllV C dX6_valueOf_34 11 (cw_a rfl) rfl (c_X0_valueAt l D K (cw K h u) 11 12 13 (h 11) (h 12) (h 13) 120 (cL u 2) (cZ u 2) (cw_a rfl) (cw_a rfl) (cw_a rfl) (by decide) (Int32.toInt64 (fPl (cF u (cC u) 0) (cF u (cC u) 3) (cF u (cC u) 4) (xr - 8)))) gX6_valueOf_X0_valueAt rfl 1 rfl (by decide +kernel) (by decide) ⟨Nat.le_of_ble_eq_true rfl, Nat.le_of_ble_eq_true rfl⟩ rfl (Nat.le_of_ble_eq_true rfl) (det0 ?_)
    exact E (cVal 120 (cL u 2) (Int32.toInt64 (fPl (cF u (cC u) 0) (cF u (cC u) 3) (cF u (cC u) 4) (xr - 8)))) u _ _ dX6_valueOf_37 ⟨by unfold rVal; rw [if_pos zh3]; try rfl, rfl⟩
  · refine V_aload_n C dX6_valueOf_6 rfl 0 rfl ?_
    refine V_get (v := .ref (h 8)) C dX6_valueOf_7 hi6 2 (cw_a rfl) rfl 0 (by decide) (List.mem_of_getElem? (i := 1) rfl) rfl rfl ?_
    refine V_iload_n C dX6_valueOf_10 rfl 1 rfl ?_
    refine V_i2l C dX6_valueOf_11 ?_
    refine V_calllV C dX6_valueOf_12 8 (cw_a rfl) rfl (c_X0_valueAt l D K (cw K h u) 8 9 10 (h 8) (h 9) (h 10) 8 (cL u 1) (cZ u 1) (cw_a rfl) (cw_a rfl) (cw_a rfl) (by decide) (Int32.toInt64 xr)) gX6_valueOf_X0_valueAt rfl 1 rfl (by decide +kernel) (by decide) ⟨Nat.le_of_ble_eq_true rfl, Nat.le_of_ble_eq_true rfl⟩ rfl (Nat.le_of_ble_eq_true rfl) (det0 ?_)
    refine V_goto (tgt := 37) C dX6_valueOf_15 (by decide) ?_
    exact E (cVal 8 (cL u 1) (Int32.toInt64 xr)) u _ _ dX6_valueOf_37 ⟨by unfold rVal; rw [if_neg zh3]; try rfl, rfl⟩

set_option maxHeartbeats 4000000 in
set_option maxRecDepth 100000 in
theorem c_X6_natOf (l : Launch) (D : va_G) (K : Nat → ClassId) (G : gE) (tb : Nat → Nat) (ga9 : gAll G tb) (h : Nat → Nat) (u : CS) (xr : Int32) (hC : cC u < 41) : gMi l D vwCl (tys0 K) G yX6_natOf wsX6_natOf ({ frames := 2, cells := 0, slots := 0, locals := 44 } : Room) [.ref (h 2), .int xr] (cw K h u) (cw K h) (fun r9 u9 => r9 = b2i (rNat u xr) ∧ u9 = u) := by
  refine gMi_of (cc := cX6_natOf) (nL := 2) (rt := .boolean) (by decide) rfl (Nat.le_of_ble_eq_true rfl) ?_
  intro X C hg E
  show V X 0 0 (cw K h u) 0 [(0, .ref (h 2)), (1, .int xr)] []
  have go := ga9.1
  have gn := ga9.2.1
  have gt := ga9.2.2
  have hi6 : ∀ w ∈ wsX60, w ∈ wsX6_natOf := fun _ h => List.mem_cons_of_mem _ (List.mem_append_left _ (List.mem_append_left _ (List.mem_append_right _ h)))
  refine V_iload_n C dX6_natOf_0 rfl 1 rfl ?_
  refine V_bipush (v := 8) C dX6_natOf_1 (by decide) ?_
  refine V_icmp_ge (tgt := 18) C dX6_natOf_3 (by decide) (fun zh3 => ?_) (fun zh3 => ?_)
  · refine V_aload_n C dX6_natOf_18 rfl 0 rfl ?_
    refine V_get (v := .ref (h 11)) C dX6_natOf_19 hi6 2 (cw_a rfl) rfl 1 (by decide) (List.mem_of_getElem? (i := 2) rfl) rfl rfl ?_
    refine V_aload_n C dX6_natOf_22 rfl 0 rfl ?_
    refine V_get (v := .ref (h (22 + (cC u)))) C dX6_natOf_23 hi6 2 (cw_a rfl) rfl 4 (by decide) (List.mem_of_getElem? (i := 3) rfl) rfl rfl ?_
    refine V_iload_n C dX6_natOf_26 rfl 1 rfl ?_
    refine V_bipush (v := 8) C dX6_natOf_27 (by decide) ?_
    refine V_isub C dX6_natOf_29 ?_
    refine V_calliV C dX6_natOf_30 (22 + (cC u)) (cw_f hC) rfl (c_X1_placeOf l D K (cw K h u) (22 + (cC u)) (h (22 + (cC u))) (cF u (cC u) 0) (cF u (cC u) 1) (cF u (cC u) 2) (cF u (cC u) 3) (cF u (cC u) 4) (cF u (cC u) 5) (cw_f hC) (xr - 8)) gX6_natOf_X1_placeOf rfl 1 rfl (by decide +kernel) (by decide) ⟨Nat.le_of_ble_eq_true rfl, Nat.le_of_ble_eq_true rfl⟩ rfl (Nat.le_of_ble_eq_true rfl) (det0 ?_)
    refine V_i2l C dX6_natOf_33 ?_
    refine V_calliV C dX6_natOf_34 11 (cw_a rfl) rfl (c_X0_natAt l D K (cw K h u) 11 12 13 (h 11) (h 12) (h 13) 120 (cL u 2) (cZ u 2) (cw_a rfl) (cw_a rfl) (cw_a rfl) (by decide) (Int32.toInt64 (fPl (cF u (cC u) 0) (cF u (cC u) 3) (cF u (cC u) 4) (xr - 8)))) gX6_natOf_X0_natAt rfl 1 rfl (by decide +kernel) (by decide) ⟨Nat.le_of_ble_eq_true rfl, Nat.le_of_ble_eq_true rfl⟩ rfl (Nat.le_of_ble_eq_true rfl) (det0 ?_)
    exact E (b2i (cNat 120 (cZ u 2) (Int32.toInt64 (fPl (cF u (cC u) 0) (cF u (cC u) 3) (cF u (cC u) 4) (xr - 8))))) u _ _ dX6_natOf_37 (nar_b2i _) ⟨by unfold rNat; rw [if_pos zh3]; try rfl, rfl⟩
  · refine V_aload_n C dX6_natOf_6 rfl 0 rfl ?_
    refine V_get (v := .ref (h 8)) C dX6_natOf_7 hi6 2 (cw_a rfl) rfl 0 (by decide) (List.mem_of_getElem? (i := 1) rfl) rfl rfl ?_
    refine V_iload_n C dX6_natOf_10 rfl 1 rfl ?_
    refine V_i2l C dX6_natOf_11 ?_
    refine V_calliV C dX6_natOf_12 8 (cw_a rfl) rfl (c_X0_natAt l D K (cw K h u) 8 9 10 (h 8) (h 9) (h 10) 8 (cL u 1) (cZ u 1) (cw_a rfl) (cw_a rfl) (cw_a rfl) (by decide) (Int32.toInt64 xr)) gX6_natOf_X0_natAt rfl 1 rfl (by decide +kernel) (by decide) ⟨Nat.le_of_ble_eq_true rfl, Nat.le_of_ble_eq_true rfl⟩ rfl (Nat.le_of_ble_eq_true rfl) (det0 ?_)
    refine V_goto (tgt := 37) C dX6_natOf_15 (by decide) ?_
    exact E (b2i (cNat 8 (cZ u 1) (Int32.toInt64 xr))) u _ _ dX6_natOf_37 (nar_b2i _) ⟨by unfold rNat; rw [if_neg zh3]; try rfl, rfl⟩

set_option maxHeartbeats 4000000 in
set_option maxRecDepth 100000 in
theorem c_X6_write (l : Launch) (D : va_G) (K : Nat → ClassId) (G : gE) (tb : Nat → Nat) (ga9 : gAll G tb) (h : Nat → Nat) (u : CS) (xr : Int32) (xv : Int64) (xb : Bool) (hC : cC u < 41) : gMv l D vwCl (tys0 K) G yX6_write wsX6_write ({ frames := 2, cells := 0, slots := 0, locals := 47 } : Room) [.ref (h 2), .int xr, .long xv, .int (b2i xb)] (cw K h u) (cw K h) (fun u9 => u9 = rWr u xr xv xb) := by
  refine gMv_of (cc := cX6_write) (nL := 5) (by decide) rfl (Nat.le_of_ble_eq_true rfl) ?_
  intro X C hg E
  show V X 0 0 (cw K h u) 0 [(0, .ref (h 2)), (1, .int xr), (2, .long xv), (4, .int (b2i xb))] []
  have go := ga9.1
  have gn := ga9.2.1
  have gt := ga9.2.2
  have hi6 : ∀ w ∈ wsX60, w ∈ wsX6_write := fun _ h => List.mem_cons_of_mem _ (List.mem_append_left _ (List.mem_append_left _ (List.mem_append_right _ h)))
  refine V_iload_n C dX6_write_0 rfl 1 rfl ?_
  refine V_bipush (v := 8) C dX6_write_1 (by decide) ?_
  refine V_icmp_lt (tgt := 31) C dX6_write_3 (by decide) (fun zh3 => ?_) (fun zh3 => ?_)
  · refine V_iload_n C dX6_write_31 rfl 1 rfl ?_
    refine V_if_eq (tgt := 47) C dX6_write_32 (by decide) (fun zh32 => ?_) (fun zh32 => ?_)
    · exact E u _ _ dX6_write_47 (by unfold rWr; rw [if_pos zh3, if_pos zh32])
    · refine V_aload_n C dX6_write_35 rfl 0 rfl ?_
      refine V_get (v := .ref (h 8)) C dX6_write_36 hi6 2 (cw_a rfl) rfl 0 (by decide) (List.mem_of_getElem? (i := 3) rfl) rfl rfl ?_
      refine V_iload_n C dX6_write_39 rfl 1 rfl ?_
      refine V_i2l C dX6_write_40 ?_
      refine V_lload_n C dX6_write_41 rfl 2 rfl ?_
      refine V_iload C dX6_write_42 3 rfl ?_
      refine V_callvV C dX6_write_44 8 (cw_a rfl) rfl (c_X0_write l D K (cw K h u) 8 9 10 (h 8) (h 9) (h 10) 8 (cL u 1) (cZ u 1) (cw_a rfl) (cw_a rfl) (cw_a rfl) (by decide) (Int32.toInt64 xr) xv xb) gX6_write_X0_write rfl 3 rfl (by decide +kernel) (by decide) ⟨Nat.le_of_ble_eq_true rfl, Nat.le_of_ble_eq_true rfl⟩ rfl (Nat.le_of_ble_eq_true rfl) (detv ?_)
      refine V_ws (cw_L1 K h u (cWv 8 (cL u 1) (Int32.toInt64 xr) xv) (cWn 8 (cZ u 1) (Int32.toInt64 xr) xb)) ?_
      exact E (tL u 1 (cWv 8 (cL u 1) (Int32.toInt64 xr) xv) (cWn 8 (cZ u 1) (Int32.toInt64 xr) xb)) _ _ dX6_write_47 (by unfold rWr; rw [if_pos zh3, if_neg zh32])
  · refine V_aload_n C dX6_write_6 rfl 0 rfl ?_
    refine V_get (v := .ref (h 11)) C dX6_write_7 hi6 2 (cw_a rfl) rfl 1 (by decide) (List.mem_of_getElem? (i := 1) rfl) rfl rfl ?_
    refine V_aload_n C dX6_write_10 rfl 0 rfl ?_
    refine V_get (v := .ref (h (22 + (cC u)))) C dX6_write_11 hi6 2 (cw_a rfl) rfl 4 (by decide) (List.mem_of_getElem? (i := 2) rfl) rfl rfl ?_
    refine V_iload_n C dX6_write_14 rfl 1 rfl ?_
    refine V_bipush (v := 8) C dX6_write_15 (by decide) ?_
    refine V_isub C dX6_write_17 ?_
    refine V_calliV C dX6_write_18 (22 + (cC u)) (cw_f hC) rfl (c_X1_placeOf l D K (cw K h u) (22 + (cC u)) (h (22 + (cC u))) (cF u (cC u) 0) (cF u (cC u) 1) (cF u (cC u) 2) (cF u (cC u) 3) (cF u (cC u) 4) (cF u (cC u) 5) (cw_f hC) (xr - 8)) gX6_write_X1_placeOf rfl 1 rfl (by decide +kernel) (by decide) ⟨Nat.le_of_ble_eq_true rfl, Nat.le_of_ble_eq_true rfl⟩ rfl (Nat.le_of_ble_eq_true rfl) (det0 ?_)
    refine V_i2l C dX6_write_21 ?_
    refine V_lload_n C dX6_write_22 rfl 2 rfl ?_
    refine V_iload C dX6_write_23 3 rfl ?_
    refine V_callvV C dX6_write_25 11 (cw_a rfl) rfl (c_X0_write l D K (cw K h u) 11 12 13 (h 11) (h 12) (h 13) 120 (cL u 2) (cZ u 2) (cw_a rfl) (cw_a rfl) (cw_a rfl) (by decide) (Int32.toInt64 (fPl (cF u (cC u) 0) (cF u (cC u) 3) (cF u (cC u) 4) (xr - 8))) xv xb) gX6_write_X0_write rfl 3 rfl (by decide +kernel) (by decide) ⟨Nat.le_of_ble_eq_true rfl, Nat.le_of_ble_eq_true rfl⟩ rfl (Nat.le_of_ble_eq_true rfl) (detv ?_)
    refine V_ws (cw_L2 K h u (cWv 120 (cL u 2) (Int32.toInt64 (fPl (cF u (cC u) 0) (cF u (cC u) 3) (cF u (cC u) 4) (xr - 8))) xv) (cWn 120 (cZ u 2) (Int32.toInt64 (fPl (cF u (cC u) 0) (cF u (cC u) 3) (cF u (cC u) 4) (xr - 8))) xb)) ?_
    refine V_goto (tgt := 47) C dX6_write_28 (by decide) ?_
    exact E (tL u 2 (cWv 120 (cL u 2) (Int32.toInt64 (fPl (cF u (cC u) 0) (cF u (cC u) 3) (cF u (cC u) 4) (xr - 8))) xv) (cWn 120 (cZ u 2) (Int32.toInt64 (fPl (cF u (cC u) 0) (cF u (cC u) 3) (cF u (cC u) 4) (xr - 8))) xb)) _ _ dX6_write_47 (by unfold rWr; rw [if_neg zh3]; rfl)

set_option maxHeartbeats 4000000 in
set_option maxRecDepth 100000 in
theorem c_X6_rotate (l : Launch) (D : va_G) (K : Nat → ClassId) (G : gE) (tb : Nat → Nat) (ga9 : gAll G tb) (h : Nat → Nat) (u : CS)  (hC : cC u < 41) : gMv l D vwCl (tys0 K) G yX6_rotate wsX6_rotate ({ frames := 0, cells := 0, slots := 0, locals := 0 } : Room) [.ref (h 2)] (cw K h u) (cw K h) (fun u9 => u9 = rRot u) := by
  refine gMv_of (cc := cX6_rotate) (nL := 1) (by decide) rfl (Nat.le_of_ble_eq_true rfl) ?_
  intro X C hg E
  show V X 0 0 (cw K h u) 0 [(0, .ref (h 2))] []
  have go := ga9.1
  have gn := ga9.2.1
  have gt := ga9.2.2
  have hi6 : ∀ w ∈ wsX60, w ∈ wsX6_rotate := fun _ h => List.mem_cons_of_mem _ (List.mem_append_left _ (List.mem_append_right _ h))
  have hi1 : ∀ w ∈ wsX10, w ∈ wsX6_rotate := fun _ h => List.mem_cons_of_mem _ (List.mem_append_right _ h)
  refine V_aload_n C dX6_rotate_0 rfl 0 rfl ?_
  refine V_get (v := .ref (h (22 + (cC u)))) C dX6_rotate_1 hi6 2 (cw_a rfl) rfl 4 (by decide) (List.mem_of_getElem? (i := 1) rfl) rfl rfl ?_
  refine V_aload_n C dX6_rotate_4 rfl 0 rfl ?_
  refine V_get (v := .ref (h (22 + (cC u)))) C dX6_rotate_5 hi6 2 (cw_a rfl) rfl 4 (by decide) (List.mem_of_getElem? (i := 1) rfl) rfl rfl ?_
  refine V_getN (v := .int (cF u (cC u) 4)) C gn hg dX6_rotate_8 hi1 (22 + (cC u)) (cw_f hC) rfl 4 (by decide) (List.mem_of_getElem? (i := 13) rfl) rfl rfl ?_
  refine V_if_ne (tgt := 19) C dX6_rotate_11 (by decide) (fun zh11 => ?_) (fun zh11 => ?_)
  · refine V_aload_n C dX6_rotate_19 rfl 0 rfl ?_
    refine V_get (v := .ref (h (22 + (cC u)))) C dX6_rotate_20 hi6 2 (cw_a rfl) rfl 4 (by decide) (List.mem_of_getElem? (i := 1) rfl) rfl rfl ?_
    refine V_getN (v := .int (cF u (cC u) 4)) C gn hg dX6_rotate_23 hi1 (22 + (cC u)) (cw_f hC) rfl 4 (by decide) (List.mem_of_getElem? (i := 13) rfl) rfl rfl ?_
    refine V_iconst (v := 1) C dX6_rotate_26 (by decide) ?_
    refine V_isub C dX6_rotate_27 ?_
    refine V_putN (ws' := (cw K h (tF u (cC u) 4 ((cF u (cC u) 4) - 1)))) C gn hg dX6_rotate_28 hi1 tyX1_ok nmX1 (22 + (cC u)) (cw_f hC) rfl 4 (by decide) (List.mem_of_getElem? (i := 13) rfl) rfl rfl rfl rfl rfl (Nat.le_of_ble_eq_true rfl) (cw_tF K h u 4 ((cF u (cC u) 4) - 1) hC (by simp [fFs, cF_tF])) ?_
    exact E (tF u (cC u) 4 ((cF u (cC u) 4) - 1)) _ _ dX6_rotate_31 (by unfold rRot; rw [if_neg zh11])
  · refine V_bipush (v := 15) C dX6_rotate_14 (by decide) ?_
    refine V_goto (tgt := 28) C dX6_rotate_16 (by decide) ?_
    refine V_putN (ws' := (cw K h (tF u (cC u) 4 15))) C gn hg dX6_rotate_28 hi1 tyX1_ok nmX1 (22 + (cC u)) (cw_f hC) rfl 4 (by decide) (List.mem_of_getElem? (i := 13) rfl) rfl rfl rfl rfl rfl (Nat.le_of_ble_eq_true rfl) (cw_tF K h u 4 15 hC (by simp [fFs, cF_tF])) ?_
    exact E (tF u (cC u) 4 15) _ _ dX6_rotate_31 (by unfold rRot; rw [if_pos zh11])

