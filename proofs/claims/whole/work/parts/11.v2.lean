/-! booleans as Bool, array rows with named places -/
def b2i (b : Bool) : Int32 := if b = true then 1 else 0
theorem b2i_t : b2i true = 1 := rfl
theorem b2i_f : b2i false = 0 := rfl
theorem b2i_eq0 {b : Bool} : b2i b = 0 ↔ b = false := by cases b <;> decide
theorem b2i_ne0 {b : Bool} : ¬ b2i b = 0 ↔ b = true := by cases b <;> decide
theorem b2i_inj {a b : Bool} : b2i a = b2i b ↔ a = b := by cases a <;> cases b <;> decide
theorem nar_b2i (b : Bool) : narrow .boolean (.int (b2i b)) = .int (b2i b) := by cases b <;> rfl
theorem fit_b2i (b : Bool) : fits .boolean (.int (b2i b)) = true := by cases b <;> rfl
theorem vpn_b2i (b : Bool) : vp_nar .boolean (b2i b) = b2i b := by cases b <;> rfl
theorem upd_b2i (f : Nat → Bool) (k : Nat) (b : Bool) : upd (fun i => b2i (f i)) k (vp_nar .boolean (b2i b)) = fun i => b2i (va_up f k b i) := by
  funext i
  rw [vpn_b2i]
  unfold upd va_up
  by_cases h : i = k
  · simp [h]
  · simp [h]
theorem b2i_dec (p : Prop) [Decidable p] : b2i (decide p) = if p then 1 else 0 := by
  by_cases h : p <;> simp [b2i, h]
section VR2
variable {X : vCtx} {kc kn : Nat} {ws : va_W} {pc : Nat} {lv : List (Nat × Value)} {st : List Value} {cc : ByteArray} {nL : Nat} {Ts : List Cond} {own : String} {cl0 : List vw_C} {D0 : va_G} {tys : List (ClassId × FieldType)} {l0 : Launch} {R0 : Room}

theorem V_ifz_eq (C : vC X cc nL Ts own cl0 D0 tys l0 R0) {b : Bool} {off : Int} {tgt : Nat} (hdg : decode cc pc = .ok (.ifCond .eq off, 3)) (ht : (pc : Int) + off = (tgt : Int)) (kt : b = false → V X kc kn ws tgt lv st) (kf : b = true → V X kc kn ws (pc + 3) lv st) : V X kc kn ws pc lv (.int (b2i b) :: st) :=
  V_if_eq C hdg ht (fun h => kt (b2i_eq0.mp h)) (fun h => kf (b2i_ne0.mp h))
theorem V_ifz_ne (C : vC X cc nL Ts own cl0 D0 tys l0 R0) {b : Bool} {off : Int} {tgt : Nat} (hdg : decode cc pc = .ok (.ifCond .ne off, 3)) (ht : (pc : Int) + off = (tgt : Int)) (kt : b = true → V X kc kn ws tgt lv st) (kf : b = false → V X kc kn ws (pc + 3) lv st) : V X kc kn ws pc lv (.int (b2i b) :: st) :=
  V_if_ne C hdg ht (fun h => kt (b2i_ne0.mp h)) (fun h => kf (b2i_eq0.mp h))
theorem V_lc_lt (C : vC X cc nL Ts own cl0 D0 tys l0 R0) {x y : Int64} {off : Int} {tgt : Nat} (hdg : decode cc pc = .ok (.ifCond .lt off, 3)) (ht : (pc : Int) + off = (tgt : Int)) (kt : x < y → V X kc kn ws tgt lv st) (kf : ¬ x < y → V X kc kn ws (pc + 3) lv st) : V X kc kn ws pc lv (.int (lg_cmp x y) :: st) :=
  V_if_lt C hdg ht (fun h => kt ((lg_cmp_lt x y).mp h)) (fun h => kf (fun h2 => h ((lg_cmp_lt x y).mpr h2)))
theorem V_lc_ge (C : vC X cc nL Ts own cl0 D0 tys l0 R0) {x y : Int64} {off : Int} {tgt : Nat} (hdg : decode cc pc = .ok (.ifCond .ge off, 3)) (ht : (pc : Int) + off = (tgt : Int)) (kt : y ≤ x → V X kc kn ws tgt lv st) (kf : ¬ y ≤ x → V X kc kn ws (pc + 3) lv st) : V X kc kn ws pc lv (.int (lg_cmp x y) :: st) :=
  V_if_ge C hdg ht (fun h => kt ((lg_cmp_ge x y).mp h)) (fun h => kf (fun h2 => h ((lg_cmp_ge x y).mpr h2)))
theorem V_lc_gt (C : vC X cc nL Ts own cl0 D0 tys l0 R0) {x y : Int64} {off : Int} {tgt : Nat} (hdg : decode cc pc = .ok (.ifCond .gt off, 3)) (ht : (pc : Int) + off = (tgt : Int)) (kt : y < x → V X kc kn ws tgt lv st) (kf : ¬ y < x → V X kc kn ws (pc + 3) lv st) : V X kc kn ws pc lv (.int (lg_cmp x y) :: st) :=
  V_if_gt C hdg ht (fun h => kt ((lg_cmp_gt x y).mp h)) (fun h => kf (fun h2 => h ((lg_cmp_gt x y).mpr h2)))
theorem V_lc_le (C : vC X cc nL Ts own cl0 D0 tys l0 R0) {x y : Int64} {off : Int} {tgt : Nat} (hdg : decode cc pc = .ok (.ifCond .le off, 3)) (ht : (pc : Int) + off = (tgt : Int)) (kt : x ≤ y → V X kc kn ws tgt lv st) (kf : ¬ x ≤ y → V X kc kn ws (pc + 3) lv st) : V X kc kn ws pc lv (.int (lg_cmp x y) :: st) :=
  V_if_le C hdg ht (fun h => kt ((lg_cmp_le x y).mp h)) (fun h => kf (fun h2 => h ((lg_cmp_le x y).mpr h2)))
theorem V_lc_eq (C : vC X cc nL Ts own cl0 D0 tys l0 R0) {x y : Int64} {off : Int} {tgt : Nat} (hdg : decode cc pc = .ok (.ifCond .eq off, 3)) (ht : (pc : Int) + off = (tgt : Int)) (kt : x = y → V X kc kn ws tgt lv st) (kf : ¬ x = y → V X kc kn ws (pc + 3) lv st) : V X kc kn ws pc lv (.int (lg_cmp x y) :: st) :=
  V_if_eq C hdg ht (fun h => kt ((lg_cmp_eq x y).mp h)) (fun h => kf (fun h2 => h ((lg_cmp_eq x y).mpr h2)))
theorem V_lc_ne (C : vC X cc nL Ts own cl0 D0 tys l0 R0) {x y : Int64} {off : Int} {tgt : Nat} (hdg : decode cc pc = .ok (.ifCond .ne off, 3)) (ht : (pc : Int) + off = (tgt : Int)) (kt : ¬ x = y → V X kc kn ws tgt lv st) (kf : x = y → V X kc kn ws (pc + 3) lv st) : V X kc kn ws pc lv (.int (lg_cmp x y) :: st) :=
  V_if_ne C hdg ht (fun h => kt (fun h2 => h ((lg_cmp_eq x y).mpr h2))) (fun h => kf ((lg_cmp_eq x y).mp h))
theorem V_ialdn (C : vC X cc nL Ts own cl0 D0 tys l0 R0) {a n : Nat} {cA : ClassId} {f : Nat → Int32} {i : Int32} {v : Int32} (hdg : decode cc pc = .ok (.iaload, 1)) (q0 t0 : Nat) (ha : ws[q0]? = some (a, .inl (cA, n, .inl f))) (ht : tys[t0]? = some (cA, .int)) (n0 : Nat) (h0 : i.toNatClampNeg = n0) (hin : vp_in i n) (hv : f n0 = v) (k : V X kc kn ws (pc + 1) lv (.int v :: st)) : V X kc kn ws pc lv (.int i :: .ref a :: st) := by
  subst h0; subst hv
  exact V_iald C hdg q0 t0 ha ht hin k
theorem V_zaldn (C : vC X cc nL Ts own cl0 D0 tys l0 R0) {a n : Nat} {cA : ClassId} {f : Nat → Int32} {i : Int32} {v : Int32} (hdg : decode cc pc = .ok (.baload, 1)) (q0 t0 : Nat) (ha : ws[q0]? = some (a, .inl (cA, n, .inl f))) (ht : tys[t0]? = some (cA, .boolean)) (n0 : Nat) (h0 : i.toNatClampNeg = n0) (hin : vp_in i n) (hv : f n0 = v) (k : V X kc kn ws (pc + 1) lv (.int v :: st)) : V X kc kn ws pc lv (.int i :: .ref a :: st) := by
  subst h0; subst hv
  exact V_zald C hdg q0 t0 ha ht hin k
theorem V_laldn (C : vC X cc nL Ts own cl0 D0 tys l0 R0) {a n : Nat} {cA : ClassId} {f : Nat → Int64} {i : Int32} {v : Int64} (hdg : decode cc pc = .ok (.laload, 1)) (q0 t0 : Nat) (ha : ws[q0]? = some (a, .inl (cA, n, .inr (.inl f)))) (ht : tys[t0]? = some (cA, .long)) (n0 : Nat) (h0 : i.toNatClampNeg = n0) (hin : vp_in i n) (hv : f n0 = v) (k : V X kc kn ws (pc + 1) lv (.long v :: st)) : V X kc kn ws pc lv (.int i :: .ref a :: st) := by
  subst h0; subst hv
  exact V_lald C hdg q0 t0 ha ht hin k
theorem V_iastn (C : vC X cc nL Ts own cl0 D0 tys l0 R0) {a n : Nat} {cA : ClassId} {f : Nat → Int32} {i : Int32} {x : Int32} {ws' : va_W} (hdg : decode cc pc = .ok (.iastore, 1)) (q0 t0 : Nat) (ha : ws[q0]? = some (a, .inl (cA, n, .inl f))) (ht : tys[t0]? = some (cA, .int)) (n0 : Nat) (h0 : i.toNatClampNeg = n0) (hin : vp_in i n) (hw : ws.set q0 (a, .inl (cA, n, .inl (upd f n0 x))) = ws') (k : V X kc kn ws' (pc + 1) lv st) : V X kc kn ws pc lv (.int x :: .int i :: .ref a :: st) := by
  subst h0
  exact V_iast C hdg q0 t0 ha ht hin hw k
theorem V_zastn (C : vC X cc nL Ts own cl0 D0 tys l0 R0) {a n : Nat} {cA : ClassId} {f : Nat → Int32} {i : Int32} {x : Int32} {ws' : va_W} (hdg : decode cc pc = .ok (.bastore, 1)) (q0 t0 : Nat) (ha : ws[q0]? = some (a, .inl (cA, n, .inl f))) (ht : tys[t0]? = some (cA, .boolean)) (n0 : Nat) (h0 : i.toNatClampNeg = n0) (hin : vp_in i n) (hw : ws.set q0 (a, .inl (cA, n, .inl (upd f n0 (vp_nar .boolean x)))) = ws') (k : V X kc kn ws' (pc + 1) lv st) : V X kc kn ws pc lv (.int x :: .int i :: .ref a :: st) := by
  subst h0
  exact V_zast C hdg q0 t0 ha ht hin hw k
theorem V_lastn (C : vC X cc nL Ts own cl0 D0 tys l0 R0) {a n : Nat} {cA : ClassId} {f : Nat → Int64} {i : Int32} {x : Int64} {ws' : va_W} (hdg : decode cc pc = .ok (.lastore, 1)) (q0 t0 : Nat) (ha : ws[q0]? = some (a, .inl (cA, n, .inr (.inl f)))) (ht : tys[t0]? = some (cA, .long)) (n0 : Nat) (h0 : i.toNatClampNeg = n0) (hin : vp_in i n) (hw : ws.set q0 (a, .inl (cA, n, .inr (.inl (vp_updL f n0 x)))) = ws') (k : V X kc kn ws' (pc + 1) lv st) : V X kc kn ws pc lv (.long x :: .int i :: .ref a :: st) := by
  subst h0
  exact V_last C hdg q0 t0 ha ht hin hw k
theorem V_i2li (C : vC X cc nL Ts own cl0 D0 tys l0 R0) {x : Int32} {v : Int64} (hdg : decode cc pc = .ok (.i2l, 1)) (hv : x.toInt64 = v) (k : V X kc kn ws (pc + 1) lv (.long v :: st)) : V X kc kn ws pc lv (.int x :: st) := by subst hv; exact V_i2l C hdg k
theorem i32ne {x : Int32} {c : Int} (c32 : Int32) (hc : c32.toInt = c) (h : ¬ x = c32) : x.toInt ≠ c := fun e => h (Int32.toInt_inj.mp (e.trans hc.symm))
theorem V_tab (C : vC X cc nL Ts own cl0 D0 tys l0 R0) {x : Int32} {dflt lo hi : Int} {offs : Array Int} {len : Nat} (hdg : decode cc pc = .ok (.tableswitch dflt lo hi offs, len)) (tgt : Nat) (h : (¬ x.toInt < lo ∧ ¬ hi < x.toInt ∧ ∃ off, offs[(x.toInt - lo).toNat]? = some off ∧ (pc : Int) + off = (tgt : Int)) ∨ ((x.toInt < lo ∨ hi < x.toInt) ∧ (pc : Int) + dflt = (tgt : Int))) (k : V X kc kn ws tgt lv st) : V X kc kn ws pc lv (.int x :: st) := by
  obtain ⟨p, l, e, R, s, m, args, below, meth, c, Q, D, cl, A⟩ := X
  obtain ⟨hx, hb, hml, hown, hts, hK, hA, rfl, rfl, rfl, rfl, hlk⟩ := C
  intro H locs ls hP hD hS hl
  rcases h with ⟨h1, h2, off, h3, h4⟩ | ⟨h1, h2⟩
  · exact lv_tableIn hx hb hdg h1 h2 h3 h4 (k H locs ls hP hD hS hl)
  · exact lv_tableOut hx hb hdg h1 h2 (k H locs ls hP hD hS hl)
theorem V_ldc2 (C : vC X cc nL Ts own cl0 D0 tys l0 R0) {index : Nat} {v : Int64} (hdg : decode cc pc = .ok (.ldc2_w index, 3)) (hc : Cond.constantLong own index v ∈ Ts) (k : V X kc kn ws (pc + 3) lv (.long v :: st)) : V X kc kn ws pc lv st := by
  obtain ⟨p, l, e, R, s, m, args, below, meth, c, Q, D, cl, A⟩ := X
  obtain ⟨hx, hb, hml, hown, hts, hK, hA, rfl, rfl, rfl, rfl, hlk⟩ := C
  intro H locs ls hP hD hS hl
  exact lv_ldc2 hx hb hown (hts _ hc) hdg (k H locs ls hP hD hS hl)
end VR2
theorem det2 {α β : Type} {P : α → β → Prop} {a : α} {b : β} (h : P a b) : ∀ (r : α) (u : β), (r = a ∧ u = b) → P r u := fun r u q => by
  obtain ⟨q1, q2⟩ := q
  rw [q1, q2]; exact h
theorem det1 {β : Type} {P : β → Prop} {b : β} (h : P b) : ∀ u : β, u = b → P u := fun u q => by rw [q]; exact h
theorem det0 {α : Type} {P : α → Unit → Prop} {a : α} (h : P a ()) : ∀ (r : α) (u : Unit), r = a → P r u := fun r u q => by rw [q]; exact h
