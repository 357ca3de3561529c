/-! V: the machine at pc, with the world ws, the locals lv and the stack st, comes to its end. X bundles what never changes in a body. -/
abbrev vCtx : Type := Program × Launch × Env × Room × State × MethodId × Array Value × List Frame × Method × Code × (State → Prop) × va_G × List vw_C × (Nat → Prop)
def V (X : vCtx) (kc kn : Nat) (ws : va_W) (pc : Nat) (lv : List (Nat × Value)) (st : List Value) : Prop := match X with
  | (p, l, e, R, s, m, args, below, meth, c, Q, D, cl, A) => ∀ (H : Heap) (locs : List Loc) (ls : Array Slot), va_P D cl ws H → va_D A ws → va_S A s.heap H locs → lv_has ls c.maxLocals lv → W p l e R s m args below meth c H locs kc kn Q (F0 m pc ls st)
def vC (X : vCtx) (cc : ByteArray) (nL : Nat) (Ts : List Cond) (own : String) (cl0 : List vw_C) (D0 : va_G) (tys : List (ClassId × FieldType)) (l0 : Launch) (R0 : Room) : Prop := match X with
  | (p, l, _, R, s, m, args, _, meth, c, _, D, cl, A) => p.tables.exec = Jvm.exec ∧ c.code = cc ∧ c.maxLocals = nL ∧ s.vm.findClass own = some m.cls ∧ (∀ w ∈ Ts, w.before args s = true) ∧ va_K D cl tys s ∧ (∀ q, s.heap.size ≤ q → A q) ∧ cl = cl0 ∧ D = D0 ∧ l = l0 ∧ R = R0 ∧ meth.locks = false
section VR
variable {X : vCtx} {kc kn : Nat} {ws : va_W} {pc : Nat} {lv : List (Nat × Value)} {st : List Value} {cc : ByteArray} {nL : Nat} {Ts : List Cond} {own : String} {cl0 : List vw_C} {D0 : va_G} {tys : List (ClassId × FieldType)} {l0 : Launch} {R0 : Room}

theorem V_iconst (C : vC X cc nL Ts own cl0 D0 tys l0 R0) {n : Int} {v : Int32} (hdg : decode cc pc = .ok (.iconst n, 1)) (hv : Int32.ofInt n = v) (k : V X kc kn ws (pc + 1) lv (.int v :: st)) : V X kc kn ws pc lv st := by
  obtain ⟨p, l, e, R, s, m, args, below, meth, c, Q, D, cl, A⟩ := X
  obtain ⟨hx, hb, hml, hown, hts, hK, hA, rfl, rfl, rfl, rfl, hlk⟩ := C
  intro H locs ls hP hD hS hl
  exact lv_iconst hx hb hdg hv (k H locs ls hP hD hS hl)
theorem V_bipush (C : vC X cc nL Ts own cl0 D0 tys l0 R0) {n : Int} {v : Int32} (hdg : decode cc pc = .ok (.bipush n, 2)) (hv : (Int8.ofInt n).toInt32 = v) (k : V X kc kn ws (pc + 2) lv (.int v :: st)) : V X kc kn ws pc lv st := by
  obtain ⟨p, l, e, R, s, m, args, below, meth, c, Q, D, cl, A⟩ := X
  obtain ⟨hx, hb, hml, hown, hts, hK, hA, rfl, rfl, rfl, rfl, hlk⟩ := C
  intro H locs ls hP hD hS hl
  exact lv_bipush hx hb hdg hv (k H locs ls hP hD hS hl)
theorem V_sipush (C : vC X cc nL Ts own cl0 D0 tys l0 R0) {n : Int} {v : Int32} (hdg : decode cc pc = .ok (.sipush n, 3)) (hv : (Int16.ofInt n).toInt32 = v) (k : V X kc kn ws (pc + 3) lv (.int v :: st)) : V X kc kn ws pc lv st := by
  obtain ⟨p, l, e, R, s, m, args, below, meth, c, Q, D, cl, A⟩ := X
  obtain ⟨hx, hb, hml, hown, hts, hK, hA, rfl, rfl, rfl, rfl, hlk⟩ := C
  intro H locs ls hP hD hS hl
  exact lv_sipush hx hb hdg hv (k H locs ls hP hD hS hl)
theorem V_lconst (C : vC X cc nL Ts own cl0 D0 tys l0 R0) {n : Fin 2} {v : Int64} (hdg : decode cc pc = .ok (.lconst n, 1)) (hv : Int64.ofNat (n : Nat) = v) (k : V X kc kn ws (pc + 1) lv (.long v :: st)) : V X kc kn ws pc lv st := by
  obtain ⟨p, l, e, R, s, m, args, below, meth, c, Q, D, cl, A⟩ := X
  obtain ⟨hx, hb, hml, hown, hts, hK, hA, rfl, rfl, rfl, rfl, hlk⟩ := C
  intro H locs ls hP hD hS hl
  exact lv_lconst hx hb hdg hv (k H locs ls hP hD hS hl)
theorem V_iload_n (C : vC X cc nL Ts own cl0 D0 tys l0 R0) {kk : Fin 4} {i : Nat} {x : Int32} (hdg : decode cc pc = .ok (.iload_n kk, 1)) (hi : (kk : Nat) = i) (j : Nat) (hj : lv[j]? = some (i, .int x)) (k : V X kc kn ws (pc + 1) lv (.int x :: st)) : V X kc kn ws pc lv st := by
  obtain ⟨p, l, e, R, s, m, args, below, meth, c, Q, D, cl, A⟩ := X
  obtain ⟨hx, hb, hml, hown, hts, hK, hA, rfl, rfl, rfl, rfl, hlk⟩ := C
  intro H locs ls hP hD hS hl
  exact lv_iload_n hx hb hdg hi (lv_at hl j hj) (k H locs ls hP hD hS hl)
theorem V_iload (C : vC X cc nL Ts own cl0 D0 tys l0 R0) {i : Nat} {x : Int32} (hdg : decode cc pc = .ok (.iload i, 2)) (j : Nat) (hj : lv[j]? = some (i, .int x)) (k : V X kc kn ws (pc + 2) lv (.int x :: st)) : V X kc kn ws pc lv st := by
  obtain ⟨p, l, e, R, s, m, args, below, meth, c, Q, D, cl, A⟩ := X
  obtain ⟨hx, hb, hml, hown, hts, hK, hA, rfl, rfl, rfl, rfl, hlk⟩ := C
  intro H locs ls hP hD hS hl
  exact lv_iload hx hb hdg (lv_at hl j hj) (k H locs ls hP hD hS hl)
theorem V_istore_n (C : vC X cc nL Ts own cl0 D0 tys l0 R0) {kk : Fin 4} {i : Nat} {x : Int32} {lv' : List (Nat × Value)} (hdg : decode cc pc = .ok (.istore_n kk, 1)) (hi : (kk : Nat) = i) (hn : i < nL) (hl' : (i, Value.int x) :: lv.filter (fun q => !(q.1 == i) && !(q.1 + 1 == i && q.2.category == 2)) = lv') (k : V X kc kn ws (pc + 1) lv' st) : V X kc kn ws pc lv (.int x :: st) := by
  obtain ⟨p, l, e, R, s, m, args, below, meth, c, Q, D, cl, A⟩ := X
  obtain ⟨hx, hb, hml, hown, hts, hK, hA, rfl, rfl, rfl, rfl, hlk⟩ := C
  intro H locs ls hP hD hS hl
  exact lv_istore_n hx hb hdg hi hl (by rw [hml]; exact hn) hl' (fun ls2 hl2 => k H locs ls2 hP hD hS hl2)
theorem V_istore (C : vC X cc nL Ts own cl0 D0 tys l0 R0) {i : Nat} {x : Int32} {lv' : List (Nat × Value)} (hdg : decode cc pc = .ok (.istore i, 2)) (hn : i < nL) (hl' : (i, Value.int x) :: lv.filter (fun q => !(q.1 == i) && !(q.1 + 1 == i && q.2.category == 2)) = lv') (k : V X kc kn ws (pc + 2) lv' st) : V X kc kn ws pc lv (.int x :: st) := by
  obtain ⟨p, l, e, R, s, m, args, below, meth, c, Q, D, cl, A⟩ := X
  obtain ⟨hx, hb, hml, hown, hts, hK, hA, rfl, rfl, rfl, rfl, hlk⟩ := C
  intro H locs ls hP hD hS hl
  exact lv_istore hx hb hdg hl (by rw [hml]; exact hn) hl' (fun ls2 hl2 => k H locs ls2 hP hD hS hl2)
theorem V_lload_n (C : vC X cc nL Ts own cl0 D0 tys l0 R0) {kk : Fin 4} {i : Nat} {x : Int64} (hdg : decode cc pc = .ok (.lload_n kk, 1)) (hi : (kk : Nat) = i) (j : Nat) (hj : lv[j]? = some (i, .long x)) (k : V X kc kn ws (pc + 1) lv (.long x :: st)) : V X kc kn ws pc lv st := by
  obtain ⟨p, l, e, R, s, m, args, below, meth, c, Q, D, cl, A⟩ := X
  obtain ⟨hx, hb, hml, hown, hts, hK, hA, rfl, rfl, rfl, rfl, hlk⟩ := C
  intro H locs ls hP hD hS hl
  exact lv_lload_n hx hb hdg hi (lv_at hl j hj) (k H locs ls hP hD hS hl)
theorem V_lload (C : vC X cc nL Ts own cl0 D0 tys l0 R0) {i : Nat} {x : Int64} (hdg : decode cc pc = .ok (.lload i, 2)) (j : Nat) (hj : lv[j]? = some (i, .long x)) (k : V X kc kn ws (pc + 2) lv (.long x :: st)) : V X kc kn ws pc lv st := by
  obtain ⟨p, l, e, R, s, m, args, below, meth, c, Q, D, cl, A⟩ := X
  obtain ⟨hx, hb, hml, hown, hts, hK, hA, rfl, rfl, rfl, rfl, hlk⟩ := C
  intro H locs ls hP hD hS hl
  exact lv_lload hx hb hdg (lv_at hl j hj) (k H locs ls hP hD hS hl)
theorem V_aload_n (C : vC X cc nL Ts own cl0 D0 tys l0 R0) {kk : Fin 4} {i : Nat} {x : Nat} (hdg : decode cc pc = .ok (.aload_n kk, 1)) (hi : (kk : Nat) = i) (j : Nat) (hj : lv[j]? = some (i, .ref x)) (k : V X kc kn ws (pc + 1) lv (.ref x :: st)) : V X kc kn ws pc lv st := by
  obtain ⟨p, l, e, R, s, m, args, below, meth, c, Q, D, cl, A⟩ := X
  obtain ⟨hx, hb, hml, hown, hts, hK, hA, rfl, rfl, rfl, rfl, hlk⟩ := C
  intro H locs ls hP hD hS hl
  exact lv_aload_n hx hb hdg hi (lv_at hl j hj) (k H locs ls hP hD hS hl)
theorem V_aload (C : vC X cc nL Ts own cl0 D0 tys l0 R0) {i : Nat} {x : Nat} (hdg : decode cc pc = .ok (.aload i, 2)) (j : Nat) (hj : lv[j]? = some (i, .ref x)) (k : V X kc kn ws (pc + 2) lv (.ref x :: st)) : V X kc kn ws pc lv st := by
  obtain ⟨p, l, e, R, s, m, args, below, meth, c, Q, D, cl, A⟩ := X
  obtain ⟨hx, hb, hml, hown, hts, hK, hA, rfl, rfl, rfl, rfl, hlk⟩ := C
  intro H locs ls hP hD hS hl
  exact lv_aload hx hb hdg (lv_at hl j hj) (k H locs ls hP hD hS hl)
theorem V_astore_n (C : vC X cc nL Ts own cl0 D0 tys l0 R0) {kk : Fin 4} {i : Nat} {x : Nat} {lv' : List (Nat × Value)} (hdg : decode cc pc = .ok (.astore_n kk, 1)) (hi : (kk : Nat) = i) (hn : i < nL) (hl' : (i, Value.ref x) :: lv.filter (fun q => !(q.1 == i) && !(q.1 + 1 == i && q.2.category == 2)) = lv') (k : V X kc kn ws (pc + 1) lv' st) : V X kc kn ws pc lv (.ref x :: st) := by
  obtain ⟨p, l, e, R, s, m, args, below, meth, c, Q, D, cl, A⟩ := X
  obtain ⟨hx, hb, hml, hown, hts, hK, hA, rfl, rfl, rfl, rfl, hlk⟩ := C
  intro H locs ls hP hD hS hl
  exact lv_astore_n hx hb hdg hi hl (by rw [hml]; exact hn) hl' (fun ls2 hl2 => k H locs ls2 hP hD hS hl2)
theorem V_astore (C : vC X cc nL Ts own cl0 D0 tys l0 R0) {i : Nat} {x : Nat} {lv' : List (Nat × Value)} (hdg : decode cc pc = .ok (.astore i, 2)) (hn : i < nL) (hl' : (i, Value.ref x) :: lv.filter (fun q => !(q.1 == i) && !(q.1 + 1 == i && q.2.category == 2)) = lv') (k : V X kc kn ws (pc + 2) lv' st) : V X kc kn ws pc lv (.ref x :: st) := by
  obtain ⟨p, l, e, R, s, m, args, below, meth, c, Q, D, cl, A⟩ := X
  obtain ⟨hx, hb, hml, hown, hts, hK, hA, rfl, rfl, rfl, rfl, hlk⟩ := C
  intro H locs ls hP hD hS hl
  exact lv_astore hx hb hdg hl (by rw [hml]; exact hn) hl' (fun ls2 hl2 => k H locs ls2 hP hD hS hl2)
theorem V_lstore_n (C : vC X cc nL Ts own cl0 D0 tys l0 R0) {kk : Fin 4} {i : Nat} {x : Int64} {lv' : List (Nat × Value)} (hdg : decode cc pc = .ok (.lstore_n kk, 1)) (hi : (kk : Nat) = i) (hn : i + 1 < nL) (hl' : (i, Value.long x) :: lv.filter (fun q => !(q.1 == i) && (!(q.1 == i + 1) && !(q.1 + 1 == i && q.2.category == 2))) = lv') (k : V X kc kn ws (pc + 1) lv' st) : V X kc kn ws pc lv (.long x :: st) := by
  obtain ⟨p, l, e, R, s, m, args, below, meth, c, Q, D, cl, A⟩ := X
  obtain ⟨hx, hb, hml, hown, hts, hK, hA, rfl, rfl, rfl, rfl, hlk⟩ := C
  intro H locs ls hP hD hS hl
  exact lv_lstore_n hx hb hdg hi hl (by rw [hml]; exact hn) hl' (fun ls2 hl2 => k H locs ls2 hP hD hS hl2)
theorem V_lstore (C : vC X cc nL Ts own cl0 D0 tys l0 R0) {i : Nat} {x : Int64} {lv' : List (Nat × Value)} (hdg : decode cc pc = .ok (.lstore i, 2)) (hn : i + 1 < nL) (hl' : (i, Value.long x) :: lv.filter (fun q => !(q.1 == i) && (!(q.1 == i + 1) && !(q.1 + 1 == i && q.2.category == 2))) = lv') (k : V X kc kn ws (pc + 2) lv' st) : V X kc kn ws pc lv (.long x :: st) := by
  obtain ⟨p, l, e, R, s, m, args, below, meth, c, Q, D, cl, A⟩ := X
  obtain ⟨hx, hb, hml, hown, hts, hK, hA, rfl, rfl, rfl, rfl, hlk⟩ := C
  intro H locs ls hP hD hS hl
  exact lv_lstore hx hb hdg hl (by rw [hml]; exact hn) hl' (fun ls2 hl2 => k H locs ls2 hP hD hS hl2)
theorem V_iinc (C : vC X cc nL Ts own cl0 D0 tys l0 R0) {i j : Nat} {n : Int} {x v : Int32} {lv' : List (Nat × Value)} (hdg : decode cc pc = .ok (.iinc i n, 3)) (hj : lv[j]? = some (i, .int x)) (hv : x + Int32.ofInt n = v) (hn : i < nL) (hl' : (i, Value.int v) :: lv.filter (fun q => !(q.1 == i) && !(q.1 + 1 == i && q.2.category == 2)) = lv') (k : V X kc kn ws (pc + 3) lv' st) : V X kc kn ws pc lv st := by
  obtain ⟨p, l, e, R, s, m, args, below, meth, c, Q, D, cl, A⟩ := X
  obtain ⟨hx, hb, hml, hown, hts, hK, hA, rfl, rfl, rfl, rfl, hlk⟩ := C
  intro H locs ls hP hD hS hl
  exact lv_iinc hx hb hdg hl (k := j) hj hv (by rw [hml]; exact hn) hl' (fun ls2 hl2 => k H locs ls2 hP hD hS hl2)
theorem V_iadd (C : vC X cc nL Ts own cl0 D0 tys l0 R0) {x y : Int32} (hdg : decode cc pc = .ok (.iadd, 1))  (k : V X kc kn ws (pc + 1) lv (.int (x + y) :: st)) : V X kc kn ws pc lv (.int y :: .int x :: st) := by
  obtain ⟨p, l, e, R, s, m, args, below, meth, c, Q, D, cl, A⟩ := X
  obtain ⟨hx, hb, hml, hown, hts, hK, hA, rfl, rfl, rfl, rfl, hlk⟩ := C
  intro H locs ls hP hD hS hl
  exact lv_iadd hx hb hdg  (k H locs ls hP hD hS hl)
theorem V_isub (C : vC X cc nL Ts own cl0 D0 tys l0 R0) {x y : Int32} (hdg : decode cc pc = .ok (.isub, 1))  (k : V X kc kn ws (pc + 1) lv (.int (x - y) :: st)) : V X kc kn ws pc lv (.int y :: .int x :: st) := by
  obtain ⟨p, l, e, R, s, m, args, below, meth, c, Q, D, cl, A⟩ := X
  obtain ⟨hx, hb, hml, hown, hts, hK, hA, rfl, rfl, rfl, rfl, hlk⟩ := C
  intro H locs ls hP hD hS hl
  exact lv_isub hx hb hdg  (k H locs ls hP hD hS hl)
theorem V_imul (C : vC X cc nL Ts own cl0 D0 tys l0 R0) {x y : Int32} (hdg : decode cc pc = .ok (.imul, 1))  (k : V X kc kn ws (pc + 1) lv (.int (x * y) :: st)) : V X kc kn ws pc lv (.int y :: .int x :: st) := by
  obtain ⟨p, l, e, R, s, m, args, below, meth, c, Q, D, cl, A⟩ := X
  obtain ⟨hx, hb, hml, hown, hts, hK, hA, rfl, rfl, rfl, rfl, hlk⟩ := C
  intro H locs ls hP hD hS hl
  exact lv_imul hx hb hdg  (k H locs ls hP hD hS hl)
theorem V_iand (C : vC X cc nL Ts own cl0 D0 tys l0 R0) {x y : Int32} (hdg : decode cc pc = .ok (.iand, 1))  (k : V X kc kn ws (pc + 1) lv (.int (x &&& y) :: st)) : V X kc kn ws pc lv (.int y :: .int x :: st) := by
  obtain ⟨p, l, e, R, s, m, args, below, meth, c, Q, D, cl, A⟩ := X
  obtain ⟨hx, hb, hml, hown, hts, hK, hA, rfl, rfl, rfl, rfl, hlk⟩ := C
  intro H locs ls hP hD hS hl
  exact lv_iand hx hb hdg  (k H locs ls hP hD hS hl)
theorem V_ior (C : vC X cc nL Ts own cl0 D0 tys l0 R0) {x y : Int32} (hdg : decode cc pc = .ok (.ior, 1))  (k : V X kc kn ws (pc + 1) lv (.int (x ||| y) :: st)) : V X kc kn ws pc lv (.int y :: .int x :: st) := by
  obtain ⟨p, l, e, R, s, m, args, below, meth, c, Q, D, cl, A⟩ := X
  obtain ⟨hx, hb, hml, hown, hts, hK, hA, rfl, rfl, rfl, rfl, hlk⟩ := C
  intro H locs ls hP hD hS hl
  exact lv_ior hx hb hdg  (k H locs ls hP hD hS hl)
theorem V_ishl (C : vC X cc nL Ts own cl0 D0 tys l0 R0) {x y : Int32} (hdg : decode cc pc = .ok (.ishl, 1))  (k : V X kc kn ws (pc + 1) lv (.int (x <<< (y &&& 31)) :: st)) : V X kc kn ws pc lv (.int y :: .int x :: st) := by
  obtain ⟨p, l, e, R, s, m, args, below, meth, c, Q, D, cl, A⟩ := X
  obtain ⟨hx, hb, hml, hown, hts, hK, hA, rfl, rfl, rfl, rfl, hlk⟩ := C
  intro H locs ls hP hD hS hl
  exact lv_ishl hx hb hdg  (k H locs ls hP hD hS hl)
theorem V_irem (C : vC X cc nL Ts own cl0 D0 tys l0 R0) {x y : Int32} (hdg : decode cc pc = .ok (.irem, 1)) (hne : ¬ y = 0) (k : V X kc kn ws (pc + 1) lv (.int (x - x / y * y) :: st)) : V X kc kn ws pc lv (.int y :: .int x :: st) := by
  obtain ⟨p, l, e, R, s, m, args, below, meth, c, Q, D, cl, A⟩ := X
  obtain ⟨hx, hb, hml, hown, hts, hK, hA, rfl, rfl, rfl, rfl, hlk⟩ := C
  intro H locs ls hP hD hS hl
  exact lv_irem hx hb hdg hne (k H locs ls hP hD hS hl)
theorem V_ladd (C : vC X cc nL Ts own cl0 D0 tys l0 R0) {x y : Int64} (hdg : decode cc pc = .ok (.ladd, 1))  (k : V X kc kn ws (pc + 1) lv (.long (x + y) :: st)) : V X kc kn ws pc lv (.long y :: .long x :: st) := by
  obtain ⟨p, l, e, R, s, m, args, below, meth, c, Q, D, cl, A⟩ := X
  obtain ⟨hx, hb, hml, hown, hts, hK, hA, rfl, rfl, rfl, rfl, hlk⟩ := C
  intro H locs ls hP hD hS hl
  exact lv_ladd hx hb hdg  (k H locs ls hP hD hS hl)
theorem V_lsub (C : vC X cc nL Ts own cl0 D0 tys l0 R0) {x y : Int64} (hdg : decode cc pc = .ok (.lsub, 1))  (k : V X kc kn ws (pc + 1) lv (.long (x - y) :: st)) : V X kc kn ws pc lv (.long y :: .long x :: st) := by
  obtain ⟨p, l, e, R, s, m, args, below, meth, c, Q, D, cl, A⟩ := X
  obtain ⟨hx, hb, hml, hown, hts, hK, hA, rfl, rfl, rfl, rfl, hlk⟩ := C
  intro H locs ls hP hD hS hl
  exact lv_lsub hx hb hdg  (k H locs ls hP hD hS hl)
theorem V_lmul (C : vC X cc nL Ts own cl0 D0 tys l0 R0) {x y : Int64} (hdg : decode cc pc = .ok (.lmul, 1))  (k : V X kc kn ws (pc + 1) lv (.long (x * y) :: st)) : V X kc kn ws pc lv (.long y :: .long x :: st) := by
  obtain ⟨p, l, e, R, s, m, args, below, meth, c, Q, D, cl, A⟩ := X
  obtain ⟨hx, hb, hml, hown, hts, hK, hA, rfl, rfl, rfl, rfl, hlk⟩ := C
  intro H locs ls hP hD hS hl
  exact lv_lmul hx hb hdg  (k H locs ls hP hD hS hl)
theorem V_land (C : vC X cc nL Ts own cl0 D0 tys l0 R0) {x y : Int64} (hdg : decode cc pc = .ok (.land, 1))  (k : V X kc kn ws (pc + 1) lv (.long (x &&& y) :: st)) : V X kc kn ws pc lv (.long y :: .long x :: st) := by
  obtain ⟨p, l, e, R, s, m, args, below, meth, c, Q, D, cl, A⟩ := X
  obtain ⟨hx, hb, hml, hown, hts, hK, hA, rfl, rfl, rfl, rfl, hlk⟩ := C
  intro H locs ls hP hD hS hl
  exact lv_land hx hb hdg  (k H locs ls hP hD hS hl)
theorem V_lor (C : vC X cc nL Ts own cl0 D0 tys l0 R0) {x y : Int64} (hdg : decode cc pc = .ok (.lor, 1))  (k : V X kc kn ws (pc + 1) lv (.long (x ||| y) :: st)) : V X kc kn ws pc lv (.long y :: .long x :: st) := by
  obtain ⟨p, l, e, R, s, m, args, below, meth, c, Q, D, cl, A⟩ := X
  obtain ⟨hx, hb, hml, hown, hts, hK, hA, rfl, rfl, rfl, rfl, hlk⟩ := C
  intro H locs ls hP hD hS hl
  exact lv_lor hx hb hdg  (k H locs ls hP hD hS hl)
theorem V_i2l (C : vC X cc nL Ts own cl0 D0 tys l0 R0) {x : Int32} (hdg : decode cc pc = .ok (.i2l, 1)) (k : V X kc kn ws (pc + 1) lv (.long x.toInt64 :: st)) : V X kc kn ws pc lv (.int x :: st) := by
  obtain ⟨p, l, e, R, s, m, args, below, meth, c, Q, D, cl, A⟩ := X
  obtain ⟨hx, hb, hml, hown, hts, hK, hA, rfl, rfl, rfl, rfl, hlk⟩ := C
  intro H locs ls hP hD hS hl
  exact lv_i2l hx hb hdg rfl (k H locs ls hP hD hS hl)
theorem V_l2i (C : vC X cc nL Ts own cl0 D0 tys l0 R0) {x : Int64} (hdg : decode cc pc = .ok (.l2i, 1)) (k : V X kc kn ws (pc + 1) lv (.int x.toInt32 :: st)) : V X kc kn ws pc lv (.long x :: st) := by
  obtain ⟨p, l, e, R, s, m, args, below, meth, c, Q, D, cl, A⟩ := X
  obtain ⟨hx, hb, hml, hown, hts, hK, hA, rfl, rfl, rfl, rfl, hlk⟩ := C
  intro H locs ls hP hD hS hl
  exact lv_l2i hx hb hdg rfl (k H locs ls hP hD hS hl)
theorem V_dup (C : vC X cc nL Ts own cl0 D0 tys l0 R0) {va : Value} (hdg : decode cc pc = .ok (.dup, 1)) (hva : va.category = 1) (k : V X kc kn ws (pc + 1) lv (va :: va :: st)) : V X kc kn ws pc lv (va :: st) := by
  obtain ⟨p, l, e, R, s, m, args, below, meth, c, Q, D, cl, A⟩ := X
  obtain ⟨hx, hb, hml, hown, hts, hK, hA, rfl, rfl, rfl, rfl, hlk⟩ := C
  intro H locs ls hP hD hS hl
  exact lv_dup hx hb hdg hva (k H locs ls hP hD hS hl)
theorem V_pop (C : vC X cc nL Ts own cl0 D0 tys l0 R0) {va : Value} (hdg : decode cc pc = .ok (.pop, 1)) (hva : va.category = 1) (k : V X kc kn ws (pc + 1) lv st) : V X kc kn ws pc lv (va :: st) := by
  obtain ⟨p, l, e, R, s, m, args, below, meth, c, Q, D, cl, A⟩ := X
  obtain ⟨hx, hb, hml, hown, hts, hK, hA, rfl, rfl, rfl, rfl, hlk⟩ := C
  intro H locs ls hP hD hS hl
  exact lv_pop hx hb hdg hva (k H locs ls hP hD hS hl)
theorem V_if_eq (C : vC X cc nL Ts own cl0 D0 tys l0 R0) {x : Int32} {off : Int} {tgt : Nat} (hdg : decode cc pc = .ok (.ifCond .eq off, 3)) (ht : (pc : Int) + off = (tgt : Int)) (kt : x = 0 → V X kc kn ws tgt lv st) (kf : ¬ x = 0 → V X kc kn ws (pc + 3) lv st) : V X kc kn ws pc lv (.int x :: st) := by
  obtain ⟨p, l, e, R, s, m, args, below, meth, c, Q, D, cl, A⟩ := X
  obtain ⟨hx, hb, hml, hown, hts, hK, hA, rfl, rfl, rfl, rfl, hlk⟩ := C
  intro H locs ls hP hD hS hl
  exact lv_if_eq hx hb hdg ht (fun h => kt h H locs ls hP hD hS hl) (fun h => kf h H locs ls hP hD hS hl)
theorem V_icmp_eq (C : vC X cc nL Ts own cl0 D0 tys l0 R0) {x y : Int32} {off : Int} {tgt : Nat} (hdg : decode cc pc = .ok (.if_icmp .eq off, 3)) (ht : (pc : Int) + off = (tgt : Int)) (kt : x = y → V X kc kn ws tgt lv st) (kf : ¬ x = y → V X kc kn ws (pc + 3) lv st) : V X kc kn ws pc lv (.int y :: .int x :: st) := by
  obtain ⟨p, l, e, R, s, m, args, below, meth, c, Q, D, cl, A⟩ := X
  obtain ⟨hx, hb, hml, hown, hts, hK, hA, rfl, rfl, rfl, rfl, hlk⟩ := C
  intro H locs ls hP hD hS hl
  exact lv_icmp_eq hx hb hdg ht (fun h => kt h H locs ls hP hD hS hl) (fun h => kf h H locs ls hP hD hS hl)
theorem V_if_ne (C : vC X cc nL Ts own cl0 D0 tys l0 R0) {x : Int32} {off : Int} {tgt : Nat} (hdg : decode cc pc = .ok (.ifCond .ne off, 3)) (ht : (pc : Int) + off = (tgt : Int)) (kt : ¬ x = 0 → V X kc kn ws tgt lv st) (kf : x = 0 → V X kc kn ws (pc + 3) lv st) : V X kc kn ws pc lv (.int x :: st) := by
  obtain ⟨p, l, e, R, s, m, args, below, meth, c, Q, D, cl, A⟩ := X
  obtain ⟨hx, hb, hml, hown, hts, hK, hA, rfl, rfl, rfl, rfl, hlk⟩ := C
  intro H locs ls hP hD hS hl
  exact lv_if_ne hx hb hdg ht (fun h => kt h H locs ls hP hD hS hl) (fun h => kf h H locs ls hP hD hS hl)
theorem V_icmp_ne (C : vC X cc nL Ts own cl0 D0 tys l0 R0) {x y : Int32} {off : Int} {tgt : Nat} (hdg : decode cc pc = .ok (.if_icmp .ne off, 3)) (ht : (pc : Int) + off = (tgt : Int)) (kt : ¬ x = y → V X kc kn ws tgt lv st) (kf : x = y → V X kc kn ws (pc + 3) lv st) : V X kc kn ws pc lv (.int y :: .int x :: st) := by
  obtain ⟨p, l, e, R, s, m, args, below, meth, c, Q, D, cl, A⟩ := X
  obtain ⟨hx, hb, hml, hown, hts, hK, hA, rfl, rfl, rfl, rfl, hlk⟩ := C
  intro H locs ls hP hD hS hl
  exact lv_icmp_ne hx hb hdg ht (fun h => kt h H locs ls hP hD hS hl) (fun h => kf h H locs ls hP hD hS hl)
theorem V_if_lt (C : vC X cc nL Ts own cl0 D0 tys l0 R0) {x : Int32} {off : Int} {tgt : Nat} (hdg : decode cc pc = .ok (.ifCond .lt off, 3)) (ht : (pc : Int) + off = (tgt : Int)) (kt : x < 0 → V X kc kn ws tgt lv st) (kf : ¬ x < 0 → V X kc kn ws (pc + 3) lv st) : V X kc kn ws pc lv (.int x :: st) := by
  obtain ⟨p, l, e, R, s, m, args, below, meth, c, Q, D, cl, A⟩ := X
  obtain ⟨hx, hb, hml, hown, hts, hK, hA, rfl, rfl, rfl, rfl, hlk⟩ := C
  intro H locs ls hP hD hS hl
  exact lv_if_lt hx hb hdg ht (fun h => kt h H locs ls hP hD hS hl) (fun h => kf h H locs ls hP hD hS hl)
theorem V_icmp_lt (C : vC X cc nL Ts own cl0 D0 tys l0 R0) {x y : Int32} {off : Int} {tgt : Nat} (hdg : decode cc pc = .ok (.if_icmp .lt off, 3)) (ht : (pc : Int) + off = (tgt : Int)) (kt : x < y → V X kc kn ws tgt lv st) (kf : ¬ x < y → V X kc kn ws (pc + 3) lv st) : V X kc kn ws pc lv (.int y :: .int x :: st) := by
  obtain ⟨p, l, e, R, s, m, args, below, meth, c, Q, D, cl, A⟩ := X
  obtain ⟨hx, hb, hml, hown, hts, hK, hA, rfl, rfl, rfl, rfl, hlk⟩ := C
  intro H locs ls hP hD hS hl
  exact lv_icmp_lt hx hb hdg ht (fun h => kt h H locs ls hP hD hS hl) (fun h => kf h H locs ls hP hD hS hl)
theorem V_if_ge (C : vC X cc nL Ts own cl0 D0 tys l0 R0) {x : Int32} {off : Int} {tgt : Nat} (hdg : decode cc pc = .ok (.ifCond .ge off, 3)) (ht : (pc : Int) + off = (tgt : Int)) (kt : 0 ≤ x → V X kc kn ws tgt lv st) (kf : ¬ 0 ≤ x → V X kc kn ws (pc + 3) lv st) : V X kc kn ws pc lv (.int x :: st) := by
  obtain ⟨p, l, e, R, s, m, args, below, meth, c, Q, D, cl, A⟩ := X
  obtain ⟨hx, hb, hml, hown, hts, hK, hA, rfl, rfl, rfl, rfl, hlk⟩ := C
  intro H locs ls hP hD hS hl
  exact lv_if_ge hx hb hdg ht (fun h => kt h H locs ls hP hD hS hl) (fun h => kf h H locs ls hP hD hS hl)
theorem V_icmp_ge (C : vC X cc nL Ts own cl0 D0 tys l0 R0) {x y : Int32} {off : Int} {tgt : Nat} (hdg : decode cc pc = .ok (.if_icmp .ge off, 3)) (ht : (pc : Int) + off = (tgt : Int)) (kt : y ≤ x → V X kc kn ws tgt lv st) (kf : ¬ y ≤ x → V X kc kn ws (pc + 3) lv st) : V X kc kn ws pc lv (.int y :: .int x :: st) := by
  obtain ⟨p, l, e, R, s, m, args, below, meth, c, Q, D, cl, A⟩ := X
  obtain ⟨hx, hb, hml, hown, hts, hK, hA, rfl, rfl, rfl, rfl, hlk⟩ := C
  intro H locs ls hP hD hS hl
  exact lv_icmp_ge hx hb hdg ht (fun h => kt h H locs ls hP hD hS hl) (fun h => kf h H locs ls hP hD hS hl)
theorem V_if_gt (C : vC X cc nL Ts own cl0 D0 tys l0 R0) {x : Int32} {off : Int} {tgt : Nat} (hdg : decode cc pc = .ok (.ifCond .gt off, 3)) (ht : (pc : Int) + off = (tgt : Int)) (kt : 0 < x → V X kc kn ws tgt lv st) (kf : ¬ 0 < x → V X kc kn ws (pc + 3) lv st) : V X kc kn ws pc lv (.int x :: st) := by
  obtain ⟨p, l, e, R, s, m, args, below, meth, c, Q, D, cl, A⟩ := X
  obtain ⟨hx, hb, hml, hown, hts, hK, hA, rfl, rfl, rfl, rfl, hlk⟩ := C
  intro H locs ls hP hD hS hl
  exact lv_if_gt hx hb hdg ht (fun h => kt h H locs ls hP hD hS hl) (fun h => kf h H locs ls hP hD hS hl)
theorem V_icmp_gt (C : vC X cc nL Ts own cl0 D0 tys l0 R0) {x y : Int32} {off : Int} {tgt : Nat} (hdg : decode cc pc = .ok (.if_icmp .gt off, 3)) (ht : (pc : Int) + off = (tgt : Int)) (kt : y < x → V X kc kn ws tgt lv st) (kf : ¬ y < x → V X kc kn ws (pc + 3) lv st) : V X kc kn ws pc lv (.int y :: .int x :: st) := by
  obtain ⟨p, l, e, R, s, m, args, below, meth, c, Q, D, cl, A⟩ := X
  obtain ⟨hx, hb, hml, hown, hts, hK, hA, rfl, rfl, rfl, rfl, hlk⟩ := C
  intro H locs ls hP hD hS hl
  exact lv_icmp_gt hx hb hdg ht (fun h => kt h H locs ls hP hD hS hl) (fun h => kf h H locs ls hP hD hS hl)
theorem V_if_le (C : vC X cc nL Ts own cl0 D0 tys l0 R0) {x : Int32} {off : Int} {tgt : Nat} (hdg : decode cc pc = .ok (.ifCond .le off, 3)) (ht : (pc : Int) + off = (tgt : Int)) (kt : x ≤ 0 → V X kc kn ws tgt lv st) (kf : ¬ x ≤ 0 → V X kc kn ws (pc + 3) lv st) : V X kc kn ws pc lv (.int x :: st) := by
  obtain ⟨p, l, e, R, s, m, args, below, meth, c, Q, D, cl, A⟩ := X
  obtain ⟨hx, hb, hml, hown, hts, hK, hA, rfl, rfl, rfl, rfl, hlk⟩ := C
  intro H locs ls hP hD hS hl
  exact lv_if_le hx hb hdg ht (fun h => kt h H locs ls hP hD hS hl) (fun h => kf h H locs ls hP hD hS hl)
theorem V_icmp_le (C : vC X cc nL Ts own cl0 D0 tys l0 R0) {x y : Int32} {off : Int} {tgt : Nat} (hdg : decode cc pc = .ok (.if_icmp .le off, 3)) (ht : (pc : Int) + off = (tgt : Int)) (kt : x ≤ y → V X kc kn ws tgt lv st) (kf : ¬ x ≤ y → V X kc kn ws (pc + 3) lv st) : V X kc kn ws pc lv (.int y :: .int x :: st) := by
  obtain ⟨p, l, e, R, s, m, args, below, meth, c, Q, D, cl, A⟩ := X
  obtain ⟨hx, hb, hml, hown, hts, hK, hA, rfl, rfl, rfl, rfl, hlk⟩ := C
  intro H locs ls hP hD hS hl
  exact lv_icmp_le hx hb hdg ht (fun h => kt h H locs ls hP hD hS hl) (fun h => kf h H locs ls hP hD hS hl)
theorem V_goto (C : vC X cc nL Ts own cl0 D0 tys l0 R0) {off : Int} {tgt : Nat} (hdg : decode cc pc = .ok (.goto off, 3)) (ht : (pc : Int) + off = (tgt : Int)) (k : V X kc kn ws tgt lv st) : V X kc kn ws pc lv st := by
  obtain ⟨p, l, e, R, s, m, args, below, meth, c, Q, D, cl, A⟩ := X
  obtain ⟨hx, hb, hml, hown, hts, hK, hA, rfl, rfl, rfl, rfl, hlk⟩ := C
  intro H locs ls hP hD hS hl
  exact lv_goto hx hb hdg ht (k H locs ls hP hD hS hl)
theorem V_lcmp (C : vC X cc nL Ts own cl0 D0 tys l0 R0) {x y : Int64} (hdg : decode cc pc = .ok (.lcmp, 1)) (k : V X kc kn ws (pc + 1) lv (.int (lg_cmp x y) :: st)) : V X kc kn ws pc lv (.long y :: .long x :: st) := by
  obtain ⟨p, l, e, R, s, m, args, below, meth, c, Q, D, cl, A⟩ := X
  obtain ⟨hx, hb, hml, hown, hts, hK, hA, rfl, rfl, rfl, rfl, hlk⟩ := C
  intro H locs ls hP hD hS hl
  exact W.lcmp hx hb hdg (k H locs ls hP hD hS hl)
theorem V_get (C : vC X cc nL Ts own cl0 D0 tys l0 R0) {ref C9 : String} {T : u_T} {N ci index a : Nat} {fs : List Value} {v : Value} (hdg : decode cc pc = .ok (.getfield index, 3)) (hin : ∀ w ∈ u_ws C9 T N, w ∈ Ts) (q0 : Nat) (he : ws[q0]? = some (a, .inr (ci, fs))) (hc : cl0[ci]? = some (C9, T, N)) (j : Nat) (hk : j < N) (hlink : Cond.fieldLink own index ref (T j).2.1 (T j).2.2.1 ∈ Ts) (href : (T j).1 = ref) (hv : fs[j]? = some v) (k : V X kc kn ws (pc + 3) lv (v :: st)) : V X kc kn ws pc lv (.ref a :: st) := by
  obtain ⟨p, l, e, R, s, m, args, below, meth, c, Q, D, cl, A⟩ := X
  obtain ⟨hx, hb, hml, hown, hts, hK, hA, rfl, rfl, rfl, rfl, hlk⟩ := C
  intro H locs ls hP hD hS hl
  exact va_get (D := D) hx hb hts hin hown hK hP q0 he hc j hk (hts _ hlink) (fun _ h9 => by rw [← href]; exact h9) hv hdg (k H locs ls hP hD hS hl)
theorem V_put (C : vC X cc nL Ts own cl0 D0 tys l0 R0) {ref C9 : String} {T : u_T} {N ci index a : Nat} {fs : List Value} {v : Value} {ty : FieldType} {ty0 : Nat → FieldType} {ws' : va_W} (hdg : decode cc pc = .ok (.putfield index, 3)) (hin : ∀ w ∈ u_ws C9 T N, w ∈ Ts) (hty : ∀ k, k < N → parseFieldDescriptor (T k).2.2.1 = some (ty0 k)) (hnm : ∀ a, a < N → ∀ b, b < N → a ≠ b → (T a).2.1 ≠ (T b).2.1) (q0 : Nat) (he : ws[q0]? = some (a, .inr (ci, fs))) (hc : cl0[ci]? = some (C9, T, N)) (j : Nat) (hk : j < N) (hlink : Cond.fieldLink own index ref (T j).2.1 (T j).2.2.1 ∈ Ts) (href : (T j).1 = ref) (hfin : (T j).2.2.2 = false) (hd : ty0 j = ty) (hn : narrow ty v = v) (hfit : fits ty v = true) (hlen : j < fs.length) (hw : ws.set q0 (a, .inr (ci, fs.set j v)) = ws') (k : V X kc kn ws' (pc + 3) lv st) : V X kc kn ws pc lv (v :: .ref a :: st) := by
  obtain ⟨p, l, e, R, s, m, args, below, meth, c, Q, D, cl, A⟩ := X
  obtain ⟨hx, hb, hml, hown, hts, hK, hA, rfl, rfl, rfl, rfl, hlk⟩ := C
  intro H locs ls hP hD hS hl
  subst hw
  exact va_put (D := D) hx hb hts hin ty0 hty hnm hown hK hP hD hS q0 he hc j hk (hts _ hlink) (fun _ h9 => by rw [← href]; exact h9) hfin (by rw [← hd]; exact hty j hk) hn hfit hlen hdg (fun H1 locs1 hP1 hD1 hS1 => k H1 locs1 ls hP1 hD1 hS1 hl)
theorem V_iald (C : vC X cc nL Ts own cl0 D0 tys l0 R0) {a n : Nat} {cA : ClassId} {f : Nat → Int32} {i : Int32} (hdg : decode cc pc = .ok (.iaload, 1)) (q0 t0 : Nat) (ha : ws[q0]? = some (a, .inl (cA, n, .inl f))) (ht : tys[t0]? = some (cA, .int)) (hin : vp_in i n) (k : V X kc kn ws (pc + 1) lv (.int (f i.toNatClampNeg) :: st)) : V X kc kn ws pc lv (.int i :: .ref a :: st) := by
  obtain ⟨p, l, e, R, s, m, args, below, meth, c, Q, D, cl, A⟩ := X
  obtain ⟨hx, hb, hml, hown, hts, hK, hA, rfl, rfl, rfl, rfl, hlk⟩ := C
  intro H locs ls hP hD hS hl
  exact va_iald (D := D) hx hb hK hP q0 t0 ha ht hin hdg (k H locs ls hP hD hS hl)
theorem V_zald (C : vC X cc nL Ts own cl0 D0 tys l0 R0) {a n : Nat} {cA : ClassId} {f : Nat → Int32} {i : Int32} (hdg : decode cc pc = .ok (.baload, 1)) (q0 t0 : Nat) (ha : ws[q0]? = some (a, .inl (cA, n, .inl f))) (ht : tys[t0]? = some (cA, .boolean)) (hin : vp_in i n) (k : V X kc kn ws (pc + 1) lv (.int (f i.toNatClampNeg) :: st)) : V X kc kn ws pc lv (.int i :: .ref a :: st) := by
  obtain ⟨p, l, e, R, s, m, args, below, meth, c, Q, D, cl, A⟩ := X
  obtain ⟨hx, hb, hml, hown, hts, hK, hA, rfl, rfl, rfl, rfl, hlk⟩ := C
  intro H locs ls hP hD hS hl
  exact va_zald (D := D) hx hb hK hP q0 t0 ha ht hin hdg (k H locs ls hP hD hS hl)
theorem V_lald (C : vC X cc nL Ts own cl0 D0 tys l0 R0) {a n : Nat} {cA : ClassId} {f : Nat → Int64} {i : Int32} (hdg : decode cc pc = .ok (.laload, 1)) (q0 t0 : Nat) (ha : ws[q0]? = some (a, .inl (cA, n, .inr (.inl f)))) (ht : tys[t0]? = some (cA, .long)) (hin : vp_in i n) (k : V X kc kn ws (pc + 1) lv (.long (f i.toNatClampNeg) :: st)) : V X kc kn ws pc lv (.int i :: .ref a :: st) := by
  obtain ⟨p, l, e, R, s, m, args, below, meth, c, Q, D, cl, A⟩ := X
  obtain ⟨hx, hb, hml, hown, hts, hK, hA, rfl, rfl, rfl, rfl, hlk⟩ := C
  intro H locs ls hP hD hS hl
  exact va_lald (D := D) hx hb hK hP q0 t0 ha ht hin hdg (k H locs ls hP hD hS hl)
theorem V_iast (C : vC X cc nL Ts own cl0 D0 tys l0 R0) {a n : Nat} {cA : ClassId} {f : Nat → Int32} {i : Int32} {x : Int32} {ws' : va_W} (hdg : decode cc pc = .ok (.iastore, 1)) (q0 t0 : Nat) (ha : ws[q0]? = some (a, .inl (cA, n, .inl f))) (ht : tys[t0]? = some (cA, .int)) (hin : vp_in i n) (hw : ws.set q0 (a, .inl (cA, n, .inl (upd f i.toNatClampNeg x))) = ws') (k : V X kc kn ws' (pc + 1) lv st) : V X kc kn ws pc lv (.int x :: .int i :: .ref a :: st) := by
  obtain ⟨p, l, e, R, s, m, args, below, meth, c, Q, D, cl, A⟩ := X
  obtain ⟨hx, hb, hml, hown, hts, hK, hA, rfl, rfl, rfl, rfl, hlk⟩ := C
  intro H locs ls hP hD hS hl
  subst hw
  exact va_iast (D := D) hx hb hK hP hD hS q0 t0 ha ht hin hdg (fun H1 locs1 hP1 hD1 hS1 => k H1 locs1 ls hP1 hD1 hS1 hl)
theorem V_zast (C : vC X cc nL Ts own cl0 D0 tys l0 R0) {a n : Nat} {cA : ClassId} {f : Nat → Int32} {i : Int32} {x : Int32} {ws' : va_W} (hdg : decode cc pc = .ok (.bastore, 1)) (q0 t0 : Nat) (ha : ws[q0]? = some (a, .inl (cA, n, .inl f))) (ht : tys[t0]? = some (cA, .boolean)) (hin : vp_in i n) (hw : ws.set q0 (a, .inl (cA, n, .inl (upd f i.toNatClampNeg (vp_nar .boolean x)))) = ws') (k : V X kc kn ws' (pc + 1) lv st) : V X kc kn ws pc lv (.int x :: .int i :: .ref a :: st) := by
  obtain ⟨p, l, e, R, s, m, args, below, meth, c, Q, D, cl, A⟩ := X
  obtain ⟨hx, hb, hml, hown, hts, hK, hA, rfl, rfl, rfl, rfl, hlk⟩ := C
  intro H locs ls hP hD hS hl
  subst hw
  exact va_zast (D := D) hx hb hK hP hD hS q0 t0 ha ht hin hdg (fun H1 locs1 hP1 hD1 hS1 => k H1 locs1 ls hP1 hD1 hS1 hl)
theorem V_last (C : vC X cc nL Ts own cl0 D0 tys l0 R0) {a n : Nat} {cA : ClassId} {f : Nat → Int64} {i : Int32} {x : Int64} {ws' : va_W} (hdg : decode cc pc = .ok (.lastore, 1)) (q0 t0 : Nat) (ha : ws[q0]? = some (a, .inl (cA, n, .inr (.inl f)))) (ht : tys[t0]? = some (cA, .long)) (hin : vp_in i n) (hw : ws.set q0 (a, .inl (cA, n, .inr (.inl (vp_updL f i.toNatClampNeg x)))) = ws') (k : V X kc kn ws' (pc + 1) lv st) : V X kc kn ws pc lv (.long x :: .int i :: .ref a :: st) := by
  obtain ⟨p, l, e, R, s, m, args, below, meth, c, Q, D, cl, A⟩ := X
  obtain ⟨hx, hb, hml, hown, hts, hK, hA, rfl, rfl, rfl, rfl, hlk⟩ := C
  intro H locs ls hP hD hS hl
  subst hw
  exact va_last (D := D) hx hb hK hP hD hS q0 t0 ha ht hin hdg (fun H1 locs1 hP1 hD1 hS1 => k H1 locs1 ls hP1 hD1 hS1 hl)
theorem V_alen (C : vC X cc nL Ts own cl0 D0 tys l0 R0) {a : Nat} {cA : ClassId} {x : vp_A} {ty : FieldType} {v : Int32} (hdg : decode cc pc = .ok (.arraylength, 1)) (q0 t0 : Nat) (ha : ws[q0]? = some (a, .inl (cA, x))) (ht : tys[t0]? = some (cA, ty)) (hv : Int32.ofNat x.1 = v) (k : V X kc kn ws (pc + 1) lv (.int v :: st)) : V X kc kn ws pc lv (.ref a :: st) := by
  obtain ⟨p, l, e, R, s, m, args, below, meth, c, Q, D, cl, A⟩ := X
  obtain ⟨hx, hb, hml, hown, hts, hK, hA, rfl, rfl, rfl, rfl, hlk⟩ := C
  intro H locs ls hP hD hS hl
  exact va_alen (D := D) hx hb hK hP q0 t0 ha ht hv hdg (k H locs ls hP hD hS hl)
theorem V_topi {x : Int32} (k : ∀ y : Int32, y = x → V X kc kn ws pc lv (.int y :: st)) : V X kc kn ws pc lv (.int x :: st) := k x rfl
theorem V_topl {x : Int64} (k : ∀ y : Int64, y = x → V X kc kn ws pc lv (.long y :: st)) : V X kc kn ws pc lv (.long x :: st) := k x rfl
theorem V_ws {ws' : va_W} (h : ws = ws') (k : V X kc kn ws' pc lv st) : V X kc kn ws pc lv st := by subst h; exact k
theorem V_pc {pc' : Nat} (h : pc = pc') (k : V X kc kn ws pc' lv st) : V X kc kn ws pc lv st := by subst h; exact k
theorem V_sub {lv' : List (Nat × Value)} (ks : List Nat) (h : lv_pick lv ks = lv') (k : V X kc kn ws pc lv' st) : V X kc kn ws pc lv st := by
  obtain ⟨p, l, e, R, s, m, args, below, meth, c, Q, D, cl, A⟩ := X
  intro H locs ls hP hD hS hl
  exact k H locs ls hP hD hS (lv_sub hl ks h)
end VR
section VE
def vPre (D : va_G) (cl : List vw_C) (tys : List (ClassId × FieldType)) (ws : va_W) (sz : Nat) : State → Prop := fun U => U.heap.size = sz ∧ va_P D cl ws U.heap ∧ va_K D cl tys U ∧ va_D (fun _ => True) ws
def vPost {S : Type} (D : va_G) (cl : List vw_C) (tys : List (ClassId × FieldType)) (w : S → va_W) (A : Nat → Prop) : S → State → Prop := fun u t => va_P D cl (w u) t.heap ∧ va_K D cl tys t ∧ va_D A (w u)
theorem vPre_blind {D : va_G} {cl : List vw_C} {tys : List (ClassId × FieldType)} {ws : va_W} {sz : Nat} {av : List Value} : FrameBlind (va_Pc av (vPre D cl tys ws sz)) := fun a U g mk q => by
  obtain ⟨q0, q1, qP, qK, qD⟩ := q
  exact ⟨q0, q1, qP, va_K.moved (u := U) (U := U.calling g mk a) (Vm.Alike.refl U.vm) qK, qD⟩
theorem vFree {D : va_G} {cl : List vw_C} {A : Nat → Prop} {ws : va_W} {H0 H : Heap} {locs : List Loc} (hD : va_D A ws) (hS : va_S A H0 H locs) (hA : ∀ q, H0.size ≤ q → A q) : ∀ q, va_A ws H.size q → A q := by
  intro q h
  rcases h with ⟨k, e, h⟩ | h
  · exact hD.2 k _ h
  · exact hA q (Nat.le_trans hS.1 h)
def vMi {S : Type} (l : Launch) (D : va_G) (cl : List vw_C) (tys : List (ClassId × FieldType)) (y : MethodName) (wsY : List Cond) (rm : Room) (av : List Value) (w0 : va_W) (w : S → va_W) (post : Int32 → S → Prop) : Prop := ∀ sz : Nat, Met l y wsY rm (va_Pc av (vPre D cl tys w0 sz)) (va_Qi post (vPost D cl tys w (va_A w0 sz)) (va_A w0 sz)) rm.cells rm.slots (va_A w0 sz)
theorem vMi_of {S : Type} {rt : FieldType} {l : Launch} {D : va_G} {cl : List vw_C} {tys : List (ClassId × FieldType)} {y : MethodName} {wsY ws' : List Cond} {rm : Room} {av : List Value} {w0 : va_W} {w : S → va_W} {post : Int32 → S → Prop} {cc : ByteArray} {nL : Nat} (hy : plainName y.cls = true) (hw : wsY = Cond.code y cc nL (some rt) :: ws') (hav : (lg_sl av).length ≤ nL)
    (body : ∀ X : vCtx, vC X cc nL wsY y.cls cl D tys l rm → (∀ (r : Int32) (u : S) (pc : Nat) (lv : List (Nat × Value)), decode cc pc = .ok (.ireturn, 1) → narrow rt (.int r) = .int r → post r u → V X rm.cells rm.slots (w u) pc lv [.int r]) → V X 0 0 w0 0 (lv_args 0 av) []) : vMi l D cl tys y wsY rm av w0 w post := by
  intro sz
  refine Met.ofW (cc := cc) (maxL := nL) (ret := (some rt)) hy hw ?_
  intro p e s m args below meth c s₁ B hml hv
  obtain ⟨rfl, hsz, hP, hK, hD0⟩ := hv
  subst hsz
  have hx := B.exec
  have hb := B.bytes
  have hr := B.returns
  have hts := atoms_spec (ws := wsY) B.pre
  have hown : s.vm.findClass y.cls = some m.cls := findClass_of_methodNamed B.named
  have hlk := B.notSynchronized
  have hD := hD0.self (sz := s.heap.size)
  have hl := lv_entry av (n := nL) hav
  rw [lg_entry_eq]
  refine body (p, l, e, rm, s, m, av.toArray, below, meth, c, _, D, cl, va_A w0 s.heap.size) ⟨hx, hb, hml, hown, hts, hK, fun q h => Or.inr h, rfl, rfl, rfl, rfl, hlk⟩ ?_ s.heap [] _ hP hD va_S.rf (by rw [hml]; exact hl)
  intro r u pc lv hdg hn hp H locs ls hP hD hS hl
  exact W.zret hx hb hr hn (fun t ht hW => ⟨⟨r, u, rfl, hp, by rw [ht]; exact hP, va_K.moved hW.alike hK, hD⟩, hS.F ht⟩) hS.2.2 hdg
def vMl {S : Type} (l : Launch) (D : va_G) (cl : List vw_C) (tys : List (ClassId × FieldType)) (y : MethodName) (wsY : List Cond) (rm : Room) (av : List Value) (w0 : va_W) (w : S → va_W) (post : Int64 → S → Prop) : Prop := ∀ sz : Nat, Met l y wsY rm (va_Pc av (vPre D cl tys w0 sz)) (va_Ql post (vPost D cl tys w (va_A w0 sz)) (va_A w0 sz)) rm.cells rm.slots (va_A w0 sz)
theorem vMl_of {S : Type} {l : Launch} {D : va_G} {cl : List vw_C} {tys : List (ClassId × FieldType)} {y : MethodName} {wsY ws' : List Cond} {rm : Room} {av : List Value} {w0 : va_W} {w : S → va_W} {post : Int64 → S → Prop} {cc : ByteArray} {nL : Nat} (hy : plainName y.cls = true) (hw : wsY = Cond.code y cc nL (some .long) :: ws') (hav : (lg_sl av).length ≤ nL)
    (body : ∀ X : vCtx, vC X cc nL wsY y.cls cl D tys l rm → (∀ (r : Int64) (u : S) (pc : Nat) (lv : List (Nat × Value)), decode cc pc = .ok (.lreturn, 1) → post r u → V X rm.cells rm.slots (w u) pc lv [.long r]) → V X 0 0 w0 0 (lv_args 0 av) []) : vMl l D cl tys y wsY rm av w0 w post := by
  intro sz
  refine Met.ofW (cc := cc) (maxL := nL) (ret := (some .long)) hy hw ?_
  intro p e s m args below meth c s₁ B hml hv
  obtain ⟨rfl, hsz, hP, hK, hD0⟩ := hv
  subst hsz
  have hx := B.exec
  have hb := B.bytes
  have hr := B.returns
  have hts := atoms_spec (ws := wsY) B.pre
  have hown : s.vm.findClass y.cls = some m.cls := findClass_of_methodNamed B.named
  have hlk := B.notSynchronized
  have hD := hD0.self (sz := s.heap.size)
  have hl := lv_entry av (n := nL) hav
  rw [lg_entry_eq]
  refine body (p, l, e, rm, s, m, av.toArray, below, meth, c, _, D, cl, va_A w0 s.heap.size) ⟨hx, hb, hml, hown, hts, hK, fun q h => Or.inr h, rfl, rfl, rfl, rfl, hlk⟩ ?_ s.heap [] _ hP hD va_S.rf (by rw [hml]; exact hl)
  intro r u pc lv hdg hp H locs ls hP hD hS hl
  exact W.lret hx hb hr (fun t ht hW => ⟨⟨r, u, rfl, hp, by rw [ht]; exact hP, va_K.moved hW.alike hK, hD⟩, hS.F ht⟩) hS.2.2 hdg
def vMv {S : Type} (l : Launch) (D : va_G) (cl : List vw_C) (tys : List (ClassId × FieldType)) (y : MethodName) (wsY : List Cond) (rm : Room) (av : List Value) (w0 : va_W) (w : S → va_W) (post : S → Prop) : Prop := ∀ sz : Nat, Met l y wsY rm (va_Pc av (vPre D cl tys w0 sz)) (va_Qv post (vPost D cl tys w (va_A w0 sz)) (va_A w0 sz)) rm.cells rm.slots (va_A w0 sz)
theorem vMv_of {S : Type} {l : Launch} {D : va_G} {cl : List vw_C} {tys : List (ClassId × FieldType)} {y : MethodName} {wsY ws' : List Cond} {rm : Room} {av : List Value} {w0 : va_W} {w : S → va_W} {post : S → Prop} {cc : ByteArray} {nL : Nat} (hy : plainName y.cls = true) (hw : wsY = Cond.code y cc nL none :: ws') (hav : (lg_sl av).length ≤ nL)
    (body : ∀ X : vCtx, vC X cc nL wsY y.cls cl D tys l rm → (∀ (u : S) (pc : Nat) (lv : List (Nat × Value)), decode cc pc = .ok (.return_, 1) → post u → V X rm.cells rm.slots (w u) pc lv []) → V X 0 0 w0 0 (lv_args 0 av) []) : vMv l D cl tys y wsY rm av w0 w post := by
  intro sz
  refine Met.ofW (cc := cc) (maxL := nL) (ret := none) hy hw ?_
  intro p e s m args below meth c s₁ B hml hv
  obtain ⟨rfl, hsz, hP, hK, hD0⟩ := hv
  subst hsz
  have hx := B.exec
  have hb := B.bytes
  have hr := B.returns
  have hts := atoms_spec (ws := wsY) B.pre
  have hown : s.vm.findClass y.cls = some m.cls := findClass_of_methodNamed B.named
  have hlk := B.notSynchronized
  have hD := hD0.self (sz := s.heap.size)
  have hl := lv_entry av (n := nL) hav
  rw [lg_entry_eq]
  refine body (p, l, e, rm, s, m, av.toArray, below, meth, c, _, D, cl, va_A w0 s.heap.size) ⟨hx, hb, hml, hown, hts, hK, fun q h => Or.inr h, rfl, rfl, rfl, rfl, hlk⟩ ?_ s.heap [] _ hP hD va_S.rf (by rw [hml]; exact hl)
  intro u pc lv hdg hp H locs ls hP hD hS hl
  exact W.vret hx hb hr (fun t ht hW => ⟨⟨u, rfl, hp, by rw [ht]; exact hP, va_K.moved hW.alike hK, hD⟩, hS.F ht⟩) hS.2.2 hdg
end VE
section VK
variable {X : vCtx} {kc kn : Nat} {w0 : va_W} {pc : Nat} {lv : List (Nat × Value)} {st : List Value} {cc : ByteArray} {nL : Nat} {Ts : List Cond} {own : String} {cl0 : List vw_C} {D0 : va_G} {tys : List (ClassId × FieldType)} {l0 : Launch} {R0 : Room}
theorem V_calliV {S : Type} (C : vC X cc nL Ts own cl0 D0 tys l0 R0) {y : MethodName} {wsY ws' : List Cond} {rm : Room} {As rest : List Value} {w : S → va_W} {post : Int32 → S → Prop} {C9 : String} {index maxL : Nat} {bytes : ByteArray} {ret : Option FieldType} (hdg : decode cc pc = .ok (.invokevirtual index, 3)) (q0 : Nat) {b ci : Nat} {fs : List Value} {T : u_T} {N : Nat} (he : w0[q0]? = some (b, .inr (ci, fs))) (hc : cl0[ci]? = some (C9, T, N)) (hM : vMi l0 D0 cl0 tys y wsY rm (.ref b :: As) w0 w post) (hG : GoodIn Ts (wsV own index C9 y wsY)) (hw : wsY = Cond.code y bytes maxL ret :: ws') (n9 : Nat) (hn : As.length = n9) (hd : y.cls = C9 ∧ y.cls ≠ "java/lang/invoke/MethodHandle" ∧ y.cls ≠ "java/lang/invoke/VarHandle" ∧ (parseMethodDescriptor y.desc).map (fun d => d.parameters.length) = some n9) (hR : rm.frames + 1 ≤ R0.frames ∧ 8 + (maxL + 11) + rm.locals ≤ R0.locals) (hcn : kc + rm.cells ≤ R0.cells ∧ kn + rm.slots ≤ R0.slots) (hst : st = As.reverse ++ .ref b :: rest) (hcat : (rest.map fun v => v.category).sum ≤ 8) (k : ∀ (r : Int32) (u : S), post r u → V X (kc + rm.cells) (kn + rm.slots) (w u) (pc + 3) lv (.int r :: rest)) : V X kc kn w0 pc lv st := by
  obtain ⟨p, l, e, R, s, m, args, below, meth, c, Q, D, cl, A⟩ := X
  obtain ⟨hx, hb, hml, hown, hts, hK, hA, rfl, rfl, rfl, rfl, hlk⟩ := C
  intro H locs ls hP hD hS hl
  subst hst
  have hFc := vFree (D := D) (cl := cl) hD hS hA
  exact va_calli (va_runV (As := As) (rest := rest) ⟨hx, hb, hml, hown, hts⟩ (hM H.size) (cwV n9 hts hG hw rfl rfl hd hR) ⟨vPre_blind, va_recv hK hP (q := (C9, T, N)) hc he, fun U hU hW => ⟨rfl, by rw [hU], by rw [hU]; exact hP, va_K.moved hW.alike hK, hD.weaken (fun _ _ _ _ => trivial)⟩⟩ rfl hn (hl.1.trans hml) rfl (lv_room hcat) hdg hcn) hS (fun q _ h => hFc q h) hFc (fun r u t H1 locs ht hvm hp hB hz1 hk1 hS => k r u hp H1 locs ls (by rw [← ht]; exact hB.1) (hB.2.2.weaken (fun _ _ _ h => hFc _ h)) hS hl)
theorem V_calliS {S : Type} (C : vC X cc nL Ts own cl0 D0 tys l0 R0) {y : MethodName} {wsY ws' : List Cond} {rm : Room} {As rest : List Value} {w : S → va_W} {post : Int32 → S → Prop} {index maxL : Nat} {bytes : ByteArray} {ret : Option FieldType} (hdg : decode cc pc = .ok (.invokestatic index, 3)) (hM : vMi l0 D0 cl0 tys y wsY rm As w0 w post) (hG : GoodIn Ts (va_wsS own index y wsY)) (hw : wsY = Cond.code y bytes maxL ret :: ws') (n9 : Nat) (hn : As.length = n9) (hd : y.cls ≠ "java/lang/invoke/MethodHandle" ∧ y.cls ≠ "java/lang/invoke/VarHandle" ∧ (parseMethodDescriptor y.desc).map (fun d => d.parameters.length) = some n9) (hR : rm.frames + 1 ≤ R0.frames ∧ 8 + (maxL + 11) + rm.locals ≤ R0.locals) (hcn : kc + rm.cells ≤ R0.cells ∧ kn + rm.slots ≤ R0.slots) (hst : st = As.reverse ++ rest) (hcat : (rest.map fun v => v.category).sum ≤ 8) (k : ∀ (r : Int32) (u : S), post r u → V X (kc + rm.cells) (kn + rm.slots) (w u) (pc + 3) lv (.int r :: rest)) : V X kc kn w0 pc lv st := by
  obtain ⟨p, l, e, R, s, m, args, below, meth, c, Q, D, cl, A⟩ := X
  obtain ⟨hx, hb, hml, hown, hts, hK, hA, rfl, rfl, rfl, rfl, hlk⟩ := C
  intro H locs ls hP hD hS hl
  subst hst
  have hFc := vFree (D := D) (cl := cl) hD hS hA
  exact va_calli (va_runS (As := As) (rest := rest) ⟨hx, hb, hml, hown, hts⟩ (hM H.size) (va_cwS n9 hts hG hw rfl rfl hd hR) ⟨vPre_blind, fun U hU hW => ⟨rfl, by rw [hU], by rw [hU]; exact hP, va_K.moved hW.alike hK, hD.weaken (fun _ _ _ _ => trivial)⟩⟩ rfl hn (hl.1.trans hml) rfl (lv_room hcat) hdg hcn) hS (fun q _ h => hFc q h) hFc (fun r u t H1 locs ht hvm hp hB hz1 hk1 hS => k r u hp H1 locs ls (by rw [← ht]; exact hB.1) (hB.2.2.weaken (fun _ _ _ h => hFc _ h)) hS hl)
theorem V_calllV {S : Type} (C : vC X cc nL Ts own cl0 D0 tys l0 R0) {y : MethodName} {wsY ws' : List Cond} {rm : Room} {As rest : List Value} {w : S → va_W} {post : Int64 → S → Prop} {C9 : String} {index maxL : Nat} {bytes : ByteArray} {ret : Option FieldType} (hdg : decode cc pc = .ok (.invokevirtual index, 3)) (q0 : Nat) {b ci : Nat} {fs : List Value} {T : u_T} {N : Nat} (he : w0[q0]? = some (b, .inr (ci, fs))) (hc : cl0[ci]? = some (C9, T, N)) (hM : vMl l0 D0 cl0 tys y wsY rm (.ref b :: As) w0 w post) (hG : GoodIn Ts (wsV own index C9 y wsY)) (hw : wsY = Cond.code y bytes maxL ret :: ws') (n9 : Nat) (hn : As.length = n9) (hd : y.cls = C9 ∧ y.cls ≠ "java/lang/invoke/MethodHandle" ∧ y.cls ≠ "java/lang/invoke/VarHandle" ∧ (parseMethodDescriptor y.desc).map (fun d => d.parameters.length) = some n9) (hR : rm.frames + 1 ≤ R0.frames ∧ 8 + (maxL + 11) + rm.locals ≤ R0.locals) (hcn : kc + rm.cells ≤ R0.cells ∧ kn + rm.slots ≤ R0.slots) (hst : st = As.reverse ++ .ref b :: rest) (hcat : (rest.map fun v => v.category).sum ≤ 8) (k : ∀ (r : Int64) (u : S), post r u → V X (kc + rm.cells) (kn + rm.slots) (w u) (pc + 3) lv (.long r :: rest)) : V X kc kn w0 pc lv st := by
  obtain ⟨p, l, e, R, s, m, args, below, meth, c, Q, D, cl, A⟩ := X
  obtain ⟨hx, hb, hml, hown, hts, hK, hA, rfl, rfl, rfl, rfl, hlk⟩ := C
  intro H locs ls hP hD hS hl
  subst hst
  have hFc := vFree (D := D) (cl := cl) hD hS hA
  exact va_calll (va_runV (As := As) (rest := rest) ⟨hx, hb, hml, hown, hts⟩ (hM H.size) (cwV n9 hts hG hw rfl rfl hd hR) ⟨vPre_blind, va_recv hK hP (q := (C9, T, N)) hc he, fun U hU hW => ⟨rfl, by rw [hU], by rw [hU]; exact hP, va_K.moved hW.alike hK, hD.weaken (fun _ _ _ _ => trivial)⟩⟩ rfl hn (hl.1.trans hml) rfl (lv_room hcat) hdg hcn) hS (fun q _ h => hFc q h) hFc (fun r u t H1 locs ht hvm hp hB hz1 hk1 hS => k r u hp H1 locs ls (by rw [← ht]; exact hB.1) (hB.2.2.weaken (fun _ _ _ h => hFc _ h)) hS hl)
theorem V_calllS {S : Type} (C : vC X cc nL Ts own cl0 D0 tys l0 R0) {y : MethodName} {wsY ws' : List Cond} {rm : Room} {As rest : List Value} {w : S → va_W} {post : Int64 → S → Prop} {index maxL : Nat} {bytes : ByteArray} {ret : Option FieldType} (hdg : decode cc pc = .ok (.invokestatic index, 3)) (hM : vMl l0 D0 cl0 tys y wsY rm As w0 w post) (hG : GoodIn Ts (va_wsS own index y wsY)) (hw : wsY = Cond.code y bytes maxL ret :: ws') (n9 : Nat) (hn : As.length = n9) (hd : y.cls ≠ "java/lang/invoke/MethodHandle" ∧ y.cls ≠ "java/lang/invoke/VarHandle" ∧ (parseMethodDescriptor y.desc).map (fun d => d.parameters.length) = some n9) (hR : rm.frames + 1 ≤ R0.frames ∧ 8 + (maxL + 11) + rm.locals ≤ R0.locals) (hcn : kc + rm.cells ≤ R0.cells ∧ kn + rm.slots ≤ R0.slots) (hst : st = As.reverse ++ rest) (hcat : (rest.map fun v => v.category).sum ≤ 8) (k : ∀ (r : Int64) (u : S), post r u → V X (kc + rm.cells) (kn + rm.slots) (w u) (pc + 3) lv (.long r :: rest)) : V X kc kn w0 pc lv st := by
  obtain ⟨p, l, e, R, s, m, args, below, meth, c, Q, D, cl, A⟩ := X
  obtain ⟨hx, hb, hml, hown, hts, hK, hA, rfl, rfl, rfl, rfl, hlk⟩ := C
  intro H locs ls hP hD hS hl
  subst hst
  have hFc := vFree (D := D) (cl := cl) hD hS hA
  exact va_calll (va_runS (As := As) (rest := rest) ⟨hx, hb, hml, hown, hts⟩ (hM H.size) (va_cwS n9 hts hG hw rfl rfl hd hR) ⟨vPre_blind, fun U hU hW => ⟨rfl, by rw [hU], by rw [hU]; exact hP, va_K.moved hW.alike hK, hD.weaken (fun _ _ _ _ => trivial)⟩⟩ rfl hn (hl.1.trans hml) rfl (lv_room hcat) hdg hcn) hS (fun q _ h => hFc q h) hFc (fun r u t H1 locs ht hvm hp hB hz1 hk1 hS => k r u hp H1 locs ls (by rw [← ht]; exact hB.1) (hB.2.2.weaken (fun _ _ _ h => hFc _ h)) hS hl)
theorem V_callvV {S : Type} (C : vC X cc nL Ts own cl0 D0 tys l0 R0) {y : MethodName} {wsY ws' : List Cond} {rm : Room} {As rest : List Value} {w : S → va_W} {post : S → Prop} {C9 : String} {index maxL : Nat} {bytes : ByteArray} {ret : Option FieldType} (hdg : decode cc pc = .ok (.invokevirtual index, 3)) (q0 : Nat) {b ci : Nat} {fs : List Value} {T : u_T} {N : Nat} (he : w0[q0]? = some (b, .inr (ci, fs))) (hc : cl0[ci]? = some (C9, T, N)) (hM : vMv l0 D0 cl0 tys y wsY rm (.ref b :: As) w0 w post) (hG : GoodIn Ts (wsV own index C9 y wsY)) (hw : wsY = Cond.code y bytes maxL ret :: ws') (n9 : Nat) (hn : As.length = n9) (hd : y.cls = C9 ∧ y.cls ≠ "java/lang/invoke/MethodHandle" ∧ y.cls ≠ "java/lang/invoke/VarHandle" ∧ (parseMethodDescriptor y.desc).map (fun d => d.parameters.length) = some n9) (hR : rm.frames + 1 ≤ R0.frames ∧ 8 + (maxL + 11) + rm.locals ≤ R0.locals) (hcn : kc + rm.cells ≤ R0.cells ∧ kn + rm.slots ≤ R0.slots) (hst : st = As.reverse ++ .ref b :: rest) (hcat : (rest.map fun v => v.category).sum ≤ 8) (k : ∀ u : S, post u → V X (kc + rm.cells) (kn + rm.slots) (w u) (pc + 3) lv rest) : V X kc kn w0 pc lv st := by
  obtain ⟨p, l, e, R, s, m, args, below, meth, c, Q, D, cl, A⟩ := X
  obtain ⟨hx, hb, hml, hown, hts, hK, hA, rfl, rfl, rfl, rfl, hlk⟩ := C
  intro H locs ls hP hD hS hl
  subst hst
  have hFc := vFree (D := D) (cl := cl) hD hS hA
  exact va_callv (va_runV (As := As) (rest := rest) ⟨hx, hb, hml, hown, hts⟩ (hM H.size) (cwV n9 hts hG hw rfl rfl hd hR) ⟨vPre_blind, va_recv hK hP (q := (C9, T, N)) hc he, fun U hU hW => ⟨rfl, by rw [hU], by rw [hU]; exact hP, va_K.moved hW.alike hK, hD.weaken (fun _ _ _ _ => trivial)⟩⟩ rfl hn (hl.1.trans hml) rfl (lv_room hcat) hdg hcn) hS (fun q _ h => hFc q h) hFc (fun u t H1 locs ht hvm hp hB hz1 hk1 hS => k u hp H1 locs ls (by rw [← ht]; exact hB.1) (hB.2.2.weaken (fun _ _ _ h => hFc _ h)) hS hl)
theorem V_callvS {S : Type} (C : vC X cc nL Ts own cl0 D0 tys l0 R0) {y : MethodName} {wsY ws' : List Cond} {rm : Room} {As rest : List Value} {w : S → va_W} {post : S → Prop} {index maxL : Nat} {bytes : ByteArray} {ret : Option FieldType} (hdg : decode cc pc = .ok (.invokestatic index, 3)) (hM : vMv l0 D0 cl0 tys y wsY rm As w0 w post) (hG : GoodIn Ts (va_wsS own index y wsY)) (hw : wsY = Cond.code y bytes maxL ret :: ws') (n9 : Nat) (hn : As.length = n9) (hd : y.cls ≠ "java/lang/invoke/MethodHandle" ∧ y.cls ≠ "java/lang/invoke/VarHandle" ∧ (parseMethodDescriptor y.desc).map (fun d => d.parameters.length) = some n9) (hR : rm.frames + 1 ≤ R0.frames ∧ 8 + (maxL + 11) + rm.locals ≤ R0.locals) (hcn : kc + rm.cells ≤ R0.cells ∧ kn + rm.slots ≤ R0.slots) (hst : st = As.reverse ++ rest) (hcat : (rest.map fun v => v.category).sum ≤ 8) (k : ∀ u : S, post u → V X (kc + rm.cells) (kn + rm.slots) (w u) (pc + 3) lv rest) : V X kc kn w0 pc lv st := by
  obtain ⟨p, l, e, R, s, m, args, below, meth, c, Q, D, cl, A⟩ := X
  obtain ⟨hx, hb, hml, hown, hts, hK, hA, rfl, rfl, rfl, rfl, hlk⟩ := C
  intro H locs ls hP hD hS hl
  subst hst
  have hFc := vFree (D := D) (cl := cl) hD hS hA
  exact va_callv (va_runS (As := As) (rest := rest) ⟨hx, hb, hml, hown, hts⟩ (hM H.size) (va_cwS n9 hts hG hw rfl rfl hd hR) ⟨vPre_blind, fun U hU hW => ⟨rfl, by rw [hU], by rw [hU]; exact hP, va_K.moved hW.alike hK, hD.weaken (fun _ _ _ _ => trivial)⟩⟩ rfl hn (hl.1.trans hml) rfl (lv_room hcat) hdg hcn) hS (fun q _ h => hFc q h) hFc (fun u t H1 locs ht hvm hp hB hz1 hk1 hS => k u hp H1 locs ls (by rw [← ht]; exact hB.1) (hB.2.2.weaken (fun _ _ _ h => hFc _ h)) hS hl)
end VK
