/-! An environment G A U H: facts of the tables, and of cells outside A; it moves with the machine. -/
abbrev gE : Type := (Nat → Prop) → State → Heap → Prop
def gOk (G : gE) : Prop := (∀ (A : Nat → Prop) (u U : State) (H : Heap), u.WarmedH U.vm → G A u H → G A U H) ∧ (∀ (A : Nat → Prop) (U : State) (g : JFrame) (mk : MethodId) (a : Array Value) (H : Heap), G A U H → G A (U.calling g mk a) H) ∧ (∀ (A : Nat → Prop) (U : State) (H H1 : Heap), (∀ q : Nat, q < H.size → ¬ A q → H1[q]? = H[q]?) → G A U H → G A U H1) ∧ (∀ (A B : Nat → Prop) (U : State) (H : Heap), (∀ q, B q → A q) → G A U H → G B U H)
def vG (X : vCtx) (G : gE) : Prop := match X with
  | (_, _, _, _, s, _, _, _, _, _, _, _, _, A) => G A s s.heap
theorem gPre_blind {G : gE} (go : gOk G) {D : va_G} {cl : List vw_C} {tys : List (ClassId × FieldType)} {ws : va_W} {sz : Nat} {av : List Value} : FrameBlind (va_Pc av (fun U => vPre D cl tys ws sz U ∧ G (va_A ws sz) U U.heap)) := fun a U g mk q => by
  obtain ⟨q0, ⟨q1, qP, qK, qD⟩, qG⟩ := q
  exact ⟨q0, ⟨q1, qP, va_K.moved (u := U) (U := U.calling g mk a) (Vm.Alike.refl U.vm) qK, qD⟩, go.2.1 _ U g mk a _ qG⟩
section GE
def gMi {S : Type} (l : Launch) (D : va_G) (cl : List vw_C) (tys : List (ClassId × FieldType)) (G : gE) (y : MethodName) (wsY : List Cond) (rm : Room) (av : List Value) (w0 : va_W) (w : S → va_W) (post : Int32 → S → Prop) : Prop := ∀ sz : Nat, Met l y wsY rm (va_Pc av (fun U => vPre D cl tys w0 sz U ∧ G (va_A w0 sz) U U.heap)) (va_Qi post (vPost D cl tys w (va_A w0 sz)) (va_A w0 sz)) rm.cells rm.slots (va_A w0 sz)
theorem gMi_of {S : Type} {rt : FieldType} {l : Launch} {D : va_G} {cl : List vw_C} {tys : List (ClassId × FieldType)} {G : gE} {y : MethodName} {wsY ws' : List Cond} {rm : Room} {av : List Value} {w0 : va_W} {w : S → va_W} {post : Int32 → S → Prop} {cc : ByteArray} {nL : Nat} (hy : plainName y.cls = true) (hw : wsY = Cond.code y cc nL (some rt) :: ws') (hav : (lg_sl av).length ≤ nL)
    (body : ∀ X : vCtx, vC X cc nL wsY y.cls cl D tys l rm → vG X G → (∀ (r : Int32) (u : S) (pc : Nat) (lv : List (Nat × Value)), decode cc pc = .ok (.ireturn, 1) → narrow rt (.int r) = .int r → post r u → V X rm.cells rm.slots (w u) pc lv [.int r]) → V X 0 0 w0 0 (lv_args 0 av) []) : gMi l D cl tys G y wsY rm av w0 w post := by
  intro sz
  refine Met.ofW (cc := cc) (maxL := nL) (ret := (some rt)) hy hw ?_
  intro p e s m args below meth c s₁ B hml hv
  obtain ⟨rfl, ⟨hsz, hP, hK, hD0⟩, hG⟩ := hv
  subst hsz
  have hx := B.exec
  have hb := B.bytes
  have hr := B.returns
  have hts := atoms_spec (ws := wsY) B.pre
  have hown : s.vm.findClass y.cls = some m.cls := findClass_of_methodNamed B.named
  have hlk := B.notSynchronized
  have hD := hD0.self (sz := s.heap.size)
  have hl := lv_entry av (n := nL) hav
  rw [lg_entry_eq]
  refine body (p, l, e, rm, s, m, av.toArray, below, meth, c, _, D, cl, va_A w0 s.heap.size) ⟨hx, hb, hml, hown, hts, hK, fun q h => Or.inr h, rfl, rfl, rfl, rfl, hlk⟩ hG ?_ s.heap [] _ hP hD va_S.rf (by rw [hml]; exact hl)
  intro r u pc lv hdg hn hp H locs ls hP hD hS hl
  exact W.zret hx hb hr hn (fun t ht hW => ⟨⟨r, u, rfl, hp, by rw [ht]; exact hP, va_K.moved hW.alike hK, hD⟩, hS.F ht⟩) hS.2.2 hdg
def gMl {S : Type} (l : Launch) (D : va_G) (cl : List vw_C) (tys : List (ClassId × FieldType)) (G : gE) (y : MethodName) (wsY : List Cond) (rm : Room) (av : List Value) (w0 : va_W) (w : S → va_W) (post : Int64 → S → Prop) : Prop := ∀ sz : Nat, Met l y wsY rm (va_Pc av (fun U => vPre D cl tys w0 sz U ∧ G (va_A w0 sz) U U.heap)) (va_Ql post (vPost D cl tys w (va_A w0 sz)) (va_A w0 sz)) rm.cells rm.slots (va_A w0 sz)
theorem gMl_of {S : Type} {l : Launch} {D : va_G} {cl : List vw_C} {tys : List (ClassId × FieldType)} {G : gE} {y : MethodName} {wsY ws' : List Cond} {rm : Room} {av : List Value} {w0 : va_W} {w : S → va_W} {post : Int64 → S → Prop} {cc : ByteArray} {nL : Nat} (hy : plainName y.cls = true) (hw : wsY = Cond.code y cc nL (some .long) :: ws') (hav : (lg_sl av).length ≤ nL)
    (body : ∀ X : vCtx, vC X cc nL wsY y.cls cl D tys l rm → vG X G → (∀ (r : Int64) (u : S) (pc : Nat) (lv : List (Nat × Value)), decode cc pc = .ok (.lreturn, 1) → post r u → V X rm.cells rm.slots (w u) pc lv [.long r]) → V X 0 0 w0 0 (lv_args 0 av) []) : gMl l D cl tys G y wsY rm av w0 w post := by
  intro sz
  refine Met.ofW (cc := cc) (maxL := nL) (ret := (some .long)) hy hw ?_
  intro p e s m args below meth c s₁ B hml hv
  obtain ⟨rfl, ⟨hsz, hP, hK, hD0⟩, hG⟩ := hv
  subst hsz
  have hx := B.exec
  have hb := B.bytes
  have hr := B.returns
  have hts := atoms_spec (ws := wsY) B.pre
  have hown : s.vm.findClass y.cls = some m.cls := findClass_of_methodNamed B.named
  have hlk := B.notSynchronized
  have hD := hD0.self (sz := s.heap.size)
  have hl := lv_entry av (n := nL) hav
  rw [lg_entry_eq]
  refine body (p, l, e, rm, s, m, av.toArray, below, meth, c, _, D, cl, va_A w0 s.heap.size) ⟨hx, hb, hml, hown, hts, hK, fun q h => Or.inr h, rfl, rfl, rfl, rfl, hlk⟩ hG ?_ s.heap [] _ hP hD va_S.rf (by rw [hml]; exact hl)
  intro r u pc lv hdg hp H locs ls hP hD hS hl
  exact W.lret hx hb hr (fun t ht hW => ⟨⟨r, u, rfl, hp, by rw [ht]; exact hP, va_K.moved hW.alike hK, hD⟩, hS.F ht⟩) hS.2.2 hdg
def gMv {S : Type} (l : Launch) (D : va_G) (cl : List vw_C) (tys : List (ClassId × FieldType)) (G : gE) (y : MethodName) (wsY : List Cond) (rm : Room) (av : List Value) (w0 : va_W) (w : S → va_W) (post : S → Prop) : Prop := ∀ sz : Nat, Met l y wsY rm (va_Pc av (fun U => vPre D cl tys w0 sz U ∧ G (va_A w0 sz) U U.heap)) (va_Qv post (vPost D cl tys w (va_A w0 sz)) (va_A w0 sz)) rm.cells rm.slots (va_A w0 sz)
theorem gMv_of {S : Type} {l : Launch} {D : va_G} {cl : List vw_C} {tys : List (ClassId × FieldType)} {G : gE} {y : MethodName} {wsY ws' : List Cond} {rm : Room} {av : List Value} {w0 : va_W} {w : S → va_W} {post : S → Prop} {cc : ByteArray} {nL : Nat} (hy : plainName y.cls = true) (hw : wsY = Cond.code y cc nL none :: ws') (hav : (lg_sl av).length ≤ nL)
    (body : ∀ X : vCtx, vC X cc nL wsY y.cls cl D tys l rm → vG X G → (∀ (u : S) (pc : Nat) (lv : List (Nat × Value)), decode cc pc = .ok (.return_, 1) → post u → V X rm.cells rm.slots (w u) pc lv []) → V X 0 0 w0 0 (lv_args 0 av) []) : gMv l D cl tys G y wsY rm av w0 w post := by
  intro sz
  refine Met.ofW (cc := cc) (maxL := nL) (ret := none) hy hw ?_
  intro p e s m args below meth c s₁ B hml hv
  obtain ⟨rfl, ⟨hsz, hP, hK, hD0⟩, hG⟩ := hv
  subst hsz
  have hx := B.exec
  have hb := B.bytes
  have hr := B.returns
  have hts := atoms_spec (ws := wsY) B.pre
  have hown : s.vm.findClass y.cls = some m.cls := findClass_of_methodNamed B.named
  have hlk := B.notSynchronized
  have hD := hD0.self (sz := s.heap.size)
  have hl := lv_entry av (n := nL) hav
  rw [lg_entry_eq]
  refine body (p, l, e, rm, s, m, av.toArray, below, meth, c, _, D, cl, va_A w0 s.heap.size) ⟨hx, hb, hml, hown, hts, hK, fun q h => Or.inr h, rfl, rfl, rfl, rfl, hlk⟩ hG ?_ s.heap [] _ hP hD va_S.rf (by rw [hml]; exact hl)
  intro u pc lv hdg hp H locs ls hP hD hS hl
  exact W.vret hx hb hr (fun t ht hW => ⟨⟨u, rfl, hp, by rw [ht]; exact hP, va_K.moved hW.alike hK, hD⟩, hS.F ht⟩) hS.2.2 hdg
def gMq {S : Type} (l : Launch) (D : va_G) (cl : List vw_C) (tys : List (ClassId × FieldType)) (G : gE) (y : MethodName) (wsY : List Cond) (rm : Room) (av : List Value) (w0 : va_W) (w : S → va_W) (post : (Option Nat) → S → Prop) : Prop := ∀ sz : Nat, Met l y wsY rm (va_Pc av (fun U => vPre D cl tys w0 sz U ∧ G (va_A w0 sz) U U.heap)) (va_Qq post (vPost D cl tys w (va_A w0 sz)) (va_A w0 sz)) rm.cells rm.slots (va_A w0 sz)
theorem gMq_of {S : Type} {rt : FieldType} {l : Launch} {D : va_G} {cl : List vw_C} {tys : List (ClassId × FieldType)} {G : gE} {y : MethodName} {wsY ws' : List Cond} {rm : Room} {av : List Value} {w0 : va_W} {w : S → va_W} {post : (Option Nat) → S → Prop} {cc : ByteArray} {nL : Nat} (hy : plainName y.cls = true) (hw : wsY = Cond.code y cc nL (some rt) :: ws') (hav : (lg_sl av).length ≤ nL)
    (body : ∀ X : vCtx, vC X cc nL wsY y.cls cl D tys l rm → vG X G → (∀ (r : Option Nat) (u : S) (pc : Nat) (lv : List (Nat × Value)), decode cc pc = .ok (.areturn, 1) → ((∃ n, rt = .object n) ∨ ∃ t, rt = .array t) → post r u → V X rm.cells rm.slots (w u) pc lv [va_rf r]) → V X 0 0 w0 0 (lv_args 0 av) []) : gMq l D cl tys G y wsY rm av w0 w post := by
  intro sz
  refine Met.ofW (cc := cc) (maxL := nL) (ret := (some rt)) hy hw ?_
  intro p e s m args below meth c s₁ B hml hv
  obtain ⟨rfl, ⟨hsz, hP, hK, hD0⟩, hG⟩ := hv
  subst hsz
  have hx := B.exec
  have hb := B.bytes
  have hr := B.returns
  have hts := atoms_spec (ws := wsY) B.pre
  have hown : s.vm.findClass y.cls = some m.cls := findClass_of_methodNamed B.named
  have hlk := B.notSynchronized
  have hD := hD0.self (sz := s.heap.size)
  have hl := lv_entry av (n := nL) hav
  rw [lg_entry_eq]
  refine body (p, l, e, rm, s, m, av.toArray, below, meth, c, _, D, cl, va_A w0 s.heap.size) ⟨hx, hb, hml, hown, hts, hK, fun q h => Or.inr h, rfl, rfl, rfl, rfl, hlk⟩ hG ?_ s.heap [] _ hP hD va_S.rf (by rw [hml]; exact hl)
  intro r u pc lv hdg hn hp H locs ls hP hD hS hl
  exact W.aret hx hb hr hn (va_rf_or r) (fun t ht hW => ⟨⟨r, u, rfl, hp, by rw [ht]; exact hP, va_K.moved hW.alike hK, hD⟩, hS.F ht⟩) hS.2.2 hdg
end GE
section GK
variable {X : vCtx} {kc kn : Nat} {w0 : va_W} {pc : Nat} {lv : List (Nat × Value)} {st : List Value} {cc : ByteArray} {nL : Nat} {Ts : List Cond} {own : String} {cl0 : List vw_C} {D0 : va_G} {tys : List (ClassId × FieldType)} {l0 : Launch} {R0 : Room} {G : gE}
theorem V_gcalliV {S : Type} (C : vC X cc nL Ts own cl0 D0 tys l0 R0) (go : gOk G) (hg : vG X G) {y : MethodName} {wsY ws' : List Cond} {rm : Room} {As rest : List Value} {w : S → va_W} {post : Int32 → S → Prop} {C9 : String} {index maxL : Nat} {bytes : ByteArray} {ret : Option FieldType} (hdg : decode cc pc = .ok (.invokevirtual index, 3)) (q0 : Nat) {b ci : Nat} {fs : List Value} {T : u_T} {N : Nat} (he : w0[q0]? = some (b, .inr (ci, fs))) (hc : cl0[ci]? = some (C9, T, N)) (hM : gMi l0 D0 cl0 tys G y wsY rm (.ref b :: As) w0 w post) (hG : GoodIn Ts (wsV own index C9 y wsY)) (hw : wsY = Cond.code y bytes maxL ret :: ws') (n9 : Nat) (hn : As.length = n9) (hd : y.cls = C9 ∧ y.cls ≠ "java/lang/invoke/MethodHandle" ∧ y.cls ≠ "java/lang/invoke/VarHandle" ∧ (parseMethodDescriptor y.desc).map (fun d => d.parameters.length) = some n9) (hR : rm.frames + 1 ≤ R0.frames ∧ 8 + (maxL + 11) + rm.locals ≤ R0.locals) (hcn : kc + rm.cells ≤ R0.cells ∧ kn + rm.slots ≤ R0.slots) (hst : st = As.reverse ++ .ref b :: rest) (hcat : (rest.map fun v => v.category).sum ≤ 8) (k : ∀ (r : Int32) (u : S), post r u → V X (kc + rm.cells) (kn + rm.slots) (w u) (pc + 3) lv (.int r :: rest)) : V X kc kn w0 pc lv st := by
  obtain ⟨p, l, e, R, s, m, args, below, meth, c, Q, D, cl, A⟩ := X
  obtain ⟨hx, hb, hml, hown, hts, hK, hA, rfl, rfl, rfl, rfl, hlk⟩ := C
  intro H locs ls hP hD hS hl
  subst hst
  have hFc := vFree (D := D) (cl := cl) hD hS hA
  exact va_calli (va_runV (As := As) (rest := rest) ⟨hx, hb, hml, hown, hts⟩ (hM H.size) (cwV n9 hts hG hw rfl rfl hd hR) ⟨gPre_blind go, va_recv hK hP (q := (C9, T, N)) hc he, fun U hU hW => ⟨rfl, ⟨by rw [hU], by rw [hU]; exact hP, va_K.moved hW.alike hK, hD.weaken (fun _ _ _ _ => trivial)⟩, by rw [hU]; exact go.2.2.2 _ _ _ _ hFc (go.1 _ _ _ _ hW (go.2.2.1 _ _ _ _ hS.2.1 hg))⟩⟩ rfl hn (hl.1.trans hml) rfl (lv_room hcat) hdg hcn) hS (fun q _ h => hFc q h) hFc (fun r u t H1 locs ht hvm hp hB hz1 hk1 hS => k r u hp H1 locs ls (by rw [← ht]; exact hB.1) (hB.2.2.weaken (fun _ _ _ h => hFc _ h)) hS hl)
theorem V_gcalliS {S : Type} (C : vC X cc nL Ts own cl0 D0 tys l0 R0) (go : gOk G) (hg : vG X G) {y : MethodName} {wsY ws' : List Cond} {rm : Room} {As rest : List Value} {w : S → va_W} {post : Int32 → S → Prop} {index maxL : Nat} {bytes : ByteArray} {ret : Option FieldType} (hdg : decode cc pc = .ok (.invokestatic index, 3)) (hM : gMi l0 D0 cl0 tys G y wsY rm As w0 w post) (hG : GoodIn Ts (va_wsS own index y wsY)) (hw : wsY = Cond.code y bytes maxL ret :: ws') (n9 : Nat) (hn : As.length = n9) (hd : y.cls ≠ "java/lang/invoke/MethodHandle" ∧ y.cls ≠ "java/lang/invoke/VarHandle" ∧ (parseMethodDescriptor y.desc).map (fun d => d.parameters.length) = some n9) (hR : rm.frames + 1 ≤ R0.frames ∧ 8 + (maxL + 11) + rm.locals ≤ R0.locals) (hcn : kc + rm.cells ≤ R0.cells ∧ kn + rm.slots ≤ R0.slots) (hst : st = As.reverse ++ rest) (hcat : (rest.map fun v => v.category).sum ≤ 8) (k : ∀ (r : Int32) (u : S), post r u → V X (kc + rm.cells) (kn + rm.slots) (w u) (pc + 3) lv (.int r :: rest)) : V X kc kn w0 pc lv st := by
  obtain ⟨p, l, e, R, s, m, args, below, meth, c, Q, D, cl, A⟩ := X
  obtain ⟨hx, hb, hml, hown, hts, hK, hA, rfl, rfl, rfl, rfl, hlk⟩ := C
  intro H locs ls hP hD hS hl
  subst hst
  have hFc := vFree (D := D) (cl := cl) hD hS hA
  exact va_calli (va_runS (As := As) (rest := rest) ⟨hx, hb, hml, hown, hts⟩ (hM H.size) (va_cwS n9 hts hG hw rfl rfl hd hR) ⟨gPre_blind go, fun U hU hW => ⟨rfl, ⟨by rw [hU], by rw [hU]; exact hP, va_K.moved hW.alike hK, hD.weaken (fun _ _ _ _ => trivial)⟩, by rw [hU]; exact go.2.2.2 _ _ _ _ hFc (go.1 _ _ _ _ hW (go.2.2.1 _ _ _ _ hS.2.1 hg))⟩⟩ rfl hn (hl.1.trans hml) rfl (lv_room hcat) hdg hcn) hS (fun q _ h => hFc q h) hFc (fun r u t H1 locs ht hvm hp hB hz1 hk1 hS => k r u hp H1 locs ls (by rw [← ht]; exact hB.1) (hB.2.2.weaken (fun _ _ _ h => hFc _ h)) hS hl)
theorem V_gcalllV {S : Type} (C : vC X cc nL Ts own cl0 D0 tys l0 R0) (go : gOk G) (hg : vG X G) {y : MethodName} {wsY ws' : List Cond} {rm : Room} {As rest : List Value} {w : S → va_W} {post : Int64 → S → Prop} {C9 : String} {index maxL : Nat} {bytes : ByteArray} {ret : Option FieldType} (hdg : decode cc pc = .ok (.invokevirtual index, 3)) (q0 : Nat) {b ci : Nat} {fs : List Value} {T : u_T} {N : Nat} (he : w0[q0]? = some (b, .inr (ci, fs))) (hc : cl0[ci]? = some (C9, T, N)) (hM : gMl l0 D0 cl0 tys G y wsY rm (.ref b :: As) w0 w post) (hG : GoodIn Ts (wsV own index C9 y wsY)) (hw : wsY = Cond.code y bytes maxL ret :: ws') (n9 : Nat) (hn : As.length = n9) (hd : y.cls = C9 ∧ y.cls ≠ "java/lang/invoke/MethodHandle" ∧ y.cls ≠ "java/lang/invoke/VarHandle" ∧ (parseMethodDescriptor y.desc).map (fun d => d.parameters.length) = some n9) (hR : rm.frames + 1 ≤ R0.frames ∧ 8 + (maxL + 11) + rm.locals ≤ R0.locals) (hcn : kc + rm.cells ≤ R0.cells ∧ kn + rm.slots ≤ R0.slots) (hst : st = As.reverse ++ .ref b :: rest) (hcat : (rest.map fun v => v.category).sum ≤ 8) (k : ∀ (r : Int64) (u : S), post r u → V X (kc + rm.cells) (kn + rm.slots) (w u) (pc + 3) lv (.long r :: rest)) : V X kc kn w0 pc lv st := by
  obtain ⟨p, l, e, R, s, m, args, below, meth, c, Q, D, cl, A⟩ := X
  obtain ⟨hx, hb, hml, hown, hts, hK, hA, rfl, rfl, rfl, rfl, hlk⟩ := C
  intro H locs ls hP hD hS hl
  subst hst
  have hFc := vFree (D := D) (cl := cl) hD hS hA
  exact va_calll (va_runV (As := As) (rest := rest) ⟨hx, hb, hml, hown, hts⟩ (hM H.size) (cwV n9 hts hG hw rfl rfl hd hR) ⟨gPre_blind go, va_recv hK hP (q := (C9, T, N)) hc he, fun U hU hW => ⟨rfl, ⟨by rw [hU], by rw [hU]; exact hP, va_K.moved hW.alike hK, hD.weaken (fun _ _ _ _ => trivial)⟩, by rw [hU]; exact go.2.2.2 _ _ _ _ hFc (go.1 _ _ _ _ hW (go.2.2.1 _ _ _ _ hS.2.1 hg))⟩⟩ rfl hn (hl.1.trans hml) rfl (lv_room hcat) hdg hcn) hS (fun q _ h => hFc q h) hFc (fun r u t H1 locs ht hvm hp hB hz1 hk1 hS => k r u hp H1 locs ls (by rw [← ht]; exact hB.1) (hB.2.2.weaken (fun _ _ _ h => hFc _ h)) hS hl)
theorem V_gcalllS {S : Type} (C : vC X cc nL Ts own cl0 D0 tys l0 R0) (go : gOk G) (hg : vG X G) {y : MethodName} {wsY ws' : List Cond} {rm : Room} {As rest : List Value} {w : S → va_W} {post : Int64 → S → Prop} {index maxL : Nat} {bytes : ByteArray} {ret : Option FieldType} (hdg : decode cc pc = .ok (.invokestatic index, 3)) (hM : gMl l0 D0 cl0 tys G y wsY rm As w0 w post) (hG : GoodIn Ts (va_wsS own index y wsY)) (hw : wsY = Cond.code y bytes maxL ret :: ws') (n9 : Nat) (hn : As.length = n9) (hd : y.cls ≠ "java/lang/invoke/MethodHandle" ∧ y.cls ≠ "java/lang/invoke/VarHandle" ∧ (parseMethodDescriptor y.desc).map (fun d => d.parameters.length) = some n9) (hR : rm.frames + 1 ≤ R0.frames ∧ 8 + (maxL + 11) + rm.locals ≤ R0.locals) (hcn : kc + rm.cells ≤ R0.cells ∧ kn + rm.slots ≤ R0.slots) (hst : st = As.reverse ++ rest) (hcat : (rest.map fun v => v.category).sum ≤ 8) (k : ∀ (r : Int64) (u : S), post r u → V X (kc + rm.cells) (kn + rm.slots) (w u) (pc + 3) lv (.long r :: rest)) : V X kc kn w0 pc lv st := by
  obtain ⟨p, l, e, R, s, m, args, below, meth, c, Q, D, cl, A⟩ := X
  obtain ⟨hx, hb, hml, hown, hts, hK, hA, rfl, rfl, rfl, rfl, hlk⟩ := C
  intro H locs ls hP hD hS hl
  subst hst
  have hFc := vFree (D := D) (cl := cl) hD hS hA
  exact va_calll (va_runS (As := As) (rest := rest) ⟨hx, hb, hml, hown, hts⟩ (hM H.size) (va_cwS n9 hts hG hw rfl rfl hd hR) ⟨gPre_blind go, fun U hU hW => ⟨rfl, ⟨by rw [hU], by rw [hU]; exact hP, va_K.moved hW.alike hK, hD.weaken (fun _ _ _ _ => trivial)⟩, by rw [hU]; exact go.2.2.2 _ _ _ _ hFc (go.1 _ _ _ _ hW (go.2.2.1 _ _ _ _ hS.2.1 hg))⟩⟩ rfl hn (hl.1.trans hml) rfl (lv_room hcat) hdg hcn) hS (fun q _ h => hFc q h) hFc (fun r u t H1 locs ht hvm hp hB hz1 hk1 hS => k r u hp H1 locs ls (by rw [← ht]; exact hB.1) (hB.2.2.weaken (fun _ _ _ h => hFc _ h)) hS hl)
theorem V_gcallvV {S : Type} (C : vC X cc nL Ts own cl0 D0 tys l0 R0) (go : gOk G) (hg : vG X G) {y : MethodName} {wsY ws' : List Cond} {rm : Room} {As rest : List Value} {w : S → va_W} {post : S → Prop} {C9 : String} {index maxL : Nat} {bytes : ByteArray} {ret : Option FieldType} (hdg : decode cc pc = .ok (.invokevirtual index, 3)) (q0 : Nat) {b ci : Nat} {fs : List Value} {T : u_T} {N : Nat} (he : w0[q0]? = some (b, .inr (ci, fs))) (hc : cl0[ci]? = some (C9, T, N)) (hM : gMv l0 D0 cl0 tys G y wsY rm (.ref b :: As) w0 w post) (hG : GoodIn Ts (wsV own index C9 y wsY)) (hw : wsY = Cond.code y bytes maxL ret :: ws') (n9 : Nat) (hn : As.length = n9) (hd : y.cls = C9 ∧ y.cls ≠ "java/lang/invoke/MethodHandle" ∧ y.cls ≠ "java/lang/invoke/VarHandle" ∧ (parseMethodDescriptor y.desc).map (fun d => d.parameters.length) = some n9) (hR : rm.frames + 1 ≤ R0.frames ∧ 8 + (maxL + 11) + rm.locals ≤ R0.locals) (hcn : kc + rm.cells ≤ R0.cells ∧ kn + rm.slots ≤ R0.slots) (hst : st = As.reverse ++ .ref b :: rest) (hcat : (rest.map fun v => v.category).sum ≤ 8) (k : ∀ u : S, post u → V X (kc + rm.cells) (kn + rm.slots) (w u) (pc + 3) lv rest) : V X kc kn w0 pc lv st := by
  obtain ⟨p, l, e, R, s, m, args, below, meth, c, Q, D, cl, A⟩ := X
  obtain ⟨hx, hb, hml, hown, hts, hK, hA, rfl, rfl, rfl, rfl, hlk⟩ := C
  intro H locs ls hP hD hS hl
  subst hst
  have hFc := vFree (D := D) (cl := cl) hD hS hA
  exact va_callv (va_runV (As := As) (rest := rest) ⟨hx, hb, hml, hown, hts⟩ (hM H.size) (cwV n9 hts hG hw rfl rfl hd hR) ⟨gPre_blind go, va_recv hK hP (q := (C9, T, N)) hc he, fun U hU hW => ⟨rfl, ⟨by rw [hU], by rw [hU]; exact hP, va_K.moved hW.alike hK, hD.weaken (fun _ _ _ _ => trivial)⟩, by rw [hU]; exact go.2.2.2 _ _ _ _ hFc (go.1 _ _ _ _ hW (go.2.2.1 _ _ _ _ hS.2.1 hg))⟩⟩ rfl hn (hl.1.trans hml) rfl (lv_room hcat) hdg hcn) hS (fun q _ h => hFc q h) hFc (fun u t H1 locs ht hvm hp hB hz1 hk1 hS => k u hp H1 locs ls (by rw [← ht]; exact hB.1) (hB.2.2.weaken (fun _ _ _ h => hFc _ h)) hS hl)
theorem V_gcallvS {S : Type} (C : vC X cc nL Ts own cl0 D0 tys l0 R0) (go : gOk G) (hg : vG X G) {y : MethodName} {wsY ws' : List Cond} {rm : Room} {As rest : List Value} {w : S → va_W} {post : S → Prop} {index maxL : Nat} {bytes : ByteArray} {ret : Option FieldType} (hdg : decode cc pc = .ok (.invokestatic index, 3)) (hM : gMv l0 D0 cl0 tys G y wsY rm As w0 w post) (hG : GoodIn Ts (va_wsS own index y wsY)) (hw : wsY = Cond.code y bytes maxL ret :: ws') (n9 : Nat) (hn : As.length = n9) (hd : y.cls ≠ "java/lang/invoke/MethodHandle" ∧ y.cls ≠ "java/lang/invoke/VarHandle" ∧ (parseMethodDescriptor y.desc).map (fun d => d.parameters.length) = some n9) (hR : rm.frames + 1 ≤ R0.frames ∧ 8 + (maxL + 11) + rm.locals ≤ R0.locals) (hcn : kc + rm.cells ≤ R0.cells ∧ kn + rm.slots ≤ R0.slots) (hst : st = As.reverse ++ rest) (hcat : (rest.map fun v => v.category).sum ≤ 8) (k : ∀ u : S, post u → V X (kc + rm.cells) (kn + rm.slots) (w u) (pc + 3) lv rest) : V X kc kn w0 pc lv st := by
  obtain ⟨p, l, e, R, s, m, args, below, meth, c, Q, D, cl, A⟩ := X
  obtain ⟨hx, hb, hml, hown, hts, hK, hA, rfl, rfl, rfl, rfl, hlk⟩ := C
  intro H locs ls hP hD hS hl
  subst hst
  have hFc := vFree (D := D) (cl := cl) hD hS hA
  exact va_callv (va_runS (As := As) (rest := rest) ⟨hx, hb, hml, hown, hts⟩ (hM H.size) (va_cwS n9 hts hG hw rfl rfl hd hR) ⟨gPre_blind go, fun U hU hW => ⟨rfl, ⟨by rw [hU], by rw [hU]; exact hP, va_K.moved hW.alike hK, hD.weaken (fun _ _ _ _ => trivial)⟩, by rw [hU]; exact go.2.2.2 _ _ _ _ hFc (go.1 _ _ _ _ hW (go.2.2.1 _ _ _ _ hS.2.1 hg))⟩⟩ rfl hn (hl.1.trans hml) rfl (lv_room hcat) hdg hcn) hS (fun q _ h => hFc q h) hFc (fun u t H1 locs ht hvm hp hB hz1 hk1 hS => k u hp H1 locs ls (by rw [← ht]; exact hB.1) (hB.2.2.weaken (fun _ _ _ h => hFc _ h)) hS hl)
theorem V_gcallqV {S : Type} (C : vC X cc nL Ts own cl0 D0 tys l0 R0) (go : gOk G) (hg : vG X G) {y : MethodName} {wsY ws' : List Cond} {rm : Room} {As rest : List Value} {w : S → va_W} {post : (Option Nat) → S → Prop} {C9 : String} {index maxL : Nat} {bytes : ByteArray} {ret : Option FieldType} (hdg : decode cc pc = .ok (.invokevirtual index, 3)) (q0 : Nat) {b ci : Nat} {fs : List Value} {T : u_T} {N : Nat} (he : w0[q0]? = some (b, .inr (ci, fs))) (hc : cl0[ci]? = some (C9, T, N)) (hM : gMq l0 D0 cl0 tys G y wsY rm (.ref b :: As) w0 w post) (hG : GoodIn Ts (wsV own index C9 y wsY)) (hw : wsY = Cond.code y bytes maxL ret :: ws') (n9 : Nat) (hn : As.length = n9) (hd : y.cls = C9 ∧ y.cls ≠ "java/lang/invoke/MethodHandle" ∧ y.cls ≠ "java/lang/invoke/VarHandle" ∧ (parseMethodDescriptor y.desc).map (fun d => d.parameters.length) = some n9) (hR : rm.frames + 1 ≤ R0.frames ∧ 8 + (maxL + 11) + rm.locals ≤ R0.locals) (hcn : kc + rm.cells ≤ R0.cells ∧ kn + rm.slots ≤ R0.slots) (hst : st = As.reverse ++ .ref b :: rest) (hcat : (rest.map fun v => v.category).sum ≤ 8) (k : ∀ (r : (Option Nat)) (u : S), post r u → V X (kc + rm.cells) (kn + rm.slots) (w u) (pc + 3) lv (va_rf r :: rest)) : V X kc kn w0 pc lv st := by
  obtain ⟨p, l, e, R, s, m, args, below, meth, c, Q, D, cl, A⟩ := X
  obtain ⟨hx, hb, hml, hown, hts, hK, hA, rfl, rfl, rfl, rfl, hlk⟩ := C
  intro H locs ls hP hD hS hl
  subst hst
  have hFc := vFree (D := D) (cl := cl) hD hS hA
  exact va_callq (va_runV (As := As) (rest := rest) ⟨hx, hb, hml, hown, hts⟩ (hM H.size) (cwV n9 hts hG hw rfl rfl hd hR) ⟨gPre_blind go, va_recv hK hP (q := (C9, T, N)) hc he, fun U hU hW => ⟨rfl, ⟨by rw [hU], by rw [hU]; exact hP, va_K.moved hW.alike hK, hD.weaken (fun _ _ _ _ => trivial)⟩, by rw [hU]; exact go.2.2.2 _ _ _ _ hFc (go.1 _ _ _ _ hW (go.2.2.1 _ _ _ _ hS.2.1 hg))⟩⟩ rfl hn (hl.1.trans hml) rfl (lv_room hcat) hdg hcn) hS (fun q _ h => hFc q h) hFc (fun r u t H1 locs ht hvm hp hB hz1 hk1 hS => k r u hp H1 locs ls (by rw [← ht]; exact hB.1) (hB.2.2.weaken (fun _ _ _ h => hFc _ h)) hS hl)
theorem V_gcallqS {S : Type} (C : vC X cc nL Ts own cl0 D0 tys l0 R0) (go : gOk G) (hg : vG X G) {y : MethodName} {wsY ws' : List Cond} {rm : Room} {As rest : List Value} {w : S → va_W} {post : (Option Nat) → S → Prop} {index maxL : Nat} {bytes : ByteArray} {ret : Option FieldType} (hdg : decode cc pc = .ok (.invokestatic index, 3)) (hM : gMq l0 D0 cl0 tys G y wsY rm As w0 w post) (hG : GoodIn Ts (va_wsS own index y wsY)) (hw : wsY = Cond.code y bytes maxL ret :: ws') (n9 : Nat) (hn : As.length = n9) (hd : y.cls ≠ "java/lang/invoke/MethodHandle" ∧ y.cls ≠ "java/lang/invoke/VarHandle" ∧ (parseMethodDescriptor y.desc).map (fun d => d.parameters.length) = some n9) (hR : rm.frames + 1 ≤ R0.frames ∧ 8 + (maxL + 11) + rm.locals ≤ R0.locals) (hcn : kc + rm.cells ≤ R0.cells ∧ kn + rm.slots ≤ R0.slots) (hst : st = As.reverse ++ rest) (hcat : (rest.map fun v => v.category).sum ≤ 8) (k : ∀ (r : (Option Nat)) (u : S), post r u → V X (kc + rm.cells) (kn + rm.slots) (w u) (pc + 3) lv (va_rf r :: rest)) : V X kc kn w0 pc lv st := by
  obtain ⟨p, l, e, R, s, m, args, below, meth, c, Q, D, cl, A⟩ := X
  obtain ⟨hx, hb, hml, hown, hts, hK, hA, rfl, rfl, rfl, rfl, hlk⟩ := C
  intro H locs ls hP hD hS hl
  subst hst
  have hFc := vFree (D := D) (cl := cl) hD hS hA
  exact va_callq (va_runS (As := As) (rest := rest) ⟨hx, hb, hml, hown, hts⟩ (hM H.size) (va_cwS n9 hts hG hw rfl rfl hd hR) ⟨gPre_blind go, fun U hU hW => ⟨rfl, ⟨by rw [hU], by rw [hU]; exact hP, va_K.moved hW.alike hK, hD.weaken (fun _ _ _ _ => trivial)⟩, by rw [hU]; exact go.2.2.2 _ _ _ _ hFc (go.1 _ _ _ _ hW (go.2.2.1 _ _ _ _ hS.2.1 hg))⟩⟩ rfl hn (hl.1.trans hml) rfl (lv_room hcat) hdg hcn) hS (fun q _ h => hFc q h) hFc (fun r u t H1 locs ht hvm hp hB hz1 hk1 hS => k r u hp H1 locs ls (by rw [← ht]; exact hB.1) (hB.2.2.weaken (fun _ _ _ h => hFc _ h)) hS hl)
/-- the words on nest mates -/
def nsts : List Cond := [.methodLinkNest "PredicateMachine" 9 ⟨"PredicateMachine$Inspection", "<init>", "()V"⟩ "PredicateMachine", .fieldLinkNest "PredicateMachine" 80 "PredicateMachine$Inspection" "found" "I" "PredicateMachine", .fieldLinkNest "PredicateMachine" 95 "PredicateMachine$Inspection" "foundAt" "I" "PredicateMachine", .fieldLinkNest "PredicateMachine" 92 "PredicateMachine$Inspection" "groups" "I" "PredicateMachine", .methodLinkNest "PredicateMachine$Registers" 32 ⟨"PredicateMachine$Frame", "<init>", "()V"⟩ "PredicateMachine", .fieldLinkNest "PredicateMachine$Registers" 79 "PredicateMachine$Frame" "base" "I" "PredicateMachine", .fieldLinkNest "PredicateMachine" 181 "PredicateMachine$Frame" "base" "I" "PredicateMachine", .fieldLinkNest "PredicateMachine$Registers" 57 "PredicateMachine$Frame" "size" "I" "PredicateMachine", .fieldLinkNest "PredicateMachine" 158 "PredicateMachine$Frame" "size" "I" "PredicateMachine", .fieldLinkNest "PredicateMachine$Registers" 86 "PredicateMachine$Frame" "outs" "I" "PredicateMachine", .fieldLinkNest "PredicateMachine" 160 "PredicateMachine$Frame" "outs" "I" "PredicateMachine", .fieldLinkNest "PredicateMachine$Registers" 89 "PredicateMachine$Frame" "turns" "I" "PredicateMachine", .fieldLinkNest "PredicateMachine" 163 "PredicateMachine$Frame" "turns" "I" "PredicateMachine", .fieldLinkNest "PredicateMachine$Registers" 76 "PredicateMachine$Frame" "rotation" "I" "PredicateMachine", .fieldLinkNest "PredicateMachine" 134 "PredicateMachine$Frame" "rotation" "I" "PredicateMachine", .fieldLinkNest "PredicateMachine$Registers" 95 "PredicateMachine$Frame" "comesBackTo" "I" "PredicateMachine", .fieldLinkNest "PredicateMachine" 187 "PredicateMachine$Registers" "store" "LPredicateMachine$Cells;" "PredicateMachine", .fieldLinkNest "PredicateMachine" 130 "PredicateMachine$Registers" "current" "LPredicateMachine$Frame;" "PredicateMachine", .fieldLinkNest "PredicateMachine" 166 "PredicateMachine$Registers" "called" "I" "PredicateMachine", .fieldLinkNest "PredicateMachine" 184 "PredicateMachine$Registers" "lowestHeld" "I" "PredicateMachine", .fieldLinkNest "PredicateMachine" 175 "PredicateMachine$Registers" "spilled" "I" "PredicateMachine", .fieldLinkNest "PredicateMachine" 178 "PredicateMachine$Registers" "filled" "I" "PredicateMachine", .methodLinkNest "PredicateMachine" 25 ⟨"PredicateMachine$Predicates", "<init>", "()V"⟩ "PredicateMachine", .methodLinkNest "PredicateMachine" 41 ⟨"PredicateMachine$Listing", "<init>", "()V"⟩ "PredicateMachine", .fieldLinkNest "PredicateMachine$Inspection" 56 "PredicateMachine$Instruction" "operation" "I" "PredicateMachine", .fieldLinkNest "PredicateMachine" 214 "PredicateMachine$Instruction" "operation" "I" "PredicateMachine", .fieldLinkNest "PredicateMachine" 203 "PredicateMachine$Instruction" "q" "I" "PredicateMachine", .fieldLinkNest "PredicateMachine$Inspection" 62 "PredicateMachine$Instruction" "a" "I" "PredicateMachine", .fieldLinkNest "PredicateMachine" 217 "PredicateMachine$Instruction" "a" "I" "PredicateMachine", .fieldLinkNest "PredicateMachine$Inspection" 69 "PredicateMachine$Instruction" "b" "I" "PredicateMachine", .fieldLinkNest "PredicateMachine" 220 "PredicateMachine$Instruction" "b" "I" "PredicateMachine", .fieldLinkNest "PredicateMachine$Inspection" 84 "PredicateMachine$Instruction" "c" "I" "PredicateMachine", .fieldLinkNest "PredicateMachine" 248 "PredicateMachine$Instruction" "c" "I" "PredicateMachine", .fieldLinkNest "PredicateMachine$Inspection" 107 "PredicateMachine$Instruction" "stop" "Z" "PredicateMachine", .fieldLinkNest "PredicateMachine$Instruction" 31 "PredicateMachine" "KINDS_OF_A" "[I" "PredicateMachine", .fieldLinkNest "PredicateMachine$Instruction" 39 "PredicateMachine" "KINDS_OF_B" "[I" "PredicateMachine", .fieldLinkNest "PredicateMachine$Instruction" 42 "PredicateMachine" "KINDS_OF_C" "[I" "PredicateMachine"]
def gNst (G : gE) : Prop := ∀ (A : Nat → Prop) (U : State) (H : Heap), G A U H → ∀ w ∈ nsts, va_Nw w U
theorem V_getN (C : vC X cc nL Ts own cl0 D0 tys l0 R0) (gn : gNst G) (hg : vG X G) {ref C9 host : String} {T : u_T} {N ci index a : Nat} {fs : List Value} {v : Value} (hdg : decode cc pc = .ok (.getfield index, 3)) (hin : ∀ w ∈ u_ws C9 T N, w ∈ Ts) (q0 : Nat) (he : w0[q0]? = some (a, .inr (ci, fs))) (hc : cl0[ci]? = some (C9, T, N)) (j : Nat) (hk : j < N) (hlink : Cond.fieldLinkNest own index ref (T j).2.1 (T j).2.2.1 host ∈ nsts) (href : (T j).1 = ref) (hv : fs[j]? = some v) (k : V X kc kn w0 (pc + 3) lv (v :: st)) : V X kc kn w0 pc lv (.ref a :: st) := by
  obtain ⟨p, l, e, R, s, m, args, below, meth, c, Q, D, cl, A⟩ := X
  obtain ⟨hx, hb, hml, hown, hts, hK, hA, rfl, rfl, rfl, rfl, hlk⟩ := C
  intro H locs ls hP hD hS hl
  exact va_getN (D := D) hx hb hts hin hown hK hP q0 he hc j hk (va_Nw.use rfl (gn _ _ _ hg _ hlink)) (fun _ h9 => by rw [← href]; exact h9) hv hdg (k H locs ls hP hD hS hl)
theorem V_putN (C : vC X cc nL Ts own cl0 D0 tys l0 R0) (gn : gNst G) (hg : vG X G) {ref C9 host : String} {T : u_T} {N ci index a : Nat} {fs : List Value} {v : Value} {ty : FieldType} {ty0 : Nat → FieldType} {ws' : va_W} (hdg : decode cc pc = .ok (.putfield index, 3)) (hin : ∀ w ∈ u_ws C9 T N, w ∈ Ts) (hty : ∀ k, k < N → parseFieldDescriptor (T k).2.2.1 = some (ty0 k)) (hnm : ∀ a, a < N → ∀ b, b < N → a ≠ b → (T a).2.1 ≠ (T b).2.1) (q0 : Nat) (he : w0[q0]? = some (a, .inr (ci, fs))) (hc : cl0[ci]? = some (C9, T, N)) (j : Nat) (hk : j < N) (hlink : Cond.fieldLinkNest own index ref (T j).2.1 (T j).2.2.1 host ∈ nsts) (href : (T j).1 = ref) (hfin : (T j).2.2.2 = false) (hd : ty0 j = ty) (hn : narrow ty v = v) (hfit : fits ty v = true) (hlen : j < fs.length) (hw : w0.set q0 (a, .inr (ci, fs.set j v)) = ws') (k : V X kc kn ws' (pc + 3) lv st) : V X kc kn w0 pc lv (v :: .ref a :: st) := by
  obtain ⟨p, l, e, R, s, m, args, below, meth, c, Q, D, cl, A⟩ := X
  obtain ⟨hx, hb, hml, hown, hts, hK, hA, rfl, rfl, rfl, rfl, hlk⟩ := C
  intro H locs ls hP hD hS hl
  subst hw
  exact va_putN (D := D) hx hb hts hin ty0 hty hnm hown hK hP hD hS q0 he hc j hk (va_Nw.use rfl (gn _ _ _ hg _ hlink)) (fun _ h9 => by rw [← href]; exact h9) hfin (by rw [← hd]; exact hty j hk) hn hfit hlen hdg (fun H1 locs1 hP1 hD1 hS1 => k H1 locs1 ls hP1 hD1 hS1 hl)
theorem V_tlen (C : vC X cc nL Ts own cl0 D0 tys l0 R0) {t N : Nat} {f : Nat → Value} {v : Int32} (hdg : decode cc pc = .ok (.arraylength, 1)) (hg : vG X (fun A U H => va_T .int t N f A U H)) (hv : Int32.ofNat N = v) (k : V X kc kn w0 (pc + 1) lv (.int v :: st)) : V X kc kn w0 pc lv (.ref t :: st) := by
  obtain ⟨p, l, e, R, s, m, args, below, meth, c, Q, D, cl, A⟩ := X
  obtain ⟨hx, hb, hml, hown, hts, hK, hA, rfl, rfl, rfl, rfl, hlk⟩ := C
  intro H locs ls hP hD hS hl
  exact va_tlen hx hb hg hS hv hdg (k H locs ls hP hD hS hl)
theorem V_tald (C : vC X cc nL Ts own cl0 D0 tys l0 R0) {t N : Nat} {f : Nat → Value} {i : Int32} {v : Value} (hdg : decode cc pc = .ok (.iaload, 1)) (hg : vG X (fun A U H => va_T .int t N f A U H)) (hin : vp_in i N) (hv : f i.toNatClampNeg = v) (k : V X kc kn w0 (pc + 1) lv (v :: st)) : V X kc kn w0 pc lv (.int i :: .ref t :: st) := by
  obtain ⟨p, l, e, R, s, m, args, below, meth, c, Q, D, cl, A⟩ := X
  obtain ⟨hx, hb, hml, hown, hts, hK, hA, rfl, rfl, rfl, rfl, hlk⟩ := C
  intro H locs ls hP hD hS hl
  exact va_ti hx hb hg hS hin hv hdg (k H locs ls hP hD hS hl)
theorem vG_mono {G G2 : gE} (h : ∀ A U H, G A U H → G2 A U H) (hg : vG X G) : vG X G2 := by
  obtain ⟨p, l, e, R, s, m, args, below, meth, c, Q, D, cl, A⟩ := X
  exact h _ _ _ hg
theorem V_aald (C : vC X cc nL Ts own cl0 D0 tys l0 R0) {a n : Nat} {cA : ClassId} {C9 : String} {f : Nat → Option Nat} {i : Int32} {v : Option Nat} (hdg : decode cc pc = .ok (.aaload, 1)) (q0 t0 : Nat) (ha : w0[q0]? = some (a, .inl (cA, n, .inr (.inr (.inr (.inr f)))))) (ht : tys[t0]? = some (cA, .object C9)) (n0 : Nat) (h0 : i.toNatClampNeg = n0) (hin : vp_in i n) (hv : f n0 = v) (k : V X kc kn w0 (pc + 1) lv (va_rf v :: st)) : V X kc kn w0 pc lv (.int i :: .ref a :: st) := by
  obtain ⟨p, l, e, R, s, m, args, below, meth, c, Q, D, cl, A⟩ := X
  obtain ⟨hx, hb, hml, hown, hts, hK, hA, rfl, rfl, rfl, rfl, hlk⟩ := C
  intro H locs ls hP hD hS hl
  subst h0; subst hv
  exact va_aldq (D := D) hx hb hK hP q0 t0 ha ht hin hdg (k H locs ls hP hD hS hl)
theorem V_aast (C : vC X cc nL Ts own cl0 D0 tys l0 R0) {a n v : Nat} {cA : ClassId} {r : vw_C} {vs : List Value} {f : Nat → Option Nat} {i : Int32} {ws' : va_W} (hdg : decode cc pc = .ok (.aastore, 1)) (q0 t0 qk ci : Nat) (ha : w0[q0]? = some (a, .inl (cA, n, .inr (.inr (.inr (.inr f)))))) (ht : tys[t0]? = some (cA, .object r.1)) (hv : w0[qk]? = some (v, .inr (ci, vs))) (hc : cl0[ci]? = some r) (n0 : Nat) (h0 : i.toNatClampNeg = n0) (hin : vp_in i n) (hw : w0.set q0 (a, .inl (cA, n, .inr (.inr (.inr (.inr (va_up f n0 (some v))))))) = ws') (k : V X kc kn ws' (pc + 1) lv st) : V X kc kn w0 pc lv (.ref v :: .int i :: .ref a :: st) := by
  obtain ⟨p, l, e, R, s, m, args, below, meth, c, Q, D, cl, A⟩ := X
  obtain ⟨hx, hb, hml, hown, hts, hK, hA, rfl, rfl, rfl, rfl, hlk⟩ := C
  intro H locs ls hP hD hS hl
  subst h0; subst hw
  exact va_astq (D := D) hx hb hK hP hD hS q0 t0 qk ci ha ht hv hc hin hdg (fun H1 locs1 hP1 hD1 hS1 => k H1 locs1 ls hP1 hD1 hS1 hl)
theorem V_ifnull (C : vC X cc nL Ts own cl0 D0 tys l0 R0) {x : Nat} {off : Int} (hdg : decode cc pc = .ok (.ifnull off, 3)) (k : V X kc kn w0 (pc + 3) lv st) : V X kc kn w0 pc lv (.ref x :: st) := by
  obtain ⟨p, l, e, R, s, m, args, below, meth, c, Q, D, cl, A⟩ := X
  obtain ⟨hx, hb, hml, hown, hts, hK, hA, rfl, rfl, rfl, rfl, hlk⟩ := C
  intro H locs ls hP hD hS hl
  exact lv_ifnull hx hb hdg (k H locs ls hP hD hS hl)
theorem V_ifnonnull (C : vC X cc nL Ts own cl0 D0 tys l0 R0) {x : Nat} {off : Int} {tgt : Nat} (hdg : decode cc pc = .ok (.ifnonnull off, 3)) (ht : (pc : Int) + off = (tgt : Int)) (k : V X kc kn w0 tgt lv st) : V X kc kn w0 pc lv (.ref x :: st) := by
  obtain ⟨p, l, e, R, s, m, args, below, meth, c, Q, D, cl, A⟩ := X
  obtain ⟨hx, hb, hml, hown, hts, hK, hA, rfl, rfl, rfl, rfl, hlk⟩ := C
  intro H locs ls hP hD hS hl
  exact lv_ifnonnull hx hb hdg ht (k H locs ls hP hD hS hl)
theorem V_aconst_null (C : vC X cc nL Ts own cl0 D0 tys l0 R0) (hdg : decode cc pc = .ok (.aconst_null, 1)) (k : V X kc kn w0 (pc + 1) lv (.null :: st)) : V X kc kn w0 pc lv st := by
  obtain ⟨p, l, e, R, s, m, args, below, meth, c, Q, D, cl, A⟩ := X
  obtain ⟨hx, hb, hml, hown, hts, hK, hA, rfl, rfl, rfl, rfl, hlk⟩ := C
  intro H locs ls hP hD hS hl
  exact lv_null hx hb hdg (k H locs ls hP hD hS hl)
/-- the kinds of an instruction's numbers, as the class's static tables have them -/
def kTab (k : Nat) (j : Nat) : Int32 := (match k with
  | 0 => ([0, 2, 2, 2, 2, 2, 3, 3, 2, 2, 1, 1, 2, 1, 4, 4, 0, 0, 0, 4, 0] : List Int32)
  | 1 => [0, 0, 1, 1, 1, 1, 1, 1, 1, 1, 1, 1, 1, 4, 0, 0, 0, 0, 0, 0, 0]
  | _ => [0, 0, 1, 1, 1, 1, 1, 1, 0, 0, 0, 0, 0, 0, 0, 0, 0, 0, 0, 0, 0]).getD j 0
def kNm (k : Nat) : String := match k with
  | 0 => "KINDS_OF_A"
  | 1 => "KINDS_OF_B"
  | _ => "KINDS_OF_C"
def gTab (G : gE) (tb : Nat → Nat) : Prop := ∀ (A : Nat → Prop) (U : State) (H : Heap), G A U H → ∀ k, k < 3 → va_Z "PredicateMachine" (kNm k) "[I" (.ref (tb k)) A U H ∧ va_T .int (tb k) 21 (fun j => .int (kTab k j)) A U H
def gAll (G : gE) (tb : Nat → Nat) : Prop := gOk G ∧ gNst G ∧ gTab G tb
theorem V_getsN (C : vC X cc nL Ts own cl0 D0 tys l0 R0) (gn : gNst G) {tb : Nat → Nat} (gt : gTab G tb) (hg : vG X G) {host : String} {index : Nat} (k9 : Nat) (hk : k9 < 3) (hdg : decode cc pc = .ok (.getstatic index, 3)) (hlink : Cond.fieldLinkNest own index "PredicateMachine" (kNm k9) "[I" host ∈ nsts) (k : V X kc kn w0 (pc + 3) lv (.ref (tb k9) :: st)) : V X kc kn w0 pc lv st := by
  obtain ⟨p, l, e, R, s, m, args, below, meth, c, Q, D, cl, A⟩ := X
  obtain ⟨hx, hb, hml, hown, hts, hK, hA, rfl, rfl, rfl, rfl, hlk⟩ := C
  intro H locs ls hP hD hS hl
  exact va_getsN hx hb (gt _ _ _ hg k9 hk).1 hS hown (va_Nw.use rfl (gn _ _ _ hg _ hlink)) (fun _ h => h) hdg (k H locs ls hP hD hS hl)
end GK
theorem ws_at {ws : va_W} {p : Nat} {x y : Nat × va_E} (h : ws[p]? = some x) : (ws.set p y)[p]? = some y := by
  have := (List.getElem?_eq_some_iff.mp h).1
  rw [List.getElem?_set_self this]
theorem ws_ne {ws : va_W} {p q : Nat} {x y : Nat × va_E} (hne : p ≠ q) (h : ws[q]? = some x) : (ws.set p y)[q]? = some x := by
  rw [List.getElem?_set_ne hne]; exact h
theorem ws_ss {ws : va_W} {p : Nat} {x y : Nat × va_E} : (ws.set p x).set p y = ws.set p y := List.set_set ..
