def vI (X : vCtx) : Prop := match X with
  | (_, _, _, _, _, _, _, _, meth, _, _, _, _, _) => meth.name = "<init>"
def gAo (G : gE) : Prop := ∀ (A : Nat → Prop) (U : State) (H : Heap), G A U H → va_AO "PredicateMachine$Frame" U ∧ va_AO "PredicateMachine$Instruction" U
theorem va_D_l {A : Nat → Prop} {ws wc : va_W} (h : va_D A (ws ++ wc)) : va_D A ws := h.by id (fun k q hk => by
  have hl := (List.getElem?_eq_some_iff.mp hk).1
  show (ws ++ wc)[k]? = some q
  rw [List.getElem?_append_left hl]; exact hk) (fun i j _ _ h => h)
theorem va_D_r {A : Nat → Prop} {ws wc : va_W} (h : va_D A (ws ++ wc)) : va_D A wc := h.by (fun k => ws.length + k) (fun k q hk => by
  rw [List.getElem?_append_right (by omega), show ws.length + k - ws.length = k by omega]; exact hk) (fun i j _ _ h => by have h : ws.length + i = ws.length + j := h; omega)
theorem va_P_l {D : va_G} {cl : List vw_C} {H : Heap} {ws wc : va_W} (h : va_P D cl (ws ++ wc) H) : va_P D cl ws H := h.by id (fun k q hk => by
  have hl := (List.getElem?_eq_some_iff.mp hk).1
  show (ws ++ wc)[k]? = some q
  rw [List.getElem?_append_left hl]; exact hk)
theorem va_P_r {D : va_G} {cl : List vw_C} {H : Heap} {ws wc : va_W} (h : va_P D cl (ws ++ wc) H) : va_P D cl wc H := h.by (fun k => ws.length + k) (fun k q hk => by
  rw [List.getElem?_append_right (by omega), show ws.length + k - ws.length = k by omega]; exact hk)
/-- what a callee made of the last cells stands beside the rest -/
theorem zz_last {A0 : Nat → Prop} {D : va_G} {cl : List vw_C} {ws wc w1 : va_W} {H H1 : Heap} (hP : va_P D cl (ws ++ wc) H) (hD : va_D A0 (ws ++ wc)) (hk : ∀ q : Nat, q < H.size → ¬ va_A wc H.size q → H1[q]? = H[q]?) (hF : ∀ q, va_A wc H.size q → A0 q) (hP1 : va_P D cl w1 H1) (hD1 : va_D (va_A wc H.size) w1) : va_P D cl (ws ++ w1) H1 ∧ va_D A0 (ws ++ w1) := by
  have hn : ∀ (k : Nat) (q : Nat × va_E), ws[k]? = some q → q.1 < H.size ∧ ¬ va_A wc H.size q.1 := by
    intro k q hq
    have hlt := (va_P_l hP k q hq).lt
    refine ⟨hlt, fun h => ?_⟩
    rcases h with ⟨j, e, hj⟩ | h
    · have hkl := (List.getElem?_eq_some_iff.mp hq).1
      have e1 := hD.1 k (ws.length + j) q (q.1, e) (by rw [List.getElem?_append_left hkl]; exact hq) (by rw [List.getElem?_append_right (by omega), show ws.length + j - ws.length = j by omega]; exact hj) rfl
      omega
    · omega
  refine ⟨va_P.app ((va_P_l hP).kept (fun k q hq => hk q.1 (hn k q hq).1 (hn k q hq).2)) hP1, va_D.app (va_D_l hD) (hD1.weaken (fun _ _ _ h => hF _ h)) (fun i j p q hp hq e => ?_)⟩
  exact (hn i p hp).2 (by rw [e]; exact hD1.2 j q hq)
section NE
variable {X : vCtx} {kc kn : Nat} {ws : va_W} {pc : Nat} {lv : List (Nat × Value)} {st : List Value} {cc : ByteArray} {nL : Nat} {Ts : List Cond} {own : String} {cl0 : List vw_C} {D0 : va_G} {tys : List (ClassId × FieldType)} {l0 : Launch} {R0 : Room} {G : gE}
theorem V_new (C : vC X cc nL Ts own cl0 D0 tys l0 R0) {C9 : String} {T : u_T} {N ci index : Nat} {ty0 : Nat → FieldType} {fs : List Value} (hdg : decode cc pc = .ok (.new index, 3)) (hin : ∀ w ∈ u_ws C9 T N, w ∈ Ts) (hty : ∀ k, k < N → parseFieldDescriptor (T k).2.2.1 = some (ty0 k)) (hcl : Cond.classLink own index C9 ∈ Ts) (hinst : Cond.instantiable C9 N ∈ Ts) (hini : Cond.initialized C9 ∈ Ts) (hc : cl0[ci]? = some (C9, T, N)) (hfs : ∀ j, j < N → defaultValue (ty0 j) = vp_V fs j) (hcells : kc + 1 ≤ R0.cells) (hslots : kn + N ≤ R0.slots) (k : ∀ q : Nat, V X (kc + 1) (kn + N) (ws ++ [(q, .inr (ci, fs))]) (pc + 3) lv (.ref q :: st)) : V X kc kn ws pc lv st := by
  obtain ⟨p, l, e, R, s, m, args, below, meth, c, Q, D, cl, A⟩ := X
  obtain ⟨hx, hb, hml, hown, hts, hK, hA, rfl, rfl, rfl, rfl, hlk⟩ := C
  intro H locs ls hP hD hS hl
  exact va_new (D := D) hx hb hts hin ty0 hty hown (hts _ hcl) (hts _ hinst) (hts _ hini) hK hP hD hS hA hc hfs hcells hslots hdg (fun q H1 hP1 hD1 hS1 => k q H1 locs ls hP1 hD1 hS1 hl)
theorem V_newa (C : vC X cc nL Ts own cl0 D0 tys l0 R0) {atype : ArrayType} {ty : FieldType} {n : Int32} {N9 : Nat} {a0 : vp_A} {cA : ClassId} (hdg : decode cc pc = .ok (.newarray atype, 2)) (harr : Cond.arrayClass (newarray.typeOf atype) ∈ Ts) (hty : newarray.typeOf atype = ty) (t0 : Nat) (ht : tys[t0]? = some (cA, ty)) (hRA : ∀ (U : State) (c9 : ClassId), va_RA U c9 ty → U.vm.findClass ("[" ++ ty.toString) = some c9) (ha : ∀ cA : ClassId, vp_cell cA a0 = arrV cA N9 (fun _ => defaultValue ty)) (hn : ¬ n < 0) (hN : n.toNatClampNeg = N9) (hbytes : N9 * componentBytes ty ≤ 536870912) (hcells : kc + 1 ≤ R0.cells) (hslots : kn + N9 ≤ R0.slots) (k : ∀ q : Nat, V X (kc + 1) (kn + N9) (ws ++ [(q, .inl (cA, a0))]) (pc + 2) lv (.ref q :: st)) : V X kc kn ws pc lv (.int n :: st) := by
  obtain ⟨p, l, e, R, s, m, args, below, meth, c, Q, D, cl, A⟩ := X
  obtain ⟨hx, hb, hml, hown, hts, hK, hA, rfl, rfl, rfl, rfl, hlk⟩ := C
  intro H locs ls hP hD hS hl
  refine va_newa (D := D) hx hb (hts _ harr) hty hK hP hD hS hA ha hn hN hbytes hcells hslots hdg (fun q cA1 H1 hK1 hP1 hD1 hS1 => ?_)
  have h1 := hRA _ _ (hK1.2 tys.length (cA1, ty) (by rw [List.getElem?_append_right (Nat.le_refl _), Nat.sub_self]; rfl)).2
  have h2 := hRA _ _ (hK.2 t0 _ ht).2
  have e9 : cA1 = cA := Option.some.inj (h1.symm.trans h2)
  subst e9
  exact k q H1 locs ls hP1 hD1 hS1 hl
theorem V_newq (C : vC X cc nL Ts own cl0 D0 tys l0 R0) {C9 : String} {index : Nat} {n : Int32} {N9 : Nat} {cA : ClassId} (hdg : decode cc pc = .ok (.anewarray index, 3)) (hcl : Cond.classLink own index C9 ∈ Ts) (hg : vG X (fun _ U _ => va_AO C9 U)) (t0 : Nat) (ht : tys[t0]? = some (cA, .object C9)) (hn : ¬ n < 0) (hN : n.toNatClampNeg = N9) (hbytes : N9 * 4 ≤ 536870912) (hcells : kc + 1 ≤ R0.cells) (hslots : kn + N9 ≤ R0.slots) (k : ∀ q : Nat, V X (kc + 1) (kn + N9) (ws ++ [(q, .inl (cA, N9, .inr (.inr (.inr (.inr (fun _ => none))))))]) (pc + 3) lv (.ref q :: st)) : V X kc kn ws pc lv (.int n :: st) := by
  obtain ⟨p, l, e, R, s, m, args, below, meth, c, Q, D, cl, A⟩ := X
  obtain ⟨hx, hb, hml, hown, hts, hK, hA, rfl, rfl, rfl, rfl, hlk⟩ := C
  intro H locs ls hP hD hS hl
  refine va_newq (D := D) hx hb hown (hts _ hcl) hg hK hP hD hS hA hn hN hbytes hcells hslots hdg (fun q cA1 H1 hK1 hP1 hD1 hS1 => ?_)
  obtain ⟨kA, comp, -, -, -, h1⟩ := (hK1.2 tys.length (cA1, .object C9) (by rw [List.getElem?_append_right (Nat.le_refl _), Nat.sub_self]; rfl)).2
  obtain ⟨kA2, comp2, -, -, -, h2⟩ := (hK.2 t0 _ ht).2
  have e9 : cA1 = cA := Option.some.inj (h1.symm.trans h2)
  subst e9
  exact k q H1 locs ls hP1 hD1 hS1 hl
theorem V_objInit (C : vC X cc nL Ts own cl0 D0 tys l0 R0) {idx a : Nat} (hdg : decode cc pc = .ok (.invokespecial idx, 3)) (hl1 : Cond.methodLink own idx objectInit ∈ Ts) (hl2 : Cond.instanceMethod objectInit ∈ Ts) (hl3 : Cond.code objectInit ⟨#[0xb1]⟩ 1 none ∈ Ts) (hR : 1 ≤ R0.frames ∧ 12 ≤ R0.locals) (k : V X kc kn ws (pc + 3) lv []) : V X kc kn ws pc lv [.ref a] := by
  obtain ⟨p, l, e, R, s, m, args, below, meth, c, Q, D, cl, A⟩ := X
  obtain ⟨hx, hb, hml, hown, hts, hK, hA, rfl, rfl, rfl, rfl, hlk⟩ := C
  intro H locs ls hP hD hS hl
  refine W.objInit hx hb hown (hts _ hl1) (hts _ hl2) (hts _ hl3) rfl hl.1 rfl hdg hR.1 (by show 2 * 0 + 0 + 12 ≤ _; exact hR.2) ?_
  refine W.eq (g2 := F0 m (pc + 3) ls []) rfl ?_
  exact k H locs ls hP hD hS hl
theorem V_putF (C : vC X cc nL Ts own cl0 D0 tys l0 R0) (hI : vI X) {ref C9 : String} {T : u_T} {N ci index a : Nat} {fs : List Value} {v : Value} {ty : FieldType} {ty0 : Nat → FieldType} {ws' : va_W} (hdg : decode cc pc = .ok (.putfield index, 3)) (hin : ∀ w ∈ u_ws C9 T N, w ∈ Ts) (hty : ∀ k, k < N → parseFieldDescriptor (T k).2.2.1 = some (ty0 k)) (hnm : ∀ a, a < N → ∀ b, b < N → a ≠ b → (T a).2.1 ≠ (T b).2.1) (q0 : Nat) (he : ws[q0]? = some (a, .inr (ci, fs))) (hc : cl0[ci]? = some (C9, T, N)) (j : Nat) (hk : j < N) (hlink : Cond.fieldLink own index ref (T j).2.1 (T j).2.2.1 ∈ Ts) (href : (T j).1 = ref) (hfin : (T j).2.2.2 = true) (hdecl : (T j).1 = own) (hd : ty0 j = ty) (hn : narrow ty v = v) (hfit : fits ty v = true) (hlen : j < fs.length) (hw : ws.set q0 (a, .inr (ci, fs.set j v)) = ws') (k : V X kc kn ws' (pc + 3) lv st) : V X kc kn ws pc lv (v :: .ref a :: st) := by
  obtain ⟨p, l, e, R, s, m, args, below, meth, c, Q, D, cl, A⟩ := X
  obtain ⟨hx, hb, hml, hown, hts, hK, hA, rfl, rfl, rfl, rfl, hlk⟩ := C
  intro H locs ls hP hD hS hl
  subst hw
  exact va_putF (D := D) hx hb hts hin ty0 hty hnm hown hK hP hD hS q0 he hc j hk (hts _ hlink) (fun _ h9 => by rw [← href]; exact h9) hfin hI hdecl (by rw [← hd]; exact hty j hk) hn hfit hlen hdg (fun H1 locs1 hP1 hD1 hS1 => k H1 locs1 ls hP1 hD1 hS1 hl)
theorem V_icall {S : Type} (C : vC X cc nL Ts own cl0 D0 tys l0 R0) (go : gOk G) (hg : vG X G) {y : MethodName} {wsY ws' : List Cond} {rm : Room} {As rest : List Value} {wc : va_W} {w : S → va_W} {post : S → Prop} {index maxL b : Nat} {bytes : ByteArray} (hdg : decode cc pc = .ok (.invokespecial index, 3)) (hM : gMv l0 D0 cl0 tys G y wsY rm (.ref b :: As) wc w post) (hlk9 : Cond.methodLink own index y ∈ Ts) (hin : Cond.instanceMethod y ∈ Ts) (hini : Cond.initialized y.cls ∈ Ts) (hG : GoodIn Ts wsY) (hw : wsY = Cond.code y bytes maxL none :: ws') (hy1 : y.name = "<init>") (n9 : Nat) (hn : As.length = n9) (hd : y.cls ≠ "java/lang/invoke/MethodHandle" ∧ y.cls ≠ "java/lang/invoke/VarHandle" ∧ (parseMethodDescriptor y.desc).map (fun d => d.parameters.length) = some n9) (hR : rm.frames + 1 ≤ R0.frames ∧ 8 + (maxL + 11) + rm.locals ≤ R0.locals) (hcn : kc + rm.cells ≤ R0.cells ∧ kn + rm.slots ≤ R0.slots) (hst : st = As.reverse ++ .ref b :: rest) (hcat : (rest.map fun v => v.category).sum ≤ 8) (k : ∀ u : S, post u → V X (kc + rm.cells) (kn + rm.slots) (ws ++ w u) (pc + 3) lv rest) : V X kc kn (ws ++ wc) pc lv st := by
  obtain ⟨p, l, e, R, s, m, args, below, meth, c, Q, D, cl, A⟩ := X
  obtain ⟨hx, hb, hml, hown, hts, hK, hA, rfl, rfl, rfl, rfl, hlk⟩ := C
  intro H locs ls hP hD hS hl
  subst hst
  have hFc : ∀ q, va_A wc H.size q → A q := vFree (D := D) (cl := cl) (va_D_r hD) hS hA
  exact va_callv (va_runI (As := As) (rest := rest) ⟨hx, hb, hml, hown, hts⟩ (hM H.size) (cwI n9 hts hG hw rfl rfl (hts _ hini) (hts _ hlk9) (hts _ hin) hy1 hd hR) ⟨gPre_blind go, fun U hU hW => ⟨rfl, ⟨by rw [hU], by rw [hU]; exact va_P_r hP, va_K.moved hW.alike hK, (va_D_r hD).weaken (fun _ _ _ _ => trivial)⟩, by rw [hU]; exact go.2.2.2 _ _ _ _ hFc (go.1 _ _ _ _ hW (go.2.2.1 _ _ _ _ hS.2.1 hg))⟩⟩ rfl hn (hl.1.trans hml) rfl (lv_room hcat) hdg hcn) hS (fun q _ h => hFc q h) hFc (fun u t H1 locs ht hvm hp hB hz1 hk1 hS => (fun J => k u hp H1 locs ls J.1 J.2 hS hl) (zz_last hP hD hk1 hFc (by rw [← ht]; exact hB.1) hB.2.2))
theorem V_icallN {S : Type} (C : vC X cc nL Ts own cl0 D0 tys l0 R0) (go : gOk G) (hg : vG X G) {y : MethodName} {wsY ws' : List Cond} {rm : Room} {As rest : List Value} {wc : va_W} {w : S → va_W} {post : S → Prop} {index maxL b : Nat} {bytes : ByteArray} (hdg : decode cc pc = .ok (.invokespecial index, 3)) (hM : gMv l0 D0 cl0 tys G y wsY rm (.ref b :: As) wc w post) (gn : gNst G) {host : String} (hlk9 : Cond.methodLinkNest own index y host ∈ nsts) (hin : Cond.instanceMethod y ∈ Ts) (hini : Cond.initialized y.cls ∈ Ts) (hG : GoodIn Ts wsY) (hw : wsY = Cond.code y bytes maxL none :: ws') (hy1 : y.name = "<init>") (n9 : Nat) (hn : As.length = n9) (hd : y.cls ≠ "java/lang/invoke/MethodHandle" ∧ y.cls ≠ "java/lang/invoke/VarHandle" ∧ (parseMethodDescriptor y.desc).map (fun d => d.parameters.length) = some n9) (hR : rm.frames + 1 ≤ R0.frames ∧ 8 + (maxL + 11) + rm.locals ≤ R0.locals) (hcn : kc + rm.cells ≤ R0.cells ∧ kn + rm.slots ≤ R0.slots) (hst : st = As.reverse ++ .ref b :: rest) (hcat : (rest.map fun v => v.category).sum ≤ 8) (k : ∀ u : S, post u → V X (kc + rm.cells) (kn + rm.slots) (ws ++ w u) (pc + 3) lv rest) : V X kc kn (ws ++ wc) pc lv st := by
  obtain ⟨p, l, e, R, s, m, args, below, meth, c, Q, D, cl, A⟩ := X
  obtain ⟨hx, hb, hml, hown, hts, hK, hA, rfl, rfl, rfl, rfl, hlk⟩ := C
  intro H locs ls hP hD hS hl
  subst hst
  have hFc : ∀ q, va_A wc H.size q → A q := vFree (D := D) (cl := cl) (va_D_r hD) hS hA
  exact va_callv (va_runIN (As := As) (rest := rest) ⟨hx, hb, hml, hown, hts⟩ (hM H.size) (⟨va_cnB n9 hts hG hw rfl rfl (gn _ _ _ hg _ hlk9) (hts _ hini) hd hR, hy1, hts _ hin⟩) ⟨gPre_blind go, fun U hU hW => ⟨rfl, ⟨by rw [hU], by rw [hU]; exact va_P_r hP, va_K.moved hW.alike hK, (va_D_r hD).weaken (fun _ _ _ _ => trivial)⟩, by rw [hU]; exact go.2.2.2 _ _ _ _ hFc (go.1 _ _ _ _ hW (go.2.2.1 _ _ _ _ hS.2.1 hg))⟩⟩ rfl hn (hl.1.trans hml) rfl (lv_room hcat) hdg hcn) hS (fun q _ h => hFc q h) hFc (fun u t H1 locs ht hvm hp hB hz1 hk1 hS => (fun J => k u hp H1 locs ls J.1 J.2 hS hl) (zz_last hP hD hk1 hFc (by rw [← ht]; exact hB.1) hB.2.2))
/-- cells change their places in the list -/
theorem V_by {ws' : va_W} (is : List Nat) (hn : va_nd is = true) (hs : is.map (fun i => ws[i]?) = ws'.map some) (k : V X kc kn ws' pc lv st) : V X kc kn ws pc lv st := by
  obtain ⟨p, l, e, R, s, m, args, below, meth, c, Q, D, cl, A⟩ := X
  intro H locs ls hP hD hS hl
  refine k H locs ls (hP.sub is ?_) (hD.sub is hn hs) hS hl
  have h9 : is.filterMap (fun i => ws[i]?) = (is.map (fun i => ws[i]?)).filterMap id := by rw [List.filterMap_map]; rfl
  rw [h9, hs, List.filterMap_map]
  exact List.filterMap_some
end NE
theorem iMv_of {S : Type} {l : Launch} {D : va_G} {cl : List vw_C} {tys : List (ClassId × FieldType)} {G : gE} {y : MethodName} {wsY ws' : List Cond} {rm : Room} {av : List Value} {w0 : va_W} {w : S → va_W} {post : S → Prop} {cc : ByteArray} {nL : Nat} (hy : plainName y.cls = true) (hy1 : y.name = "<init>") (hw : wsY = Cond.code y cc nL none :: ws') (hav : (lg_sl av).length ≤ nL)
    (body : ∀ X : vCtx, vC X cc nL wsY y.cls cl D tys l rm → vG X G → vI X → (∀ (u : S) (pc : Nat) (lv : List (Nat × Value)), decode cc pc = .ok (.return_, 1) → post u → V X rm.cells rm.slots (w u) pc lv []) → V X 0 0 w0 0 (lv_args 0 av) []) : gMv l D cl tys G y wsY rm av w0 w post := by
  intro sz
  refine Met.ofW (cc := cc) (maxL := nL) (ret := none) hy hw ?_
  intro p e s m args below meth c s₁ B hml hv
  obtain ⟨rfl, ⟨hsz, hP, hK, hD0⟩, hG⟩ := hv
  subst hsz
  have hx := B.exec
  have hb := B.bytes
  have hr := B.returns
  have hts := atoms_spec (ws := wsY) B.pre
  have hown : s.vm.findClass y.cls = some m.cls := findClass_of_methodNamed B.named
  have hI : meth.name = "<init>" := (name_of_methodNamed B.named B.method).1.trans hy1
  have hlk := B.notSynchronized
  have hD := hD0.self (sz := s.heap.size)
  have hl := lv_entry av (n := nL) hav
  rw [lg_entry_eq]
  refine body (p, l, e, rm, s, m, av.toArray, below, meth, c, _, D, cl, va_A w0 s.heap.size) ⟨hx, hb, hml, hown, hts, hK, fun q h => Or.inr h, rfl, rfl, rfl, rfl, hlk⟩ hG hI ?_ s.heap [] _ hP hD va_S.rf (by rw [hml]; exact hl)
  intro u pc lv hdg hp H locs ls hP hD hS hl
  exact W.vret hx hb hr (fun t ht hW => ⟨⟨u, rfl, hp, by rw [ht]; exact hP, va_K.moved hW.alike hK, hD⟩, hS.F ht⟩) hS.2.2 hdg
