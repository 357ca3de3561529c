def vT (X : vCtx) (hh : List (Nat × Nat × Nat × Nat)) : Prop := match X with
  | (_, _, _, _, _, _, _, _, _, c, _, _, _, _) => c.exceptionTable.toList = tableOf hh
/-- an exception of the class E is on its way, in this method, at pc -/
def VX (X : vCtx) (kc kn : Nat) (ws : va_W) (pc : Nat) (lv : List (Nat × Value)) (E : String) : Prop := match X with
  | (p, l, e, R, s, m, args, below, meth, c, Q, D, cl, A) => ∀ (H : Heap) (locs : List Loc) (ls : Array Slot) (q : Nat) (ce : Cell) (rest : List Value), va_P D cl ws H → va_D A ws → va_S A s.heap H locs → lv_has ls c.maxLocals lv → H[q]? = some ce → ce.vm = .none → s.vm.findClass E = some ce.cls → vx_W p l e R s m args below meth c H locs kc kn Q (F0 m pc ls rest) q
def vS (X : vCtx) (b L : Nat) (xs : Nat → Int32) : Prop := match X with
  | (_, _, _, _, s, _, _, _, _, _, _, _, _, A) => va_X b L xs s s.heap ∧ b < s.heap.size ∧ ¬ A b
/-- what a callee made of the first cells stands beside the rest -/
theorem zz_first {A0 : Nat → Prop} {D : va_G} {cl : List vw_C} {ws wc w1 : va_W} {H H1 : Heap} (hP : va_P D cl (wc ++ ws) H) (hD : va_D A0 (wc ++ ws)) (hk : ∀ q : Nat, q < H.size → ¬ va_A wc H.size q → H1[q]? = H[q]?) (hF : ∀ q, va_A wc H.size q → A0 q) (hP1 : va_P D cl w1 H1) (hD1 : va_D (va_A wc H.size) w1) : va_P D cl (w1 ++ ws) H1 ∧ va_D A0 (w1 ++ ws) := by
  have hn : ∀ (k : Nat) (q : Nat × va_E), ws[k]? = some q → q.1 < H.size ∧ ¬ va_A wc H.size q.1 := by
    intro k q hq
    have hlt := (va_P_r hP k q hq).lt
    refine ⟨hlt, fun h => ?_⟩
    rcases h with ⟨j, e, hj⟩ | h
    · have hkl := (List.getElem?_eq_some_iff.mp hj).1
      have e1 := hD.1 (wc.length + k) j q (q.1, e) (by rw [List.getElem?_append_right (by omega), show wc.length + k - wc.length = k by omega]; exact hq) (by rw [List.getElem?_append_left hkl]; exact hj) rfl
      omega
    · omega
  refine ⟨va_P.app hP1 ((va_P_r hP).kept (fun k q hq => hk q.1 (hn k q hq).1 (hn k q hq).2)), va_D.app (hD1.weaken (fun _ _ _ h => hF _ h)) (va_D_r hD) (fun i j p q hp hq e => ?_)⟩
  exact (hn j q hq).2 (by rw [← e]; exact hD1.2 i p hp)
section LR
variable {X : vCtx} {kc kn : Nat} {ws : va_W} {pc : Nat} {lv : List (Nat × Value)} {st : List Value} {cc : ByteArray} {nL : Nat} {Ts : List Cond} {own : String} {cl0 : List vw_C} {D0 : va_G} {tys : List (ClassId × FieldType)} {l0 : Launch} {R0 : Room} {G : gE}
theorem V_catch (C : vC X cc nL Ts own cl0 D0 tys l0 R0) {hh : List (Nat × Nat × Nat × Nat)} (ht : vT X hh) {E name : String} (pre : List ExceptionTableEntry) (x : ExceptionTableEntry) (suf : List ExceptionTableEntry) (hsplit : tableOf hh = pre ++ x :: suf) (hpass : ∀ z ∈ pre, z.catchType ≠ 0 ∧ ∃ nm : String, Cond.classLink own z.catchType nm ∈ Ts ∧ vG X (fun _ U _ => va_Nc E nm U)) (hcv : covers x pc = true) (h0 : x.catchType ≠ 0) (hlink : Cond.classLink own x.catchType name ∈ Ts) (hcast : vG X (fun _ U _ => va_Nw (.castable E name) U)) (k : ∀ q : Nat, V X kc kn ws x.handlerPc lv [.ref q]) : VX X kc kn ws pc lv E := by
  obtain ⟨p, l, e, R, s, m, args, below, meth, c, Q, D, cl, A⟩ := X
  obtain ⟨hx, hb, hml, hown, hts, hK, hA, rfl, rfl, rfl, rfl, hlk⟩ := C
  intro H locs ls q ce rest hP hD hS hl hce hcm hcl
  exact vx_catch hown pre x suf (ht.trans hsplit) (fun z hz => Or.inr (by
    obtain ⟨h1, nm, h2, h3⟩ := hpass z hz
    exact ⟨h1, nm, hts _ h2, h3⟩)) hcv h0 (hts _ hlink) (va_Nw.use rfl hcast) hce hcm hcl (k q H locs ls hP hD hS hl)
theorem V_xcalliV {S : Type} (C : vC X cc nL Ts own cl0 D0 tys l0 R0) (go : gOk G) (hg : vG X G) {y : MethodName} {wsY ws' : List Cond} {rm : Room} {As rest : List Value} {w0 : va_W} {w : S → va_W} {post : Int32 → S → Prop} {px : String → S → Prop} {C9 : String} {index maxL : Nat} {bytes : ByteArray} {ret : Option FieldType} (hdg : decode cc pc = .ok (.invokevirtual index, 3)) (q0 : Nat) {b ci : Nat} {fs : List Value} {T : u_T} {N : Nat} (he : w0[q0]? = some (b, .inr (ci, fs))) (hc : cl0[ci]? = some (C9, T, N)) (hM : xMi l0 D0 cl0 tys G y wsY rm (.ref b :: As) w0 w post px) (hG : GoodIn Ts (wsV own index C9 y wsY)) (hw : wsY = Cond.code y bytes maxL ret :: ws') (n9 : Nat) (hn : As.length = n9) (hd : y.cls = C9 ∧ y.cls ≠ "java/lang/invoke/MethodHandle" ∧ y.cls ≠ "java/lang/invoke/VarHandle" ∧ (parseMethodDescriptor y.desc).map (fun d => d.parameters.length) = some n9) (hR : rm.frames + 1 ≤ R0.frames ∧ 8 + (maxL + 11) + rm.locals ≤ R0.locals) (hcn : kc + rm.cells ≤ R0.cells ∧ kn + rm.slots ≤ R0.slots) (hst : st = As.reverse ++ .ref b :: rest) (hcat : (rest.map fun v => v.category).sum ≤ 8) (kx : ∀ (E : String) (u : S), px E u → VX X (kc + rm.cells) (kn + rm.slots) (ws ++ w u) pc lv E) (k : ∀ (r : Int32) (u : S), post r u → V X (kc + rm.cells) (kn + rm.slots) (ws ++ w u) (pc + 3) lv (.int r :: rest)) : V X kc kn (ws ++ w0) pc lv st := by
  obtain ⟨p, l, e, R, s, m, args, below, meth, c, Q, D, cl, A⟩ := X
  obtain ⟨hx, hb, hml, hown, hts, hK, hA, rfl, rfl, rfl, rfl, hlk⟩ := C
  intro H locs ls hP hD hS hl
  subst hst
  have hFc : ∀ q, va_A w0 H.size q → A q := vFree (D := D) (cl := cl) (va_D_r hD) hS hA
  exact vx_calli (vx_runV (As := As) (rest := rest) ⟨hx, hb, hml, hown, hts⟩ (hM H.size) (cwV n9 hts hG hw rfl rfl hd hR) ⟨gPre_blind go, va_recv hK (va_P_r hP) (q := (C9, T, N)) hc he, fun U hU hW => ⟨rfl, ⟨by rw [hU], by rw [hU]; exact va_P_r hP, va_K.moved hW.alike hK, (va_D_r hD).weaken (fun _ _ _ _ => trivial)⟩, by rw [hU]; exact go.2.2.2 _ _ _ _ hFc (go.1 _ _ _ _ hW (go.2.2.1 _ _ _ _ hS.2.1 hg))⟩⟩ rfl hn (hl.1.trans hml) rfl (lv_room hcat) hdg hcn) hS (fun q _ h => hFc q h) hFc (fun q _ h => hFc q h) (fun E ce q9 u t H1 locs1 ht hvm _ hB hz1 hk1 hS1 hce hcv hcl => (fun J => kx E u hB.1 H1 locs1 ls q9 ce rest J.1 J.2 hS1 hl hce hcv hcl) (zz_last hP hD hk1 hFc (by rw [← ht]; exact hB.2.1) hB.2.2.2)) (fun r u t H1 locs ht hvm hp hB hz1 hk1 hS => (fun J => k r u hp H1 locs ls J.1 J.2 hS hl) (zz_last hP hD hk1 hFc (by rw [← ht]; exact hB.1) hB.2.2))
theorem V_xcalllV {S : Type} (C : vC X cc nL Ts own cl0 D0 tys l0 R0) (go : gOk G) (hg : vG X G) {y : MethodName} {wsY ws' : List Cond} {rm : Room} {As rest : List Value} {w0 : va_W} {w : S → va_W} {post : Int64 → S → Prop} {px : String → S → Prop} {C9 : String} {index maxL : Nat} {bytes : ByteArray} {ret : Option FieldType} (hdg : decode cc pc = .ok (.invokevirtual index, 3)) (q0 : Nat) {b ci : Nat} {fs : List Value} {T : u_T} {N : Nat} (he : w0[q0]? = some (b, .inr (ci, fs))) (hc : cl0[ci]? = some (C9, T, N)) (hM : xMl l0 D0 cl0 tys G y wsY rm (.ref b :: As) w0 w post px) (hG : GoodIn Ts (wsV own index C9 y wsY)) (hw : wsY = Cond.code y bytes maxL ret :: ws') (n9 : Nat) (hn : As.length = n9) (hd : y.cls = C9 ∧ y.cls ≠ "java/lang/invoke/MethodHandle" ∧ y.cls ≠ "java/lang/invoke/VarHandle" ∧ (parseMethodDescriptor y.desc).map (fun d => d.parameters.length) = some n9) (hR : rm.frames + 1 ≤ R0.frames ∧ 8 + (maxL + 11) + rm.locals ≤ R0.locals) (hcn : kc + rm.cells ≤ R0.cells ∧ kn + rm.slots ≤ R0.slots) (hst : st = As.reverse ++ .ref b :: rest) (hcat : (rest.map fun v => v.category).sum ≤ 8) (kx : ∀ (E : String) (u : S), px E u → VX X (kc + rm.cells) (kn + rm.slots) (ws ++ w u) pc lv E) (k : ∀ (r : Int64) (u : S), post r u → V X (kc + rm.cells) (kn + rm.slots) (ws ++ w u) (pc + 3) lv (.long r :: rest)) : V X kc kn (ws ++ w0) pc lv st := by
  obtain ⟨p, l, e, R, s, m, args, below, meth, c, Q, D, cl, A⟩ := X
  obtain ⟨hx, hb, hml, hown, hts, hK, hA, rfl, rfl, rfl, rfl, hlk⟩ := C
  intro H locs ls hP hD hS hl
  subst hst
  have hFc : ∀ q, va_A w0 H.size q → A q := vFree (D := D) (cl := cl) (va_D_r hD) hS hA
  exact vx_calll (vx_runV (As := As) (rest := rest) ⟨hx, hb, hml, hown, hts⟩ (hM H.size) (cwV n9 hts hG hw rfl rfl hd hR) ⟨gPre_blind go, va_recv hK (va_P_r hP) (q := (C9, T, N)) hc he, fun U hU hW => ⟨rfl, ⟨by rw [hU], by rw [hU]; exact va_P_r hP, va_K.moved hW.alike hK, (va_D_r hD).weaken (fun _ _ _ _ => trivial)⟩, by rw [hU]; exact go.2.2.2 _ _ _ _ hFc (go.1 _ _ _ _ hW (go.2.2.1 _ _ _ _ hS.2.1 hg))⟩⟩ rfl hn (hl.1.trans hml) rfl (lv_room hcat) hdg hcn) hS (fun q _ h => hFc q h) hFc (fun q _ h => hFc q h) (fun E ce q9 u t H1 locs1 ht hvm _ hB hz1 hk1 hS1 hce hcv hcl => (fun J => kx E u hB.1 H1 locs1 ls q9 ce rest J.1 J.2 hS1 hl hce hcv hcl) (zz_last hP hD hk1 hFc (by rw [← ht]; exact hB.2.1) hB.2.2.2)) (fun r u t H1 locs ht hvm hp hB hz1 hk1 hS => (fun J => k r u hp H1 locs ls J.1 J.2 hS hl) (zz_last hP hD hk1 hFc (by rw [← ht]; exact hB.1) hB.2.2))
theorem V_xcallvV {S : Type} (C : vC X cc nL Ts own cl0 D0 tys l0 R0) (go : gOk G) (hg : vG X G) {y : MethodName} {wsY ws' : List Cond} {rm : Room} {As rest : List Value} {w0 : va_W} {w : S → va_W} {post : S → Prop} {px : String → S → Prop} {C9 : String} {index maxL : Nat} {bytes : ByteArray} {ret : Option FieldType} (hdg : decode cc pc = .ok (.invokevirtual index, 3)) (q0 : Nat) {b ci : Nat} {fs : List Value} {T : u_T} {N : Nat} (he : w0[q0]? = some (b, .inr (ci, fs))) (hc : cl0[ci]? = some (C9, T, N)) (hM : xMv l0 D0 cl0 tys G y wsY rm (.ref b :: As) w0 w post px) (hG : GoodIn Ts (wsV own index C9 y wsY)) (hw : wsY = Cond.code y bytes maxL ret :: ws') (n9 : Nat) (hn : As.length = n9) (hd : y.cls = C9 ∧ y.cls ≠ "java/lang/invoke/MethodHandle" ∧ y.cls ≠ "java/lang/invoke/VarHandle" ∧ (parseMethodDescriptor y.desc).map (fun d => d.parameters.length) = some n9) (hR : rm.frames + 1 ≤ R0.frames ∧ 8 + (maxL + 11) + rm.locals ≤ R0.locals) (hcn : kc + rm.cells ≤ R0.cells ∧ kn + rm.slots ≤ R0.slots) (hst : st = As.reverse ++ .ref b :: rest) (hcat : (rest.map fun v => v.category).sum ≤ 8) (kx : ∀ (E : String) (u : S), px E u → VX X (kc + rm.cells) (kn + rm.slots) (ws ++ w u) pc lv E) (k : ∀ u : S, post u → V X (kc + rm.cells) (kn + rm.slots) (ws ++ w u) (pc + 3) lv rest) : V X kc kn (ws ++ w0) pc lv st := by
  obtain ⟨p, l, e, R, s, m, args, below, meth, c, Q, D, cl, A⟩ := X
  obtain ⟨hx, hb, hml, hown, hts, hK, hA, rfl, rfl, rfl, rfl, hlk⟩ := C
  intro H locs ls hP hD hS hl
  subst hst
  have hFc : ∀ q, va_A w0 H.size q → A q := vFree (D := D) (cl := cl) (va_D_r hD) hS hA
  exact vx_callv (vx_runV (As := As) (rest := rest) ⟨hx, hb, hml, hown, hts⟩ (hM H.size) (cwV n9 hts hG hw rfl rfl hd hR) ⟨gPre_blind go, va_recv hK (va_P_r hP) (q := (C9, T, N)) hc he, fun U hU hW => ⟨rfl, ⟨by rw [hU], by rw [hU]; exact va_P_r hP, va_K.moved hW.alike hK, (va_D_r hD).weaken (fun _ _ _ _ => trivial)⟩, by rw [hU]; exact go.2.2.2 _ _ _ _ hFc (go.1 _ _ _ _ hW (go.2.2.1 _ _ _ _ hS.2.1 hg))⟩⟩ rfl hn (hl.1.trans hml) rfl (lv_room hcat) hdg hcn) hS (fun q _ h => hFc q h) hFc (fun q _ h => hFc q h) (fun E ce q9 u t H1 locs1 ht hvm _ hB hz1 hk1 hS1 hce hcv hcl => (fun J => kx E u hB.1 H1 locs1 ls q9 ce rest J.1 J.2 hS1 hl hce hcv hcl) (zz_last hP hD hk1 hFc (by rw [← ht]; exact hB.2.1) hB.2.2.2)) (fun u t H1 locs ht hvm hp hB hz1 hk1 hS => (fun J => k u hp H1 locs ls J.1 J.2 hS hl) (zz_last hP hD hk1 hFc (by rw [← ht]; exact hB.1) hB.2.2))
/-- a static helper with a table of its own, over the last cells -/
theorem V_hcall {S : Type} (C : vC X cc nL Ts own cl0 D0 tys l0 R0) (go : gOk G) (hg : vG X G) {y : MethodName} {wsY ws' : List Cond} {rm : Room} {As rest : List Value} {w0 : va_W} {w : S → va_W} {post : Int32 → S → Prop} {index maxL : Nat} {bytes : ByteArray} {ret : Option FieldType} {hh : List (Nat × Nat × Nat × Nat)} (hdg : decode cc pc = .ok (.invokestatic index, 3)) (hM : gMi l0 D0 cl0 tys G y wsY rm As w0 w post) (hG : GoodIn Ts (va_wsS own index y wsY)) (hw : wsY = Cond.codeWith y bytes maxL ret hh :: ws') (n9 : Nat) (hn : As.length = n9) (hd : y.cls ≠ "java/lang/invoke/MethodHandle" ∧ y.cls ≠ "java/lang/invoke/VarHandle" ∧ (parseMethodDescriptor y.desc).map (fun d => d.parameters.length) = some n9) (hR : rm.frames + 1 ≤ R0.frames ∧ 8 + (maxL + 11) + rm.locals ≤ R0.locals) (hcn : kc + rm.cells ≤ R0.cells ∧ kn + rm.slots ≤ R0.slots) (hst : st = As.reverse ++ rest) (hcat : (rest.map fun v => v.category).sum ≤ 8) (k : ∀ (r : Int32) (u : S), post r u → V X (kc + rm.cells) (kn + rm.slots) (ws ++ w u) (pc + 3) lv (.int r :: rest)) : V X kc kn (ws ++ w0) pc lv st := by
  obtain ⟨p, l, e, R, s, m, args, below, meth, c, Q, D, cl, A⟩ := X
  obtain ⟨hx, hb, hml, hown, hts, hK, hA, rfl, rfl, rfl, rfl, hlk⟩ := C
  intro H locs ls hP hD hS hl
  subst hst
  have hFc : ∀ q, va_A w0 H.size q → A q := vFree (D := D) (cl := cl) (va_D_r hD) hS hA
  exact va_calli (vx_runSW (As := As) (rest := rest) ⟨hx, hb, hml, hown, hts⟩ (hM H.size) (vx_cwSW n9 hts hG hw rfl rfl hd hR) ⟨gPre_blind go, fun U hU hW => ⟨rfl, ⟨by rw [hU], by rw [hU]; exact va_P_r hP, va_K.moved hW.alike hK, (va_D_r hD).weaken (fun _ _ _ _ => trivial)⟩, by rw [hU]; exact go.2.2.2 _ _ _ _ hFc (go.1 _ _ _ _ hW (go.2.2.1 _ _ _ _ hS.2.1 hg))⟩⟩ rfl hn (hl.1.trans hml) rfl (lv_room hcat) hdg hcn) hS (fun q _ h => hFc q h) hFc (fun r u t H1 locs ht hvm hp hB hz1 hk1 hS => (fun J => k r u hp H1 locs ls J.1 J.2 hS hl) (zz_last hP hD hk1 hFc (by rw [← ht]; exact hB.1) hB.2.2))
theorem V_fcalliV {S : Type} (C : vC X cc nL Ts own cl0 D0 tys l0 R0) {y : MethodName} {wsY ws' : List Cond} {rm : Room} {As rest : List Value} {w0 : va_W} {w : S → va_W} {post : Int32 → S → Prop} {C9 : String} {index maxL : Nat} {bytes : ByteArray} {ret : Option FieldType} (hdg : decode cc pc = .ok (.invokevirtual index, 3)) (q0 : Nat) {b ci : Nat} {fs : List Value} {T : u_T} {N : Nat} (he : w0[q0]? = some (b, .inr (ci, fs))) (hc : cl0[ci]? = some (C9, T, N)) (hM : vMi l0 D0 cl0 tys y wsY rm (.ref b :: As) w0 w post) (hG : GoodIn Ts (wsV own index C9 y wsY)) (hw : wsY = Cond.code y bytes maxL ret :: ws') (n9 : Nat) (hn : As.length = n9) (hd : y.cls = C9 ∧ y.cls ≠ "java/lang/invoke/MethodHandle" ∧ y.cls ≠ "java/lang/invoke/VarHandle" ∧ (parseMethodDescriptor y.desc).map (fun d => d.parameters.length) = some n9) (hR : rm.frames + 1 ≤ R0.frames ∧ 8 + (maxL + 11) + rm.locals ≤ R0.locals) (hcn : kc + rm.cells ≤ R0.cells ∧ kn + rm.slots ≤ R0.slots) (hst : st = As.reverse ++ .ref b :: rest) (hcat : (rest.map fun v => v.category).sum ≤ 8) (k : ∀ (r : Int32) (u : S), post r u → V X (kc + rm.cells) (kn + rm.slots) (w u ++ ws) (pc + 3) lv (.int r :: rest)) : V X kc kn (w0 ++ ws) pc lv st := by
  obtain ⟨p, l, e, R, s, m, args, below, meth, c, Q, D, cl, A⟩ := X
  obtain ⟨hx, hb, hml, hown, hts, hK, hA, rfl, rfl, rfl, rfl, hlk⟩ := C
  intro H locs ls hP hD hS hl
  subst hst
  have hFc : ∀ q, va_A w0 H.size q → A q := vFree (D := D) (cl := cl) (va_D_l hD) hS hA
  exact va_calli (va_runV (As := As) (rest := rest) ⟨hx, hb, hml, hown, hts⟩ (hM H.size) (cwV n9 hts hG hw rfl rfl hd hR) ⟨vPre_blind, va_recv hK (va_P_l hP) (q := (C9, T, N)) hc he, fun U hU hW => ⟨rfl, by rw [hU], by rw [hU]; exact va_P_l hP, va_K.moved hW.alike hK, (va_D_l hD).weaken (fun _ _ _ _ => trivial)⟩⟩ rfl hn (hl.1.trans hml) rfl (lv_room hcat) hdg hcn) hS (fun q _ h => hFc q h) hFc (fun r u t H1 locs ht hvm hp hB hz1 hk1 hS => (fun J => k r u hp H1 locs ls J.1 J.2 hS hl) (zz_first hP hD hk1 hFc (by rw [← ht]; exact hB.1) hB.2.2))
theorem V_fcalllV {S : Type} (C : vC X cc nL Ts own cl0 D0 tys l0 R0) {y : MethodName} {wsY ws' : List Cond} {rm : Room} {As rest : List Value} {w0 : va_W} {w : S → va_W} {post : Int64 → S → Prop} {C9 : String} {index maxL : Nat} {bytes : ByteArray} {ret : Option FieldType} (hdg : decode cc pc = .ok (.invokevirtual index, 3)) (q0 : Nat) {b ci : Nat} {fs : List Value} {T : u_T} {N : Nat} (he : w0[q0]? = some (b, .inr (ci, fs))) (hc : cl0[ci]? = some (C9, T, N)) (hM : vMl l0 D0 cl0 tys y wsY rm (.ref b :: As) w0 w post) (hG : GoodIn Ts (wsV own index C9 y wsY)) (hw : wsY = Cond.code y bytes maxL ret :: ws') (n9 : Nat) (hn : As.length = n9) (hd : y.cls = C9 ∧ y.cls ≠ "java/lang/invoke/MethodHandle" ∧ y.cls ≠ "java/lang/invoke/VarHandle" ∧ (parseMethodDescriptor y.desc).map (fun d => d.parameters.length) = some n9) (hR : rm.frames + 1 ≤ R0.frames ∧ 8 + (maxL + 11) + rm.locals ≤ R0.locals) (hcn : kc + rm.cells ≤ R0.cells ∧ kn + rm.slots ≤ R0.slots) (hst : st = As.reverse ++ .ref b :: rest) (hcat : (rest.map fun v => v.category).sum ≤ 8) (k : ∀ (r : Int64) (u : S), post r u → V X (kc + rm.cells) (kn + rm.slots) (w u ++ ws) (pc + 3) lv (.long r :: rest)) : V X kc kn (w0 ++ ws) pc lv st := by
  obtain ⟨p, l, e, R, s, m, args, below, meth, c, Q, D, cl, A⟩ := X
  obtain ⟨hx, hb, hml, hown, hts, hK, hA, rfl, rfl, rfl, rfl, hlk⟩ := C
  intro H locs ls hP hD hS hl
  subst hst
  have hFc : ∀ q, va_A w0 H.size q → A q := vFree (D := D) (cl := cl) (va_D_l hD) hS hA
  exact va_calll (va_runV (As := As) (rest := rest) ⟨hx, hb, hml, hown, hts⟩ (hM H.size) (cwV n9 hts hG hw rfl rfl hd hR) ⟨vPre_blind, va_recv hK (va_P_l hP) (q := (C9, T, N)) hc he, fun U hU hW => ⟨rfl, by rw [hU], by rw [hU]; exact va_P_l hP, va_K.moved hW.alike hK, (va_D_l hD).weaken (fun _ _ _ _ => trivial)⟩⟩ rfl hn (hl.1.trans hml) rfl (lv_room hcat) hdg hcn) hS (fun q _ h => hFc q h) hFc (fun r u t H1 locs ht hvm hp hB hz1 hk1 hS => (fun J => k r u hp H1 locs ls J.1 J.2 hS hl) (zz_first hP hD hk1 hFc (by rw [← ht]; exact hB.1) hB.2.2))
theorem V_fcallvV {S : Type} (C : vC X cc nL Ts own cl0 D0 tys l0 R0) {y : MethodName} {wsY ws' : List Cond} {rm : Room} {As rest : List Value} {w0 : va_W} {w : S → va_W} {post : S → Prop} {C9 : String} {index maxL : Nat} {bytes : ByteArray} {ret : Option FieldType} (hdg : decode cc pc = .ok (.invokevirtual index, 3)) (q0 : Nat) {b ci : Nat} {fs : List Value} {T : u_T} {N : Nat} (he : w0[q0]? = some (b, .inr (ci, fs))) (hc : cl0[ci]? = some (C9, T, N)) (hM : vMv l0 D0 cl0 tys y wsY rm (.ref b :: As) w0 w post) (hG : GoodIn Ts (wsV own index C9 y wsY)) (hw : wsY = Cond.code y bytes maxL ret :: ws') (n9 : Nat) (hn : As.length = n9) (hd : y.cls = C9 ∧ y.cls ≠ "java/lang/invoke/MethodHandle" ∧ y.cls ≠ "java/lang/invoke/VarHandle" ∧ (parseMethodDescriptor y.desc).map (fun d => d.parameters.length) = some n9) (hR : rm.frames + 1 ≤ R0.frames ∧ 8 + (maxL + 11) + rm.locals ≤ R0.locals) (hcn : kc + rm.cells ≤ R0.cells ∧ kn + rm.slots ≤ R0.slots) (hst : st = As.reverse ++ .ref b :: rest) (hcat : (rest.map fun v => v.category).sum ≤ 8) (k : ∀ u : S, post u → V X (kc + rm.cells) (kn + rm.slots) (w u ++ ws) (pc + 3) lv rest) : V X kc kn (w0 ++ ws) pc lv st := by
  obtain ⟨p, l, e, R, s, m, args, below, meth, c, Q, D, cl, A⟩ := X
  obtain ⟨hx, hb, hml, hown, hts, hK, hA, rfl, rfl, rfl, rfl, hlk⟩ := C
  intro H locs ls hP hD hS hl
  subst hst
  have hFc : ∀ q, va_A w0 H.size q → A q := vFree (D := D) (cl := cl) (va_D_l hD) hS hA
  exact va_callv (va_runV (As := As) (rest := rest) ⟨hx, hb, hml, hown, hts⟩ (hM H.size) (cwV n9 hts hG hw rfl rfl hd hR) ⟨vPre_blind, va_recv hK (va_P_l hP) (q := (C9, T, N)) hc he, fun U hU hW => ⟨rfl, by rw [hU], by rw [hU]; exact va_P_l hP, va_K.moved hW.alike hK, (va_D_l hD).weaken (fun _ _ _ _ => trivial)⟩⟩ rfl hn (hl.1.trans hml) rfl (lv_room hcat) hdg hcn) hS (fun q _ h => hFc q h) hFc (fun u t H1 locs ht hvm hp hB hz1 hk1 hS => (fun J => k u hp H1 locs ls J.1 J.2 hS hl) (zz_first hP hD hk1 hFc (by rw [← ht]; exact hB.1) hB.2.2))
theorem V_sld (C : vC X cc nL Ts own cl0 D0 tys l0 R0) {b L : Nat} {xs : Nat → Int32} (hs : vS X b L xs) {i : Int32} (hdg : decode cc pc = .ok (.iaload, 1)) (hin : vp_in i L) (k : V X kc kn ws (pc + 1) lv (.int (xs i.toNatClampNeg) :: st)) : V X kc kn ws pc lv (.int i :: .ref b :: st) := by
  obtain ⟨p, l, e, R, s, m, args, below, meth, c, Q, D, cl, A⟩ := X
  obtain ⟨hx, hb, hml, hown, hts, hK, hA, rfl, rfl, rfl, rfl, hlk⟩ := C
  intro H locs ls hP hD hS hl
  exact va_sld hx hb hs.1 hs.2.1 hs.2.2 hS hin hdg (k H locs ls hP hD hS hl)
theorem V_slen (C : vC X cc nL Ts own cl0 D0 tys l0 R0) {b L : Nat} {xs : Nat → Int32} (hs : vS X b L xs) (hdg : decode cc pc = .ok (.arraylength, 1)) (k : V X kc kn ws (pc + 1) lv (.int (Int32.ofNat L) :: st)) : V X kc kn ws pc lv (.ref b :: st) := by
  obtain ⟨p, l, e, R, s, m, args, below, meth, c, Q, D, cl, A⟩ := X
  obtain ⟨hx, hb, hml, hown, hts, hK, hA, rfl, rfl, rfl, rfl, hlk⟩ := C
  intro H locs ls hP hD hS hl
  exact va_slen hx hb hs.1 hs.2.1 hs.2.2 hS hdg (k H locs ls hP hD hS hl)
theorem V_swap {a b c9 : va_W} (k : V X kc kn ((a ++ c9) ++ b) pc lv st) : V X kc kn ((a ++ b) ++ c9) pc lv st := by
  obtain ⟨p, l, e, R, s, m, args, below, meth, c, Q, D, cl, A⟩ := X
  intro H locs ls hP hD hS hl
  exact k H locs ls hP.swap hD.swap hS hl
end LR
theorem lMi_of {S : Type} {rt : FieldType} {l : Launch} {D : va_G} {cl : List vw_C} {tys : List (ClassId × FieldType)} {G : gE} {y : MethodName} {wsY ws' : List Cond} {rm : Room} {av : List Value} {w0 : va_W} {w : S → va_W} {post : Int32 → S → Prop} {cc : ByteArray} {nL : Nat} {hh : List (Nat × Nat × Nat × Nat)} (hy : plainName y.cls = true) (hw : wsY = Cond.codeWith y cc nL (some rt) hh :: ws') (hav : (lg_sl av).length ≤ nL)
    (body : ∀ X : vCtx, vC X cc nL wsY y.cls cl D tys l rm → vG X G → vT X hh → (∀ (r : Int32) (u : S) (pc : Nat) (lv : List (Nat × Value)), decode cc pc = .ok (.ireturn, 1) → narrow rt (.int r) = .int r → post r u → V X rm.cells rm.slots (w u) pc lv [.int r]) → V X 0 0 w0 0 (lv_args 0 av) []) : gMi l D cl tys G y wsY rm av w0 w post := by
  intro sz
  refine va_MetW (cc := cc) (maxL := nL) (ret := some rt) (hh := hh) hy hw ?_
  intro p e s m args below meth c s₁ B hml hv
  obtain ⟨rfl, ⟨hsz, hP, hK, hD0⟩, hG⟩ := hv
  subst hsz
  have hx := B.exec
  have hb := B.bytes
  have hr := B.returns
  have hts := atoms_spec (ws := wsY) B.pre
  have hown : s.vm.findClass y.cls = some m.cls := findClass_of_methodNamed B.named
  have htb : c.exceptionTable.toList = tableOf hh := vx_table (x := y) B (hts _ (by rw [hw]; exact List.mem_cons_self))
  have hlk := B.notSynchronized
  have hD := hD0.self (sz := s.heap.size)
  have hl := lv_entry av (n := nL) hav
  rw [lg_entry_eq]
  refine body (p, l, e, rm, s, m, av.toArray, below, meth, c, _, D, cl, va_A w0 s.heap.size) ⟨hx, hb, hml, hown, hts, hK, fun q h => Or.inr h, rfl, rfl, rfl, rfl, hlk⟩ hG htb ?_ s.heap [] _ hP hD va_S.rf (by rw [hml]; exact hl)
  intro r u pc lv hdg hn hp H locs ls hP hD hS hl
  exact W.zret hx hb hr hn (fun t ht hW => ⟨⟨r, u, rfl, hp, by rw [ht]; exact hP, va_K.moved hW.alike hK, hD⟩, hS.F ht⟩) hS.2.2 hdg
