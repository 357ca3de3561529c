def xNms : List String := ["java/lang/RuntimeException", "java/lang/Exception"]
def xStr : List (Nat × String) := [(51, "no such operation"), (56, "no such predicate"), (64, "the draft is full"), (87, "the draft has a fault or is empty"), (98, "no such what"), (100, "no such budget"), (106, "there is nothing to run"), (111, "no static register that can be set"), (121, "no such register now"), (146, "no such cell"), (190, "no such place of the row")]
def xCls : List (Nat × String) := [(53, "java/lang/IllegalArgumentException"), (66, "java/lang/IllegalStateException")]
/-- what a throw needs of the environment -/
def gXc (G : gE) : Prop := ∀ (A : Nat → Prop) (U : State) (H : Heap), G A U H → (∀ c ∈ xCls, ∀ w ∈ (vx_atS RX7 c.1 c.2 xNms).filter (fun w => !goodWord w), va_Nw w U) ∧ (∀ x ∈ xStr, ∃ sa : Nat, vk_R RX7 x.1 x.2 sa U) ∧ vx_Zq Bundle.tN "UNASSIGNED_STACK" Bundle.steD A U H ∧ vx_Zq Bundle.tN "SUPPRESSED_SENTINEL" Bundle.listD A U H
theorem xGood : ∀ c ∈ xCls, ∀ w ∈ vx_atS RX7 c.1 c.2 xNms, vx_ot w = true := by decide +kernel
theorem xFit : ∀ c ∈ xCls, Bundle.fit c.2 = true := by decide +kernel
theorem xFitN : ∀ n ∈ xNms, Bundle.fit n = true := by decide +kernel
section XE
def xMi {S : Type} (l : Launch) (D : va_G) (cl : List vw_C) (tys : List (ClassId × FieldType)) (G : gE) (y : MethodName) (wsY : List Cond) (rm : Room) (av : List Value) (w0 : va_W) (w : S → va_W) (post : Int32 → S → Prop) (px : String → S → Prop) : Prop := ∀ sz : Nat, vx_Met l y wsY rm (va_Pc av (fun U => vPre D cl tys w0 sz U ∧ G (va_A w0 sz) U U.heap)) (va_Qi post (vPost D cl tys w (va_A w0 sz)) (va_A w0 sz)) (vx_X (fun _ : S => True) (fun E u t => px E u ∧ vPost D cl tys w (va_A w0 sz) u t) (va_A w0 sz)) rm.cells rm.slots (va_A w0 sz)
theorem xMi_of {S : Type} {rt : FieldType} {l : Launch} {D : va_G} {cl : List vw_C} {tys : List (ClassId × FieldType)} {G : gE} {y : MethodName} {wsY ws' : List Cond} {rm : Room} {av : List Value} {w0 : va_W} {w : S → va_W} {post : Int32 → S → Prop} {px : String → S → Prop} {cc : ByteArray} {nL : Nat} (hy : plainName y.cls = true) (hyc : y.cls = RX7) (hw : wsY = Cond.code y cc nL (some rt) :: ws') (hav : (lg_sl av).length ≤ nL) (gx : gXc G) (hlf : l.stackTraces = false) (hrm : 5 < rm.frames ∧ 82 ≤ rm.locals ∧ 1 ≤ rm.cells ∧ 6 ≤ rm.slots)
    (body : ∀ X : vCtx, vC X cc nL wsY y.cls cl D tys l rm → vG X G → (∀ (r : Int32) (u : S) (pc : Nat) (lv : List (Nat × Value)), decode cc pc = .ok (.ireturn, 1) → narrow rt (.int r) = .int r → post r u → V X rm.cells rm.slots (w u) pc lv [.int r]) → (∀ (u : S) (pc : Nat) (lv : List (Nat × Value)) (st : List Value) (ik is ic : Nat) (cls text : String), decode cc pc = .ok (.new ik, 3) → decode cc (pc + 3) = .ok (.dup, 1) → decode cc (pc + 4) = .ok (.ldc is, 2) → decode cc (pc + 6) = .ok (.invokespecial ic, 3) → decode cc (pc + 9) = .ok (.athrow, 1) → (ic, cls) ∈ xCls → (is, text) ∈ xStr → Cond.classLink RX7 ik cls ∈ wsY → Cond.initialized cls ∈ wsY → (∀ w ∈ (vx_atS RX7 ic cls xNms).filter goodWord, w ∈ wsY) → (st.map fun v => v.category).sum = 0 → px cls u → V X 0 0 (w u) pc lv st) → V X 0 0 w0 0 (lv_args 0 av) []) : xMi l D cl tys G y wsY rm av w0 w post px := by
  intro sz
  refine vx_ofW (cc := cc) (maxL := nL) (ret := (some rt)) hy hw ?_
  intro p e s m args below meth c s₁ B hml htab hv
  obtain ⟨rfl, ⟨hsz, hP, hK, hD0⟩, hG⟩ := hv
  subst hsz
  have hx := B.exec
  have hb := B.bytes
  have hr := B.returns
  have hts := atoms_spec (ws := wsY) B.pre
  have hown : s.vm.findClass y.cls = some m.cls := findClass_of_methodNamed B.named
  have hlk := B.notSynchronized
  have hD := hD0.self (sz := s.heap.size)
  have hl := lv_entry av (n := nL) hav
  rw [lg_entry_eq]
  refine body (p, l, e, rm, s, m, av.toArray, below, meth, c, _, D, cl, va_A w0 s.heap.size) ⟨hx, hb, hml, hown, hts, hK, fun q h => Or.inr h, rfl, rfl, rfl, rfl, hlk⟩ hG ?_ ?_ s.heap [] _ hP hD va_S.rf (by rw [hml]; exact hl)
  · intro r u pc lv hdg hn hp H locs ls hP hD hS hl
    exact vx_ret (W.zret hx hb hr hn (fun t ht hW => ⟨⟨r, u, rfl, hp, by rw [ht]; exact hP, va_K.moved hW.alike hK, hD⟩, hS.F ht⟩) hS.2.2 hdg)
  · intro u pc lv st ik is ic cls text d0 d3 d4 d6 d9 hcl hst hck hci hwd hst0 hpx H locs ls hP hD hS hl
    obtain ⟨g1, g2, g3, g4⟩ := gx _ _ _ hG
    obtain ⟨sa, hsa⟩ := g2 _ hst
    have hgd := xGood _ hcl
    have hown2 : s.vm.findClass RX7 = some m.cls := by rw [← hyc]; exact hown
    refine vx_throwS (names := xNms) (own := RX7) (text := text) (sa := sa) (A := va_A w0 s.heap.size) hx hb hlf hown2 (xFit _ hcl) xFitN (hts _ hck) (hts _ hci) hsa ?_ ?_ g3 g4 hS hl.1 d0 d3 d4 d6 d9 (fun x hx9 => (htab x hx9).elim) (by show 2 + 3 < _; exact hrm.1) (by show (st.map fun v => v.category).sum + (13 * 3 + 43) ≤ _; rw [hst0]; exact hrm.2.1) (by rw [Nat.zero_add]; exact hrm.2.2.1) (by rw [Nat.zero_add]; exact hrm.2.2.2) hlk ?_ hS.2.2 (by rw [Nat.zero_add]; exact hrm.2.2.1) (by rw [Nat.zero_add]; exact hrm.2.2.2)
    · intro w9 hw9
      by_cases hg9 : goodWord w9 = true
      · exact hts _ (hwd w9 (List.mem_filter.mpr ⟨hw9, hg9⟩))
      · have h1 : va_Nw w9 s := g1 _ hcl w9 (List.mem_filter.mpr ⟨hw9, by cases h : goodWord w9; rfl; exact absurd h hg9⟩)
        have h2 := hgd w9 hw9
        simp only [vx_ot, Bool.or_eq_true] at h2
        rcases h2 with h2 | h2
        · exact va_Nw.use h2 h1
        · exact absurd h2 hg9
    · intro w9 hw9
      rcases List.mem_cons.mp hw9 with q | q
      · rw [q]; rfl
      · rcases List.mem_cons.mp q with q | q
        · rw [q]; rfl
        · exact hgd w9 q
    · intro t hvm hsz hk
      refine ⟨u, trivial, ⟨hpx, hP.kept (fun k q hq => hk q.1 (hP k q hq).lt), va_K.moved hvm hK, hD⟩, Nat.le_trans hS.1 hsz, fun q h1 h2 => ?_⟩
      rw [hk q (Nat.lt_of_lt_of_le h1 hS.1)]
      exact hS.2.1 q h1 h2
def xMl {S : Type} (l : Launch) (D : va_G) (cl : List vw_C) (tys : List (ClassId × FieldType)) (G : gE) (y : MethodName) (wsY : List Cond) (rm : Room) (av : List Value) (w0 : va_W) (w : S → va_W) (post : Int64 → S → Prop) (px : String → S → Prop) : Prop := ∀ sz : Nat, vx_Met l y wsY rm (va_Pc av (fun U => vPre D cl tys w0 sz U ∧ G (va_A w0 sz) U U.heap)) (va_Ql post (vPost D cl tys w (va_A w0 sz)) (va_A w0 sz)) (vx_X (fun _ : S => True) (fun E u t => px E u ∧ vPost D cl tys w (va_A w0 sz) u t) (va_A w0 sz)) rm.cells rm.slots (va_A w0 sz)
theorem xMl_of {S : Type} {l : Launch} {D : va_G} {cl : List vw_C} {tys : List (ClassId × FieldType)} {G : gE} {y : MethodName} {wsY ws' : List Cond} {rm : Room} {av : List Value} {w0 : va_W} {w : S → va_W} {post : Int64 → S → Prop} {px : String → S → Prop} {cc : ByteArray} {nL : Nat} (hy : plainName y.cls = true) (hyc : y.cls = RX7) (hw : wsY = Cond.code y cc nL (some .long) :: ws') (hav : (lg_sl av).length ≤ nL) (gx : gXc G) (hlf : l.stackTraces = false) (hrm : 5 < rm.frames ∧ 82 ≤ rm.locals ∧ 1 ≤ rm.cells ∧ 6 ≤ rm.slots)
    (body : ∀ X : vCtx, vC X cc nL wsY y.cls cl D tys l rm → vG X G → (∀ (r : Int64) (u : S) (pc : Nat) (lv : List (Nat × Value)), decode cc pc = .ok (.lreturn, 1) → post r u → V X rm.cells rm.slots (w u) pc lv [.long r]) → (∀ (u : S) (pc : Nat) (lv : List (Nat × Value)) (st : List Value) (ik is ic : Nat) (cls text : String), decode cc pc = .ok (.new ik, 3) → decode cc (pc + 3) = .ok (.dup, 1) → decode cc (pc + 4) = .ok (.ldc is, 2) → decode cc (pc + 6) = .ok (.invokespecial ic, 3) → decode cc (pc + 9) = .ok (.athrow, 1) → (ic, cls) ∈ xCls → (is, text) ∈ xStr → Cond.classLink RX7 ik cls ∈ wsY → Cond.initialized cls ∈ wsY → (∀ w ∈ (vx_atS RX7 ic cls xNms).filter goodWord, w ∈ wsY) → (st.map fun v => v.category).sum = 0 → px cls u → V X 0 0 (w u) pc lv st) → V X 0 0 w0 0 (lv_args 0 av) []) : xMl l D cl tys G y wsY rm av w0 w post px := by
  intro sz
  refine vx_ofW (cc := cc) (maxL := nL) (ret := (some .long)) hy hw ?_
  intro p e s m args below meth c s₁ B hml htab hv
  obtain ⟨rfl, ⟨hsz, hP, hK, hD0⟩, hG⟩ := hv
  subst hsz
  have hx := B.exec
  have hb := B.bytes
  have hr := B.returns
  have hts := atoms_spec (ws := wsY) B.pre
  have hown : s.vm.findClass y.cls = some m.cls := findClass_of_methodNamed B.named
  have hlk := B.notSynchronized
  have hD := hD0.self (sz := s.heap.size)
  have hl := lv_entry av (n := nL) hav
  rw [lg_entry_eq]
  refine body (p, l, e, rm, s, m, av.toArray, below, meth, c, _, D, cl, va_A w0 s.heap.size) ⟨hx, hb, hml, hown, hts, hK, fun q h => Or.inr h, rfl, rfl, rfl, rfl, hlk⟩ hG ?_ ?_ s.heap [] _ hP hD va_S.rf (by rw [hml]; exact hl)
  · intro r u pc lv hdg hp H locs ls hP hD hS hl
    exact vx_ret (W.lret hx hb hr (fun t ht hW => ⟨⟨r, u, rfl, hp, by rw [ht]; exact hP, va_K.moved hW.alike hK, hD⟩, hS.F ht⟩) hS.2.2 hdg)
  · intro u pc lv st ik is ic cls text d0 d3 d4 d6 d9 hcl hst hck hci hwd hst0 hpx H locs ls hP hD hS hl
    obtain ⟨g1, g2, g3, g4⟩ := gx _ _ _ hG
    obtain ⟨sa, hsa⟩ := g2 _ hst
    have hgd := xGood _ hcl
    have hown2 : s.vm.findClass RX7 = some m.cls := by rw [← hyc]; exact hown
    refine vx_throwS (names := xNms) (own := RX7) (text := text) (sa := sa) (A := va_A w0 s.heap.size) hx hb hlf hown2 (xFit _ hcl) xFitN (hts _ hck) (hts _ hci) hsa ?_ ?_ g3 g4 hS hl.1 d0 d3 d4 d6 d9 (fun x hx9 => (htab x hx9).elim) (by show 2 + 3 < _; exact hrm.1) (by show (st.map fun v => v.category).sum + (13 * 3 + 43) ≤ _; rw [hst0]; exact hrm.2.1) (by rw [Nat.zero_add]; exact hrm.2.2.1) (by rw [Nat.zero_add]; exact hrm.2.2.2) hlk ?_ hS.2.2 (by rw [Nat.zero_add]; exact hrm.2.2.1) (by rw [Nat.zero_add]; exact hrm.2.2.2)
    · intro w9 hw9
      by_cases hg9 : goodWord w9 = true
      · exact hts _ (hwd w9 (List.mem_filter.mpr ⟨hw9, hg9⟩))
      · have h1 : va_Nw w9 s := g1 _ hcl w9 (List.mem_filter.mpr ⟨hw9, by cases h : goodWord w9; rfl; exact absurd h hg9⟩)
        have h2 := hgd w9 hw9
        simp only [vx_ot, Bool.or_eq_true] at h2
        rcases h2 with h2 | h2
        · exact va_Nw.use h2 h1
        · exact absurd h2 hg9
    · intro w9 hw9
      rcases List.mem_cons.mp hw9 with q | q
      · rw [q]; rfl
      · rcases List.mem_cons.mp q with q | q
        · rw [q]; rfl
        · exact hgd w9 q
    · intro t hvm hsz hk
      refine ⟨u, trivial, ⟨hpx, hP.kept (fun k q hq => hk q.1 (hP k q hq).lt), va_K.moved hvm hK, hD⟩, Nat.le_trans hS.1 hsz, fun q h1 h2 => ?_⟩
      rw [hk q (Nat.lt_of_lt_of_le h1 hS.1)]
      exact hS.2.1 q h1 h2
def xMv {S : Type} (l : Launch) (D : va_G) (cl : List vw_C) (tys : List (ClassId × FieldType)) (G : gE) (y : MethodName) (wsY : List Cond) (rm : Room) (av : List Value) (w0 : va_W) (w : S → va_W) (post : S → Prop) (px : String → S → Prop) : Prop := ∀ sz : Nat, vx_Met l y wsY rm (va_Pc av (fun U => vPre D cl tys w0 sz U ∧ G (va_A w0 sz) U U.heap)) (va_Qv post (vPost D cl tys w (va_A w0 sz)) (va_A w0 sz)) (vx_X (fun _ : S => True) (fun E u t => px E u ∧ vPost D cl tys w (va_A w0 sz) u t) (va_A w0 sz)) rm.cells rm.slots (va_A w0 sz)
theorem xMv_of {S : Type} {l : Launch} {D : va_G} {cl : List vw_C} {tys : List (ClassId × FieldType)} {G : gE} {y : MethodName} {wsY ws' : List Cond} {rm : Room} {av : List Value} {w0 : va_W} {w : S → va_W} {post : S → Prop} {px : String → S → Prop} {cc : ByteArray} {nL : Nat} (hy : plainName y.cls = true) (hyc : y.cls = RX7) (hw : wsY = Cond.code y cc nL none :: ws') (hav : (lg_sl av).length ≤ nL) (gx : gXc G) (hlf : l.stackTraces = false) (hrm : 5 < rm.frames ∧ 82 ≤ rm.locals ∧ 1 ≤ rm.cells ∧ 6 ≤ rm.slots)
    (body : ∀ X : vCtx, vC X cc nL wsY y.cls cl D tys l rm → vG X G → (∀ (u : S) (pc : Nat) (lv : List (Nat × Value)), decode cc pc = .ok (.return_, 1) → post u → V X rm.cells rm.slots (w u) pc lv []) → (∀ (u : S) (pc : Nat) (lv : List (Nat × Value)) (st : List Value) (ik is ic : Nat) (cls text : String), decode cc pc = .ok (.new ik, 3) → decode cc (pc + 3) = .ok (.dup, 1) → decode cc (pc + 4) = .ok (.ldc is, 2) → decode cc (pc + 6) = .ok (.invokespecial ic, 3) → decode cc (pc + 9) = .ok (.athrow, 1) → (ic, cls) ∈ xCls → (is, text) ∈ xStr → Cond.classLink RX7 ik cls ∈ wsY → Cond.initialized cls ∈ wsY → (∀ w ∈ (vx_atS RX7 ic cls xNms).filter goodWord, w ∈ wsY) → (st.map fun v => v.category).sum = 0 → px cls u → V X 0 0 (w u) pc lv st) → V X 0 0 w0 0 (lv_args 0 av) []) : xMv l D cl tys G y wsY rm av w0 w post px := by
  intro sz
  refine vx_ofW (cc := cc) (maxL := nL) (ret := none) hy hw ?_
  intro p e s m args below meth c s₁ B hml htab hv
  obtain ⟨rfl, ⟨hsz, hP, hK, hD0⟩, hG⟩ := hv
  subst hsz
  have hx := B.exec
  have hb := B.bytes
  have hr := B.returns
  have hts := atoms_spec (ws := wsY) B.pre
  have hown : s.vm.findClass y.cls = some m.cls := findClass_of_methodNamed B.named
  have hlk := B.notSynchronized
  have hD := hD0.self (sz := s.heap.size)
  have hl := lv_entry av (n := nL) hav
  rw [lg_entry_eq]
  refine body (p, l, e, rm, s, m, av.toArray, below, meth, c, _, D, cl, va_A w0 s.heap.size) ⟨hx, hb, hml, hown, hts, hK, fun q h => Or.inr h, rfl, rfl, rfl, rfl, hlk⟩ hG ?_ ?_ s.heap [] _ hP hD va_S.rf (by rw [hml]; exact hl)
  · intro u pc lv hdg hp H locs ls hP hD hS hl
    exact vx_ret (W.vret hx hb hr (fun t ht hW => ⟨⟨u, rfl, hp, by rw [ht]; exact hP, va_K.moved hW.alike hK, hD⟩, hS.F ht⟩) hS.2.2 hdg)
  · intro u pc lv st ik is ic cls text d0 d3 d4 d6 d9 hcl hst hck hci hwd hst0 hpx H locs ls hP hD hS hl
    obtain ⟨g1, g2, g3, g4⟩ := gx _ _ _ hG
    obtain ⟨sa, hsa⟩ := g2 _ hst
    have hgd := xGood _ hcl
    have hown2 : s.vm.findClass RX7 = some m.cls := by rw [← hyc]; exact hown
    refine vx_throwS (names := xNms) (own := RX7) (text := text) (sa := sa) (A := va_A w0 s.heap.size) hx hb hlf hown2 (xFit _ hcl) xFitN (hts _ hck) (hts _ hci) hsa ?_ ?_ g3 g4 hS hl.1 d0 d3 d4 d6 d9 (fun x hx9 => (htab x hx9).elim) (by show 2 + 3 < _; exact hrm.1) (by show (st.map fun v => v.category).sum + (13 * 3 + 43) ≤ _; rw [hst0]; exact hrm.2.1) (by rw [Nat.zero_add]; exact hrm.2.2.1) (by rw [Nat.zero_add]; exact hrm.2.2.2) hlk ?_ hS.2.2 (by rw [Nat.zero_add]; exact hrm.2.2.1) (by rw [Nat.zero_add]; exact hrm.2.2.2)
    · intro w9 hw9
      by_cases hg9 : goodWord w9 = true
      · exact hts _ (hwd w9 (List.mem_filter.mpr ⟨hw9, hg9⟩))
      · have h1 : va_Nw w9 s := g1 _ hcl w9 (List.mem_filter.mpr ⟨hw9, by cases h : goodWord w9; rfl; exact absurd h hg9⟩)
        have h2 := hgd w9 hw9
        simp only [vx_ot, Bool.or_eq_true] at h2
        rcases h2 with h2 | h2
        · exact va_Nw.use h2 h1
        · exact absurd h2 hg9
    · intro w9 hw9
      rcases List.mem_cons.mp hw9 with q | q
      · rw [q]; rfl
      · rcases List.mem_cons.mp q with q | q
        · rw [q]; rfl
        · exact hgd w9 q
    · intro t hvm hsz hk
      refine ⟨u, trivial, ⟨hpx, hP.kept (fun k q hq => hk q.1 (hP k q hq).lt), va_K.moved hvm hK, hD⟩, Nat.le_trans hS.1 hsz, fun q h1 h2 => ?_⟩
      rw [hk q (Nat.lt_of_lt_of_le h1 hS.1)]
      exact hS.2.1 q h1 h2
end XE
theorem V_widen {X : vCtx} {kc kn k9 n9 : Nat} {ws : va_W} {pc : Nat} {lv : List (Nat × Value)} {st : List Value} (h1 : kc ≤ k9) (h2 : kn ≤ n9) (k : V X k9 n9 ws pc lv st) : V X kc kn ws pc lv st := by
  obtain ⟨p, l, e, R, s, m, args, below, meth, c, Q, D, cl, A⟩ := X
  intro H locs ls hP hD hS hl
  exact W.widen h1 h2 (k H locs ls hP hD hS hl)
