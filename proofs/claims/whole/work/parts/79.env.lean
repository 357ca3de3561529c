def nX : List Cond := [.declares ⟨"java/lang/RuntimeException", "<init>", "(Ljava/lang/String;)V"⟩, .declares ⟨"java/lang/Exception", "<init>", "(Ljava/lang/String;)V"⟩, .declares ⟨"java/lang/Throwable", "<init>", "(Ljava/lang/String;)V"⟩, .castable "java/lang/IllegalArgumentException" "java/lang/IllegalArgumentException", .castable "java/lang/IllegalStateException" "java/lang/IllegalStateException"]
theorem nX_ok : ∀ c ∈ xCls, ∀ w ∈ (vx_atS RX7 c.1 c.2 xNms).filter (fun w => !goodWord w), w ∈ nX := by decide +kernel
def isNw : Cond → Bool
  | .fieldLinkNest _ _ _ _ _ _ => true
  | .methodLinkNest _ _ _ _ => true
  | .declares _ => true
  | .castable _ _ => true
  | _ => false
theorem isNw_warm {w : Cond} (hw : isNw w = true) {s U : State} (hW : s.WarmedH U.vm) (hZ : va_Nw w s) : va_Nw w U := by
  cases w <;> first | exact va_Nw.warmF hW hZ | exact va_Nw.warmM hW hZ | exact va_Nw.warmD hW hZ | exact va_Nw.warmC hW hZ | (exact absurd hw (by simp [isNw]))
theorem isNw_on {w : Cond} (hw : isNw w = true) : w.onTables = true := by
  cases w <;> first | rfl | (exact absurd hw (by simp [isNw]))
theorem nsts_nw : ∀ w ∈ nsts, isNw w = true := by decide +kernel
theorem nX_nw : ∀ w ∈ nX, isNw w = true := by decide +kernel
def gG (tb : Nat → Nat) : gE := fun A U H => (∀ w ∈ nsts, va_Nw w U) ∧ (∀ w ∈ nX, va_Nw w U) ∧ va_Nc "java/lang/IllegalStateException" "java/lang/IllegalArgumentException" U ∧ (va_AO "PredicateMachine$Frame" U ∧ va_AO "PredicateMachine$Instruction" U) ∧ (∀ x ∈ xStr, ∃ sa : Nat, vk_R RX7 x.1 x.2 sa U) ∧ (∀ k, k < 3 → va_Z "PredicateMachine" (kNm k) "[I" (.ref (tb k)) A U H ∧ va_T .int (tb k) 21 (fun j => .int (kTab k j)) A U H) ∧ vx_Zq Bundle.tN "UNASSIGNED_STACK" Bundle.steD A U H ∧ vx_Zq Bundle.tN "SUPPRESSED_SENTINEL" Bundle.listD A U H
theorem gG_ok (tb : Nat → Nat) : gOk (gG tb) := by
  have w1 : ∀ (A : Nat → Prop) (u U : State) (H : Heap), u.WarmedH U.vm → gG tb A u H → gG tb A U H := by
    intro A u U H hW h
    obtain ⟨h1, h2, h3, h4, h5, h6, h7, h8⟩ := h
    exact ⟨fun w hw => isNw_warm (nsts_nw w hw) hW (h1 w hw), fun w hw => isNw_warm (nX_nw w hw) hW (h2 w hw), h3.moved hW.alike, ⟨h4.1.moved hW.alike, h4.2.moved hW.alike⟩, fun x hx => (h5 x hx).elim (fun sa hs => ⟨sa, hs.warm hW⟩), fun k hk => ⟨(h6 k hk).1.moved hW.alike, (h6 k hk).2.moved hW.alike⟩, h7.moved hW.alike, h8.moved hW.alike⟩
  refine ⟨w1, fun A U g mk a H h => w1 A U (U.calling g mk a) H (State.WarmedH.refl U) h, ?_, ?_⟩
  · intro A U H H1 hk h
    obtain ⟨h1, h2, h3, h4, h5, h6, h7, h8⟩ := h
    exact ⟨h1, h2, h3, h4, h5, fun k hk9 => ⟨(h6 k hk9).1.kept hk, (h6 k hk9).2.kept hk⟩, h7.kept hk, h8.kept hk⟩
  · intro A B U H hAB h
    obtain ⟨h1, h2, h3, h4, h5, h6, h7, h8⟩ := h
    exact ⟨h1, h2, h3, h4, h5, fun k hk9 => ⟨(h6 k hk9).1.narrow hAB, (h6 k hk9).2.narrow hAB⟩, h7.narrow hAB, h8.narrow hAB⟩
theorem gG_all (tb : Nat → Nat) : gAll (gG tb) tb := ⟨gG_ok tb, fun _ _ _ h => h.1, fun _ _ _ h => h.2.2.2.2.2.1⟩
theorem gG_xc (tb : Nat → Nat) : gXc (gG tb) := fun _ _ _ h => ⟨fun c hc w hw => h.2.1 w (nX_ok c hc w hw), h.2.2.2.2.1, h.2.2.2.2.2.2.1, h.2.2.2.2.2.2.2⟩
theorem gG_ao (tb : Nat → Nat) : gAo (gG tb) := fun _ _ _ h => h.2.2.2.1
theorem gG_ca (tb : Nat → Nat) : gCa (gG tb) := fun _ _ _ h => ⟨h.2.1 _ (List.mem_of_getElem? (i := 3) rfl), h.2.1 _ (List.mem_of_getElem? (i := 4) rfl), h.2.2.1⟩
set_option maxRecDepth 20000 in
theorem nsts_in : ∀ w ∈ nsts, w ∈ lw_tbl := by decide +kernel
set_option maxRecDepth 20000 in
theorem nX_in : ∀ w ∈ nX, w ∈ lw_tbl := by decide +kernel
set_option maxRecDepth 20000 in
theorem xStr_in : ∀ x ∈ xStr, Cond.stringRef RX7 x.1 x.2 ∈ lw_tbl := by decide +kernel
abbrev tT (k : Nat) : Term := .static "PredicateMachine" (kNm k) "[I"
set_option maxRecDepth 20000 in
theorem tabs_in : ∀ k, k < 3 → Cond.arrayOf (tT k) .int ∈ flatC (Jvm.Cond.and given_1 narrow_1) ∧ Cond.eq (.length (tT k)) (.int 21) ∈ flatC (Jvm.Cond.and given_1 narrow_1) ∧ ∀ j, j < 21 → Cond.eq (.elem (tT k) (.int (Int32.ofNat j))) (.int (kTab k j)) ∈ flatC (Jvm.Cond.and given_1 narrow_1) := by decide +kernel
set_option maxRecDepth 20000 in
theorem lays_in : ∀ k, k < 3 → Cond.laysStatic "PredicateMachine" (kNm k) "[I" ∈ lw_tbl := by decide +kernel
