/-- the class's machine and the array of one long beside it -/
def lwd (K : Nat → ClassId) (h : Nat → Nat) (ao : Nat) (s : (Nat → Int64) × CS) : va_W := [(ao, .inl (K 1, 1, .inr (.inl s.1)))] ++ cw K h s.2
def hpi (post : Int32 → CS → Prop) (px : String → CS → Prop) (k : Int32) (s : (Nat → Int64) × CS) : Prop := (k = 0 ∧ ∃ r, post r s.2 ∧ s.1 0 = Int32.toInt64 r) ∨ (k = 1 ∧ px "java/lang/IllegalArgumentException" s.2) ∨ (k = 2 ∧ px "java/lang/IllegalStateException" s.2)
def hpl (post : Int64 → CS → Prop) (px : String → CS → Prop) (k : Int32) (s : (Nat → Int64) × CS) : Prop := (k = 0 ∧ ∃ r, post r s.2 ∧ s.1 0 = r) ∨ (k = 1 ∧ px "java/lang/IllegalArgumentException" s.2) ∨ (k = 2 ∧ px "java/lang/IllegalStateException" s.2)
def hpz (post : Int32 → CS → Prop) (px : String → CS → Prop) (k : Int32) (s : (Nat → Int64) × CS) : Prop := (k = 0 ∧ ∃ r, post r s.2 ∧ s.1 0 = (if r = 0 then 0 else 1)) ∨ (k = 1 ∧ px "java/lang/IllegalArgumentException" s.2) ∨ (k = 2 ∧ px "java/lang/IllegalStateException" s.2)
def hpv (post : CS → Prop) (px : String → CS → Prop) (k : Int32) (s : (Nat → Int64) × CS) : Prop := (k = 0 ∧ post s.2) ∨ (k = 1 ∧ px "java/lang/IllegalArgumentException" s.2) ∨ (k = 2 ∧ px "java/lang/IllegalStateException" s.2)
def gCa (G : gE) : Prop := ∀ (A : Nat → Prop) (U : State) (H : Heap), G A U H → va_Nw (.castable "java/lang/IllegalArgumentException" "java/lang/IllegalArgumentException") U ∧ va_Nw (.castable "java/lang/IllegalStateException" "java/lang/IllegalStateException") U ∧ va_Nc "java/lang/IllegalStateException" "java/lang/IllegalArgumentException" U
theorem vG_to {X : vCtx} {G G' : gE} (h : ∀ (A : Nat → Prop) (U : State) (H : Heap), G A U H → G' A U H) (hg : vG X G) : vG X G' := by
  obtain ⟨p, l, e, R, s, m, args, below, meth, c, Q, D, cl, A⟩ := X
  exact h _ _ _ hg
set_option maxHeartbeats 4000000 in
set_option maxRecDepth 100000 in
theorem L_instruction (l : Launch) (D : va_G) (K : Nat → ClassId) (G : gE) (go : gOk G) (gc : gCa G) (h : Nat → Nat) (u : CS) (ao : Nat) (f : Nat → Int64) (x0 : Int32) (x1 : Int32) (x2 : Int32) (x3 : Int32) (x4 : Int32) (x5 : Bool) {post : Int32 → CS → Prop} {px : String → CS → Prop} (hpx : ∀ (E9 : String) (u9 : CS), px E9 u9 → E9 = "java/lang/IllegalArgumentException" ∨ E9 = "java/lang/IllegalStateException") (hX : xMi l D vwCl (tys0 K) G yX7_instruction wsX7_instruction ({ frames := 6, cells := 1, slots := 6, locals := 82 } : Room) [.ref (h 0), .int x0, .int x1, .int x2, .int x3, .int x4, .int (b2i x5)] (cw K h u) (cw K h) post px) : gMi l D vwCl (tys0 K) G yL_instruction wsL_instruction ({ frames := 7, cells := 1, slots := 6, locals := 108 } : Room) [.ref (h 0), .int x0, .int x1, .int x2, .int x3, .int x4, .int (b2i x5), .ref ao] (lwd K h ao (f, u)) (lwd K h ao) (hpi post px) := by
  refine lMi_of (cc := cL_instruction) (nL := 9) (rt := .int) (hh := [(0, 18, 21, 13), (0, 18, 25, 15)]) (by decide) rfl (Nat.le_of_ble_eq_true rfl) ?_
  intro X C hg ht E
  show V X 0 0 ([(ao, .inl (K 1, 1, .inr (.inl f)))] ++ cw K h u) 0 [(0, .ref (h 0)), (1, .int x0), (2, .int x1), (3, .int x2), (4, .int x3), (5, .int x4), (6, .int (b2i x5)), (7, .ref ao)] []
  refine V_aload C dL_instruction_0 7 rfl ?_
  refine V_iconst (v := 0) C dL_instruction_2 (by decide) ?_
  refine V_aload_n C dL_instruction_3 rfl 0 rfl ?_
  refine V_iload_n C dL_instruction_4 rfl 1 rfl ?_
  refine V_iload_n C dL_instruction_5 rfl 2 rfl ?_
  refine V_iload_n C dL_instruction_6 rfl 3 rfl ?_
  refine V_iload C dL_instruction_7 4 rfl ?_
  refine V_iload C dL_instruction_9 5 rfl ?_
  refine V_iload C dL_instruction_11 6 rfl ?_
  refine V_xcalliV C go hg dL_instruction_13 0 (cw_a rfl) rfl hX gL_instruction_X7_instruction rfl 6 rfl (by decide +kernel) (by decide) ⟨Nat.le_of_ble_eq_true rfl, Nat.le_of_ble_eq_true rfl⟩ rfl (Nat.le_of_ble_eq_true rfl) (fun E9 u9 hp9 => ?_) (fun r9 u9 hp9 => ?_)
  · rcases hpx E9 u9 hp9 with rfl | rfl
    · refine V_catch C ht [] ⟨0, 18, 21, 13⟩ [⟨0, 18, 25, 15⟩] rfl (fun z hz => absurd hz List.not_mem_nil) (by decide) (by decide) (List.mem_of_getElem? (i := 1) rfl) (vG_to (fun A U H q => (gc A U H q).1) hg) (fun q9 => ?_)
      refine V_astore (lv' := [(8, .ref q9), (0, .ref (h 0)), (1, .int x0), (2, .int x1), (3, .int x2), (4, .int x3), (5, .int x4), (6, .int (b2i x5)), (7, .ref ao)]) C dL_instruction_21 (by decide) rfl ?_
      refine V_iconst (v := 1) C dL_instruction_23 (by decide) ?_
      exact E 1 (f, u9) _ _ dL_instruction_24 rfl (Or.inr (Or.inl ⟨rfl, hp9⟩))
    · refine V_catch C ht [⟨0, 18, 21, 13⟩] ⟨0, 18, 25, 15⟩ [] rfl (fun z hz => by obtain rfl := List.mem_singleton.mp hz; exact ⟨by decide, _, List.mem_of_getElem? (i := 1) rfl, vG_to (fun A U H q => (gc A U H q).2.2) hg⟩) (by decide) (by decide) (List.mem_of_getElem? (i := 2) rfl) (vG_to (fun A U H q => (gc A U H q).2.1) hg) (fun q9 => ?_)
      refine V_astore (lv' := [(8, .ref q9), (0, .ref (h 0)), (1, .int x0), (2, .int x1), (3, .int x2), (4, .int x3), (5, .int x4), (6, .int (b2i x5)), (7, .ref ao)]) C dL_instruction_25 (by decide) rfl ?_
      refine V_iconst (v := 2) C dL_instruction_27 (by decide) ?_
      exact E 2 (f, u9) _ _ dL_instruction_28 rfl (Or.inr (Or.inr ⟨rfl, hp9⟩))
  · refine V_i2l C dL_instruction_16 ?_
    refine V_lastn (ws' := ([(ao, .inl (K 1, 1, .inr (.inl (vp_updL f 0 (Int32.toInt64 r9)))))] ++ cw K h u9)) C dL_instruction_17 0 1 rfl rfl (0) (by decide) (by unfold vp_in; decide) rfl ?_
    refine V_goto (tgt := 29) C dL_instruction_18 (by decide) ?_
    refine V_iconst (v := 0) C dL_instruction_29 (by decide) ?_
    exact E 0 ((vp_updL f 0 (Int32.toInt64 r9)), u9) _ _ dL_instruction_30 rfl (Or.inl ⟨rfl, r9, hp9, (by first | rfl | simp [vp_updL])⟩)
set_option maxHeartbeats 4000000 in
set_option maxRecDepth 100000 in
theorem L_take (l : Launch) (D : va_G) (K : Nat → ClassId) (G : gE) (go : gOk G) (gc : gCa G) (h : Nat → Nat) (u : CS) (ao : Nat) (f : Nat → Int64)  {post : Int32 → CS → Prop} {px : String → CS → Prop} (hpx : ∀ (E9 : String) (u9 : CS), px E9 u9 → E9 = "java/lang/IllegalArgumentException") (hX : xMi l D vwCl (tys0 K) G yX7_take wsX7_take ({ frames := 6, cells := 1, slots := 6, locals := 132 } : Room) [.ref (h 0)] (cw K h u) (cw K h) post px) : gMi l D vwCl (tys0 K) G yL_take wsL_take ({ frames := 7, cells := 1, slots := 6, locals := 153 } : Room) [.ref (h 0), .ref ao] (lwd K h ao (f, u)) (lwd K h ao) (hpi post px) := by
  refine lMi_of (cc := cL_take) (nL := 3) (rt := .int) (hh := [(0, 8, 11, 13)]) (by decide) rfl (Nat.le_of_ble_eq_true rfl) ?_
  intro X C hg ht E
  show V X 0 0 ([(ao, .inl (K 1, 1, .inr (.inl f)))] ++ cw K h u) 0 [(0, .ref (h 0)), (1, .ref ao)] []
  refine V_aload_n C dL_take_0 rfl 1 rfl ?_
  refine V_iconst (v := 0) C dL_take_1 (by decide) ?_
  refine V_aload_n C dL_take_2 rfl 0 rfl ?_
  refine V_xcalliV C go hg dL_take_3 0 (cw_a rfl) rfl hX gL_take_X7_take rfl 0 rfl (by decide +kernel) (by decide) ⟨Nat.le_of_ble_eq_true rfl, Nat.le_of_ble_eq_true rfl⟩ rfl (Nat.le_of_ble_eq_true rfl) (fun E9 u9 hp9 => ?_) (fun r9 u9 hp9 => ?_)
  · obtain rfl := hpx E9 u9 hp9
    refine V_catch C ht [] ⟨0, 8, 11, 13⟩ [] rfl (fun z hz => absurd hz List.not_mem_nil) (by decide) (by decide) (List.mem_of_getElem? (i := 1) rfl) (vG_to (fun A U H q => (gc A U H q).1) hg) (fun q9 => ?_)
    refine V_astore_n (lv' := [(2, .ref q9), (0, .ref (h 0)), (1, .ref ao)]) C dL_take_11 rfl (by decide) rfl ?_
    refine V_iconst (v := 1) C dL_take_12 (by decide) ?_
    exact E 1 (f, u9) _ _ dL_take_13 rfl (Or.inr (Or.inl ⟨rfl, hp9⟩))
  · refine V_i2l C dL_take_6 ?_
    refine V_lastn (ws' := ([(ao, .inl (K 1, 1, .inr (.inl (vp_updL f 0 (Int32.toInt64 r9)))))] ++ cw K h u9)) C dL_take_7 0 1 rfl rfl (0) (by decide) (by unfold vp_in; decide) rfl ?_
    refine V_goto (tgt := 14) C dL_take_8 (by decide) ?_
    refine V_iconst (v := 0) C dL_take_14 (by decide) ?_
    exact E 0 ((vp_updL f 0 (Int32.toInt64 r9)), u9) _ _ dL_take_15 rfl (Or.inl ⟨rfl, r9, hp9, (by first | rfl | simp [vp_updL])⟩)
set_option maxHeartbeats 4000000 in
set_option maxRecDepth 100000 in
theorem L_fault (l : Launch) (D : va_G) (K : Nat → ClassId) (G : gE) (go : gOk G) (gc : gCa G) (h : Nat → Nat) (u : CS) (ao : Nat) (f : Nat → Int64) (x0 : Int32) {post : Int32 → CS → Prop} {px : String → CS → Prop} (hpx : ∀ (E9 : String) (u9 : CS), px E9 u9 → E9 = "java/lang/IllegalArgumentException") (hX : xMi l D vwCl (tys0 K) G yX7_fault wsX7_fault ({ frames := 6, cells := 1, slots := 6, locals := 82 } : Room) [.ref (h 0), .int x0] (cw K h u) (cw K h) post px) : gMi l D vwCl (tys0 K) G yL_fault wsL_fault ({ frames := 7, cells := 1, slots := 6, locals := 103 } : Room) [.ref (h 0), .int x0, .ref ao] (lwd K h ao (f, u)) (lwd K h ao) (hpi post px) := by
  refine lMi_of (cc := cL_fault) (nL := 4) (rt := .int) (hh := [(0, 9, 12, 13)]) (by decide) rfl (Nat.le_of_ble_eq_true rfl) ?_
  intro X C hg ht E
  show V X 0 0 ([(ao, .inl (K 1, 1, .inr (.inl f)))] ++ cw K h u) 0 [(0, .ref (h 0)), (1, .int x0), (2, .ref ao)] []
  refine V_aload_n C dL_fault_0 rfl 2 rfl ?_
  refine V_iconst (v := 0) C dL_fault_1 (by decide) ?_
  refine V_aload_n C dL_fault_2 rfl 0 rfl ?_
  refine V_iload_n C dL_fault_3 rfl 1 rfl ?_
  refine V_xcalliV C go hg dL_fault_4 0 (cw_a rfl) rfl hX gL_fault_X7_fault rfl 1 rfl (by decide +kernel) (by decide) ⟨Nat.le_of_ble_eq_true rfl, Nat.le_of_ble_eq_true rfl⟩ rfl (Nat.le_of_ble_eq_true rfl) (fun E9 u9 hp9 => ?_) (fun r9 u9 hp9 => ?_)
  · obtain rfl := hpx E9 u9 hp9
    refine V_catch C ht [] ⟨0, 9, 12, 13⟩ [] rfl (fun z hz => absurd hz List.not_mem_nil) (by decide) (by decide) (List.mem_of_getElem? (i := 1) rfl) (vG_to (fun A U H q => (gc A U H q).1) hg) (fun q9 => ?_)
    refine V_astore_n (lv' := [(3, .ref q9), (0, .ref (h 0)), (1, .int x0), (2, .ref ao)]) C dL_fault_12 rfl (by decide) rfl ?_
    refine V_iconst (v := 1) C dL_fault_13 (by decide) ?_
    exact E 1 (f, u9) _ _ dL_fault_14 rfl (Or.inr (Or.inl ⟨rfl, hp9⟩))
  · refine V_i2l C dL_fault_7 ?_
    refine V_lastn (ws' := ([(ao, .inl (K 1, 1, .inr (.inl (vp_updL f 0 (Int32.toInt64 r9)))))] ++ cw K h u9)) C dL_fault_8 0 1 rfl rfl (0) (by decide) (by unfold vp_in; decide) rfl ?_
    refine V_goto (tgt := 15) C dL_fault_9 (by decide) ?_
    refine V_iconst (v := 0) C dL_fault_15 (by decide) ?_
    exact E 0 ((vp_updL f 0 (Int32.toInt64 r9)), u9) _ _ dL_fault_16 rfl (Or.inl ⟨rfl, r9, hp9, (by first | rfl | simp [vp_updL])⟩)
set_option maxHeartbeats 4000000 in
set_option maxRecDepth 100000 in
theorem L_run (l : Launch) (D : va_G) (K : Nat → ClassId) (G : gE) (go : gOk G) (gc : gCa G) (h : Nat → Nat) (u : CS) (ao : Nat) (f : Nat → Int64) (x0 : Int32) {post : Int32 → CS → Prop} {px : String → CS → Prop} (hpx : ∀ (E9 : String) (u9 : CS), px E9 u9 → E9 = "java/lang/IllegalArgumentException" ∨ E9 = "java/lang/IllegalStateException") (hX : xMi l D vwCl (tys0 K) G yX7_run wsX7_run ({ frames := 6, cells := 1, slots := 6, locals := 140 } : Room) [.ref (h 0), .int x0] (cw K h u) (cw K h) post px) : gMi l D vwCl (tys0 K) G yL_run wsL_run ({ frames := 7, cells := 1, slots := 6, locals := 163 } : Room) [.ref (h 0), .int x0, .ref ao] (lwd K h ao (f, u)) (lwd K h ao) (hpi post px) := by
  refine lMi_of (cc := cL_run) (nL := 4) (rt := .int) (hh := [(0, 9, 12, 13), (0, 9, 15, 15)]) (by decide) rfl (Nat.le_of_ble_eq_true rfl) ?_
  intro X C hg ht E
  show V X 0 0 ([(ao, .inl (K 1, 1, .inr (.inl f)))] ++ cw K h u) 0 [(0, .ref (h 0)), (1, .int x0), (2, .ref ao)] []
  refine V_aload_n C dL_run_0 rfl 2 rfl ?_
  refine V_iconst (v := 0) C dL_run_1 (by decide) ?_
  refine V_aload_n C dL_run_2 rfl 0 rfl ?_
  refine V_iload_n C dL_run_3 rfl 1 rfl ?_
  refine V_xcalliV C go hg dL_run_4 0 (cw_a rfl) rfl hX gL_run_X7_run rfl 1 rfl (by decide +kernel) (by decide) ⟨Nat.le_of_ble_eq_true rfl, Nat.le_of_ble_eq_true rfl⟩ rfl (Nat.le_of_ble_eq_true rfl) (fun E9 u9 hp9 => ?_) (fun r9 u9 hp9 => ?_)
  · rcases hpx E9 u9 hp9 with rfl | rfl
    · refine V_catch C ht [] ⟨0, 9, 12, 13⟩ [⟨0, 9, 15, 15⟩] rfl (fun z hz => absurd hz List.not_mem_nil) (by decide) (by decide) (List.mem_of_getElem? (i := 1) rfl) (vG_to (fun A U H q => (gc A U H q).1) hg) (fun q9 => ?_)
      refine V_astore_n (lv' := [(3, .ref q9), (0, .ref (h 0)), (1, .int x0), (2, .ref ao)]) C dL_run_12 rfl (by decide) rfl ?_
      refine V_iconst (v := 1) C dL_run_13 (by decide) ?_
      exact E 1 (f, u9) _ _ dL_run_14 rfl (Or.inr (Or.inl ⟨rfl, hp9⟩))
    · refine V_catch C ht [⟨0, 9, 12, 13⟩] ⟨0, 9, 15, 15⟩ [] rfl (fun z hz => by obtain rfl := List.mem_singleton.mp hz; exact ⟨by decide, _, List.mem_of_getElem? (i := 1) rfl, vG_to (fun A U H q => (gc A U H q).2.2) hg⟩) (by decide) (by decide) (List.mem_of_getElem? (i := 2) rfl) (vG_to (fun A U H q => (gc A U H q).2.1) hg) (fun q9 => ?_)
      refine V_astore_n (lv' := [(3, .ref q9), (0, .ref (h 0)), (1, .int x0), (2, .ref ao)]) C dL_run_15 rfl (by decide) rfl ?_
      refine V_iconst (v := 2) C dL_run_16 (by decide) ?_
      exact E 2 (f, u9) _ _ dL_run_17 rfl (Or.inr (Or.inr ⟨rfl, hp9⟩))
  · refine V_i2l C dL_run_7 ?_
    refine V_lastn (ws' := ([(ao, .inl (K 1, 1, .inr (.inl (vp_updL f 0 (Int32.toInt64 r9)))))] ++ cw K h u9)) C dL_run_8 0 1 rfl rfl (0) (by decide) (by unfold vp_in; decide) rfl ?_
    refine V_goto (tgt := 18) C dL_run_9 (by decide) ?_
    refine V_iconst (v := 0) C dL_run_18 (by decide) ?_
    exact E 0 ((vp_updL f 0 (Int32.toInt64 r9)), u9) _ _ dL_run_19 rfl (Or.inl ⟨rfl, r9, hp9, (by first | rfl | simp [vp_updL])⟩)
set_option maxHeartbeats 4000000 in
set_option maxRecDepth 100000 in
theorem L_set (l : Launch) (D : va_G) (K : Nat → ClassId) (G : gE) (go : gOk G) (gc : gCa G) (h : Nat → Nat) (u : CS) (ao : Nat) (f : Nat → Int64) (x0 : Int32) (x1 : Int64) {post : CS → Prop} {px : String → CS → Prop} (hpx : ∀ (E9 : String) (u9 : CS), px E9 u9 → E9 = "java/lang/IllegalArgumentException") (hX : xMv l D vwCl (tys0 K) G yX7_set wsX7_set ({ frames := 6, cells := 1, slots := 6, locals := 82 } : Room) [.ref (h 0), .int x0, .long x1] (cw K h u) (cw K h) post px) : gMi l D vwCl (tys0 K) G yL_set wsL_set ({ frames := 7, cells := 1, slots := 6, locals := 105 } : Room) [.ref (h 0), .int x0, .long x1] (lwd K h ao (f, u)) (lwd K h ao) (hpv post px) := by
  refine lMi_of (cc := cL_set) (nL := 5) (rt := .int) (hh := [(0, 6, 9, 13)]) (by decide) rfl (Nat.le_of_ble_eq_true rfl) ?_
  intro X C hg ht E
  show V X 0 0 ([(ao, .inl (K 1, 1, .inr (.inl f)))] ++ cw K h u) 0 [(0, .ref (h 0)), (1, .int x0), (2, .long x1)] []
  refine V_aload_n C dL_set_0 rfl 0 rfl ?_
  refine V_iload_n C dL_set_1 rfl 1 rfl ?_
  refine V_lload_n C dL_set_2 rfl 2 rfl ?_
  refine V_xcallvV C go hg dL_set_3 0 (cw_a rfl) rfl hX gL_set_X7_set rfl 2 rfl (by decide +kernel) (by decide) ⟨Nat.le_of_ble_eq_true rfl, Nat.le_of_ble_eq_true rfl⟩ rfl (Nat.le_of_ble_eq_true rfl) (fun E9 u9 hp9 => ?_) (fun u9 hp9 => ?_)
  · obtain rfl := hpx E9 u9 hp9
    refine V_catch C ht [] ⟨0, 6, 9, 13⟩ [] rfl (fun z hz => absurd hz List.not_mem_nil) (by decide) (by decide) (List.mem_of_getElem? (i := 1) rfl) (vG_to (fun A U H q => (gc A U H q).1) hg) (fun q9 => ?_)
    refine V_astore (lv' := [(4, .ref q9), (0, .ref (h 0)), (1, .int x0), (2, .long x1)]) C dL_set_9 (by decide) rfl ?_
    refine V_iconst (v := 1) C dL_set_11 (by decide) ?_
    exact E 1 (f, u9) _ _ dL_set_12 rfl (Or.inr (Or.inl ⟨rfl, hp9⟩))
  · refine V_goto (tgt := 13) C dL_set_6 (by decide) ?_
    refine V_iconst (v := 0) C dL_set_13 (by decide) ?_
    exact E 0 (f, u9) _ _ dL_set_14 rfl (Or.inl ⟨rfl, hp9⟩)
set_option maxHeartbeats 4000000 in
set_option maxRecDepth 100000 in
theorem L_register (l : Launch) (D : va_G) (K : Nat → ClassId) (G : gE) (go : gOk G) (gc : gCa G) (h : Nat → Nat) (u : CS) (ao : Nat) (f : Nat → Int64) (x0 : Int32) {post : Int64 → CS → Prop} {px : String → CS → Prop} (hpx : ∀ (E9 : String) (u9 : CS), px E9 u9 → E9 = "java/lang/IllegalArgumentException") (hX : xMl l D vwCl (tys0 K) G yX7_register wsX7_register ({ frames := 6, cells := 1, slots := 6, locals := 82 } : Room) [.ref (h 0), .int x0] (cw K h u) (cw K h) post px) : gMi l D vwCl (tys0 K) G yL_register wsL_register ({ frames := 7, cells := 1, slots := 6, locals := 103 } : Room) [.ref (h 0), .int x0, .ref ao] (lwd K h ao (f, u)) (lwd K h ao) (hpl post px) := by
  refine lMi_of (cc := cL_register) (nL := 4) (rt := .int) (hh := [(0, 8, 11, 13)]) (by decide) rfl (Nat.le_of_ble_eq_true rfl) ?_
  intro X C hg ht E
  show V X 0 0 ([(ao, .inl (K 1, 1, .inr (.inl f)))] ++ cw K h u) 0 [(0, .ref (h 0)), (1, .int x0), (2, .ref ao)] []
  refine V_aload_n C dL_register_0 rfl 2 rfl ?_
  refine V_iconst (v := 0) C dL_register_1 (by decide) ?_
  refine V_aload_n C dL_register_2 rfl 0 rfl ?_
  refine V_iload_n C dL_register_3 rfl 1 rfl ?_
  refine V_xcalllV C go hg dL_register_4 0 (cw_a rfl) rfl hX gL_register_X7_register rfl 1 rfl (by decide +kernel) (by decide) ⟨Nat.le_of_ble_eq_true rfl, Nat.le_of_ble_eq_true rfl⟩ rfl (Nat.le_of_ble_eq_true rfl) (fun E9 u9 hp9 => ?_) (fun r9 u9 hp9 => ?_)
  · obtain rfl := hpx E9 u9 hp9
    refine V_catch C ht [] ⟨0, 8, 11, 13⟩ [] rfl (fun z hz => absurd hz List.not_mem_nil) (by decide) (by decide) (List.mem_of_getElem? (i := 1) rfl) (vG_to (fun A U H q => (gc A U H q).1) hg) (fun q9 => ?_)
    refine V_astore_n (lv' := [(3, .ref q9), (0, .ref (h 0)), (1, .int x0), (2, .ref ao)]) C dL_register_11 rfl (by decide) rfl ?_
    refine V_iconst (v := 1) C dL_register_12 (by decide) ?_
    exact E 1 (f, u9) _ _ dL_register_13 rfl (Or.inr (Or.inl ⟨rfl, hp9⟩))
  · refine V_lastn (ws' := ([(ao, .inl (K 1, 1, .inr (.inl (vp_updL f 0 r9))))] ++ cw K h u9)) C dL_register_7 0 1 rfl rfl (0) (by decide) (by unfold vp_in; decide) rfl ?_
    refine V_goto (tgt := 14) C dL_register_8 (by decide) ?_
    refine V_iconst (v := 0) C dL_register_14 (by decide) ?_
    exact E 0 ((vp_updL f 0 r9), u9) _ _ dL_register_15 rfl (Or.inl ⟨rfl, r9, hp9, (by first | rfl | simp [vp_updL])⟩)
set_option maxHeartbeats 4000000 in
set_option maxRecDepth 100000 in
theorem L_nat (l : Launch) (D : va_G) (K : Nat → ClassId) (G : gE) (go : gOk G) (gc : gCa G) (h : Nat → Nat) (u : CS) (ao : Nat) (f : Nat → Int64) (x0 : Int32) {post : Int32 → CS → Prop} {px : String → CS → Prop} (hpx : ∀ (E9 : String) (u9 : CS), px E9 u9 → E9 = "java/lang/IllegalArgumentException") (hX : xMi l D vwCl (tys0 K) G yX7_nat wsX7_nat ({ frames := 6, cells := 1, slots := 6, locals := 82 } : Room) [.ref (h 0), .int x0] (cw K h u) (cw K h) post px) : gMi l D vwCl (tys0 K) G yL_nat wsL_nat ({ frames := 7, cells := 1, slots := 6, locals := 103 } : Room) [.ref (h 0), .int x0, .ref ao] (lwd K h ao (f, u)) (lwd K h ao) (hpz post px) := by
  refine lMi_of (cc := cL_nat) (nL := 4) (rt := .int) (hh := [(0, 16, 19, 13)]) (by decide) rfl (Nat.le_of_ble_eq_true rfl) ?_
  intro X C hg ht E
  show V X 0 0 ([(ao, .inl (K 1, 1, .inr (.inl f)))] ++ cw K h u) 0 [(0, .ref (h 0)), (1, .int x0), (2, .ref ao)] []
  refine V_aload_n C dL_nat_0 rfl 2 rfl ?_
  refine V_iconst (v := 0) C dL_nat_1 (by decide) ?_
  refine V_aload_n C dL_nat_2 rfl 0 rfl ?_
  refine V_iload_n C dL_nat_3 rfl 1 rfl ?_
  refine V_xcalliV C go hg dL_nat_4 0 (cw_a rfl) rfl hX gL_nat_X7_nat rfl 1 rfl (by decide +kernel) (by decide) ⟨Nat.le_of_ble_eq_true rfl, Nat.le_of_ble_eq_true rfl⟩ rfl (Nat.le_of_ble_eq_true rfl) (fun E9 u9 hp9 => ?_) (fun r9 u9 hp9 => ?_)
  · obtain rfl := hpx E9 u9 hp9
    refine V_catch C ht [] ⟨0, 16, 19, 13⟩ [] rfl (fun z hz => absurd hz List.not_mem_nil) (by decide) (by decide) (List.mem_of_getElem? (i := 1) rfl) (vG_to (fun A U H q => (gc A U H q).1) hg) (fun q9 => ?_)
    refine V_astore_n (lv' := [(3, .ref q9), (0, .ref (h 0)), (1, .int x0), (2, .ref ao)]) C dL_nat_19 rfl (by decide) rfl ?_
    refine V_iconst (v := 1) C dL_nat_20 (by decide) ?_
    exact E 1 (f, u9) _ _ dL_nat_21 rfl (Or.inr (Or.inl ⟨rfl, hp9⟩))
  · refine V_if_eq (tgt := 14) C dL_nat_7 (by decide) (fun zh7 => ?_) (fun zh7 => ?_)
    · refine V_lconst (v := 0) C dL_nat_14 (by decide) ?_
      refine V_lastn (ws' := ([(ao, .inl (K 1, 1, .inr (.inl (vp_updL f 0 0))))] ++ cw K h u9)) C dL_nat_15 0 1 rfl rfl (0) (by decide) (by unfold vp_in; decide) rfl ?_
      refine V_goto (tgt := 22) C dL_nat_16 (by decide) ?_
      refine V_iconst (v := 0) C dL_nat_22 (by decide) ?_
      exact E 0 ((vp_updL f 0 0), u9) _ _ dL_nat_23 rfl (Or.inl ⟨rfl, r9, hp9, (by simp (decide := true) [vp_updL, zh7])⟩)
    · refine V_lconst (v := 1) C dL_nat_10 (by decide) ?_
      refine V_goto (tgt := 15) C dL_nat_11 (by decide) ?_
      refine V_lastn (ws' := ([(ao, .inl (K 1, 1, .inr (.inl (vp_updL f 0 1))))] ++ cw K h u9)) C dL_nat_15 0 1 rfl rfl (0) (by decide) (by unfold vp_in; decide) rfl ?_
      refine V_goto (tgt := 22) C dL_nat_16 (by decide) ?_
      refine V_iconst (v := 0) C dL_nat_22 (by decide) ?_
      exact E 0 ((vp_updL f 0 1), u9) _ _ dL_nat_23 rfl (Or.inl ⟨rfl, r9, hp9, (by simp (decide := true) [vp_updL, zh7])⟩)
set_option maxHeartbeats 4000000 in
set_option maxRecDepth 100000 in
theorem L_predicate (l : Launch) (D : va_G) (K : Nat → ClassId) (G : gE) (go : gOk G) (gc : gCa G) (h : Nat → Nat) (u : CS) (ao : Nat) (f : Nat → Int64) (x0 : Int32) {post : Int32 → CS → Prop} {px : String → CS → Prop} (hpx : ∀ (E9 : String) (u9 : CS), px E9 u9 → E9 = "java/lang/IllegalArgumentException") (hX : xMi l D vwCl (tys0 K) G yX7_predicate wsX7_predicate ({ frames := 6, cells := 1, slots := 6, locals := 82 } : Room) [.ref (h 0), .int x0] (cw K h u) (cw K h) post px) : gMi l D vwCl (tys0 K) G yL_predicate wsL_predicate ({ frames := 7, cells := 1, slots := 6, locals := 103 } : Room) [.ref (h 0), .int x0, .ref ao] (lwd K h ao (f, u)) (lwd K h ao) (hpz post px) := by
  refine lMi_of (cc := cL_predicate) (nL := 4) (rt := .int) (hh := [(0, 16, 19, 13)]) (by decide) rfl (Nat.le_of_ble_eq_true rfl) ?_
  intro X C hg ht E
  show V X 0 0 ([(ao, .inl (K 1, 1, .inr (.inl f)))] ++ cw K h u) 0 [(0, .ref (h 0)), (1, .int x0), (2, .ref ao)] []
  refine V_aload_n C dL_predicate_0 rfl 2 rfl ?_
  refine V_iconst (v := 0) C dL_predicate_1 (by decide) ?_
  refine V_aload_n C dL_predicate_2 rfl 0 rfl ?_
  refine V_iload_n C dL_predicate_3 rfl 1 rfl ?_
  refine V_xcalliV C go hg dL_predicate_4 0 (cw_a rfl) rfl hX gL_predicate_X7_predicate rfl 1 rfl (by decide +kernel) (by decide) ⟨Nat.le_of_ble_eq_true rfl, Nat.le_of_ble_eq_true rfl⟩ rfl (Nat.le_of_ble_eq_true rfl) (fun E9 u9 hp9 => ?_) (fun r9 u9 hp9 => ?_)
  · obtain rfl := hpx E9 u9 hp9
    refine V_catch C ht [] ⟨0, 16, 19, 13⟩ [] rfl (fun z hz => absurd hz List.not_mem_nil) (by decide) (by decide) (List.mem_of_getElem? (i := 1) rfl) (vG_to (fun A U H q => (gc A U H q).1) hg) (fun q9 => ?_)
    refine V_astore_n (lv' := [(3, .ref q9), (0, .ref (h 0)), (1, .int x0), (2, .ref ao)]) C dL_predicate_19 rfl (by decide) rfl ?_
    refine V_iconst (v := 1) C dL_predicate_20 (by decide) ?_
    exact E 1 (f, u9) _ _ dL_predicate_21 rfl (Or.inr (Or.inl ⟨rfl, hp9⟩))
  · refine V_if_eq (tgt := 14) C dL_predicate_7 (by decide) (fun zh7 => ?_) (fun zh7 => ?_)
    · refine V_lconst (v := 0) C dL_predicate_14 (by decide) ?_
      refine V_lastn (ws' := ([(ao, .inl (K 1, 1, .inr (.inl (vp_updL f 0 0))))] ++ cw K h u9)) C dL_predicate_15 0 1 rfl rfl (0) (by decide) (by unfold vp_in; decide) rfl ?_
      refine V_goto (tgt := 22) C dL_predicate_16 (by decide) ?_
      refine V_iconst (v := 0) C dL_predicate_22 (by decide) ?_
      exact E 0 ((vp_updL f 0 0), u9) _ _ dL_predicate_23 rfl (Or.inl ⟨rfl, r9, hp9, (by simp (decide := true) [vp_updL, zh7])⟩)
    · refine V_lconst (v := 1) C dL_predicate_10 (by decide) ?_
      refine V_goto (tgt := 15) C dL_predicate_11 (by decide) ?_
      refine V_lastn (ws' := ([(ao, .inl (K 1, 1, .inr (.inl (vp_updL f 0 1))))] ++ cw K h u9)) C dL_predicate_15 0 1 rfl rfl (0) (by decide) (by unfold vp_in; decide) rfl ?_
      refine V_goto (tgt := 22) C dL_predicate_16 (by decide) ?_
      refine V_iconst (v := 0) C dL_predicate_22 (by decide) ?_
      exact E 0 ((vp_updL f 0 1), u9) _ _ dL_predicate_23 rfl (Or.inl ⟨rfl, r9, hp9, (by simp (decide := true) [vp_updL, zh7])⟩)
set_option maxHeartbeats 4000000 in
set_option maxRecDepth 100000 in
theorem L_memory (l : Launch) (D : va_G) (K : Nat → ClassId) (G : gE) (go : gOk G) (gc : gCa G) (h : Nat → Nat) (u : CS) (ao : Nat) (f : Nat → Int64) (x0 : Int32) {post : Int64 → CS → Prop} {px : String → CS → Prop} (hpx : ∀ (E9 : String) (u9 : CS), px E9 u9 → E9 = "java/lang/IllegalArgumentException") (hX : xMl l D vwCl (tys0 K) G yX7_memory wsX7_memory ({ frames := 6, cells := 1, slots := 6, locals := 82 } : Room) [.ref (h 0), .int x0] (cw K h u) (cw K h) post px) : gMi l D vwCl (tys0 K) G yL_memory wsL_memory ({ frames := 7, cells := 1, slots := 6, locals := 103 } : Room) [.ref (h 0), .int x0, .ref ao] (lwd K h ao (f, u)) (lwd K h ao) (hpl post px) := by
  refine lMi_of (cc := cL_memory) (nL := 4) (rt := .int) (hh := [(0, 8, 11, 13)]) (by decide) rfl (Nat.le_of_ble_eq_true rfl) ?_
  intro X C hg ht E
  show V X 0 0 ([(ao, .inl (K 1, 1, .inr (.inl f)))] ++ cw K h u) 0 [(0, .ref (h 0)), (1, .int x0), (2, .ref ao)] []
  refine V_aload_n C dL_memory_0 rfl 2 rfl ?_
  refine V_iconst (v := 0) C dL_memory_1 (by decide) ?_
  refine V_aload_n C dL_memory_2 rfl 0 rfl ?_
  refine V_iload_n C dL_memory_3 rfl 1 rfl ?_
  refine V_xcalllV C go hg dL_memory_4 0 (cw_a rfl) rfl hX gL_memory_X7_memory rfl 1 rfl (by decide +kernel) (by decide) ⟨Nat.le_of_ble_eq_true rfl, Nat.le_of_ble_eq_true rfl⟩ rfl (Nat.le_of_ble_eq_true rfl) (fun E9 u9 hp9 => ?_) (fun r9 u9 hp9 => ?_)
  · obtain rfl := hpx E9 u9 hp9
    refine V_catch C ht [] ⟨0, 8, 11, 13⟩ [] rfl (fun z hz => absurd hz List.not_mem_nil) (by decide) (by decide) (List.mem_of_getElem? (i := 1) rfl) (vG_to (fun A U H q => (gc A U H q).1) hg) (fun q9 => ?_)
    refine V_astore_n (lv' := [(3, .ref q9), (0, .ref (h 0)), (1, .int x0), (2, .ref ao)]) C dL_memory_11 rfl (by decide) rfl ?_
    refine V_iconst (v := 1) C dL_memory_12 (by decide) ?_
    exact E 1 (f, u9) _ _ dL_memory_13 rfl (Or.inr (Or.inl ⟨rfl, hp9⟩))
  · refine V_lastn (ws' := ([(ao, .inl (K 1, 1, .inr (.inl (vp_updL f 0 r9))))] ++ cw K h u9)) C dL_memory_7 0 1 rfl rfl (0) (by decide) (by unfold vp_in; decide) rfl ?_
    refine V_goto (tgt := 14) C dL_memory_8 (by decide) ?_
    refine V_iconst (v := 0) C dL_memory_14 (by decide) ?_
    exact E 0 ((vp_updL f 0 r9), u9) _ _ dL_memory_15 rfl (Or.inl ⟨rfl, r9, hp9, (by first | rfl | simp [vp_updL])⟩)
set_option maxHeartbeats 4000000 in
set_option maxRecDepth 100000 in
theorem L_poke (l : Launch) (D : va_G) (K : Nat → ClassId) (G : gE) (go : gOk G) (gc : gCa G) (h : Nat → Nat) (u : CS) (ao : Nat) (f : Nat → Int64) (x0 : Int32) (x1 : Int64) {post : CS → Prop} {px : String → CS → Prop} (hpx : ∀ (E9 : String) (u9 : CS), px E9 u9 → E9 = "java/lang/IllegalArgumentException") (hX : xMv l D vwCl (tys0 K) G yX7_poke wsX7_poke ({ frames := 6, cells := 1, slots := 6, locals := 82 } : Room) [.ref (h 0), .int x0, .long x1] (cw K h u) (cw K h) post px) : gMi l D vwCl (tys0 K) G yL_poke wsL_poke ({ frames := 7, cells := 1, slots := 6, locals := 105 } : Room) [.ref (h 0), .int x0, .long x1] (lwd K h ao (f, u)) (lwd K h ao) (hpv post px) := by
  refine lMi_of (cc := cL_poke) (nL := 5) (rt := .int) (hh := [(0, 6, 9, 13)]) (by decide) rfl (Nat.le_of_ble_eq_true rfl) ?_
  intro X C hg ht E
  show V X 0 0 ([(ao, .inl (K 1, 1, .inr (.inl f)))] ++ cw K h u) 0 [(0, .ref (h 0)), (1, .int x0), (2, .long x1)] []
  refine V_aload_n C dL_poke_0 rfl 0 rfl ?_
  refine V_iload_n C dL_poke_1 rfl 1 rfl ?_
  refine V_lload_n C dL_poke_2 rfl 2 rfl ?_
  refine V_xcallvV C go hg dL_poke_3 0 (cw_a rfl) rfl hX gL_poke_X7_poke rfl 2 rfl (by decide +kernel) (by decide) ⟨Nat.le_of_ble_eq_true rfl, Nat.le_of_ble_eq_true rfl⟩ rfl (Nat.le_of_ble_eq_true rfl) (fun E9 u9 hp9 => ?_) (fun u9 hp9 => ?_)
  · obtain rfl := hpx E9 u9 hp9
    refine V_catch C ht [] ⟨0, 6, 9, 13⟩ [] rfl (fun z hz => absurd hz List.not_mem_nil) (by decide) (by decide) (List.mem_of_getElem? (i := 1) rfl) (vG_to (fun A U H q => (gc A U H q).1) hg) (fun q9 => ?_)
    refine V_astore (lv' := [(4, .ref q9), (0, .ref (h 0)), (1, .int x0), (2, .long x1)]) C dL_poke_9 (by decide) rfl ?_
    refine V_iconst (v := 1) C dL_poke_11 (by decide) ?_
    exact E 1 (f, u9) _ _ dL_poke_12 rfl (Or.inr (Or.inl ⟨rfl, hp9⟩))
  · refine V_goto (tgt := 13) C dL_poke_6 (by decide) ?_
    refine V_iconst (v := 0) C dL_poke_13 (by decide) ?_
    exact E 0 (f, u9) _ _ dL_poke_14 rfl (Or.inl ⟨rfl, hp9⟩)
set_option maxHeartbeats 4000000 in
set_option maxRecDepth 100000 in
theorem L_look (l : Launch) (D : va_G) (K : Nat → ClassId) (G : gE) (go : gOk G) (gc : gCa G) (h : Nat → Nat) (u : CS) (ao : Nat) (f : Nat → Int64) (x0 : Int32) {post : Int32 → CS → Prop} {px : String → CS → Prop} (hpx : ∀ (E9 : String) (u9 : CS), px E9 u9 → E9 = "java/lang/IllegalArgumentException") (hX : xMi l D vwCl (tys0 K) G yX7_look wsX7_look ({ frames := 6, cells := 1, slots := 6, locals := 82 } : Room) [.ref (h 0), .int x0] (cw K h u) (cw K h) post px) : gMi l D vwCl (tys0 K) G yL_look wsL_look ({ frames := 7, cells := 1, slots := 6, locals := 103 } : Room) [.ref (h 0), .int x0, .ref ao] (lwd K h ao (f, u)) (lwd K h ao) (hpi post px) := by
  refine lMi_of (cc := cL_look) (nL := 4) (rt := .int) (hh := [(0, 9, 12, 13)]) (by decide) rfl (Nat.le_of_ble_eq_true rfl) ?_
  intro X C hg ht E
  show V X 0 0 ([(ao, .inl (K 1, 1, .inr (.inl f)))] ++ cw K h u) 0 [(0, .ref (h 0)), (1, .int x0), (2, .ref ao)] []
  refine V_aload_n C dL_look_0 rfl 2 rfl ?_
  refine V_iconst (v := 0) C dL_look_1 (by decide) ?_
  refine V_aload_n C dL_look_2 rfl 0 rfl ?_
  refine V_iload_n C dL_look_3 rfl 1 rfl ?_
  refine V_xcalliV C go hg dL_look_4 0 (cw_a rfl) rfl hX gL_look_X7_look rfl 1 rfl (by decide +kernel) (by decide) ⟨Nat.le_of_ble_eq_true rfl, Nat.le_of_ble_eq_true rfl⟩ rfl (Nat.le_of_ble_eq_true rfl) (fun E9 u9 hp9 => ?_) (fun r9 u9 hp9 => ?_)
  · obtain rfl := hpx E9 u9 hp9
    refine V_catch C ht [] ⟨0, 9, 12, 13⟩ [] rfl (fun z hz => absurd hz List.not_mem_nil) (by decide) (by decide) (List.mem_of_getElem? (i := 1) rfl) (vG_to (fun A U H q => (gc A U H q).1) hg) (fun q9 => ?_)
    refine V_astore_n (lv' := [(3, .ref q9), (0, .ref (h 0)), (1, .int x0), (2, .ref ao)]) C dL_look_12 rfl (by decide) rfl ?_
    refine V_iconst (v := 1) C dL_look_13 (by decide) ?_
    exact E 1 (f, u9) _ _ dL_look_14 rfl (Or.inr (Or.inl ⟨rfl, hp9⟩))
  · refine V_i2l C dL_look_7 ?_
    refine V_lastn (ws' := ([(ao, .inl (K 1, 1, .inr (.inl (vp_updL f 0 (Int32.toInt64 r9)))))] ++ cw K h u9)) C dL_look_8 0 1 rfl rfl (0) (by decide) (by unfold vp_in; decide) rfl ?_
    refine V_goto (tgt := 15) C dL_look_9 (by decide) ?_
    refine V_iconst (v := 0) C dL_look_15 (by decide) ?_
    exact E 0 ((vp_updL f 0 (Int32.toInt64 r9)), u9) _ _ dL_look_16 rfl (Or.inl ⟨rfl, r9, hp9, (by first | rfl | simp [vp_updL])⟩)
set_option maxHeartbeats 4000000 in
set_option maxRecDepth 100000 in
theorem L_backing (l : Launch) (D : va_G) (K : Nat → ClassId) (G : gE) (go : gOk G) (gc : gCa G) (h : Nat → Nat) (u : CS) (ao : Nat) (f : Nat → Int64) (x0 : Int32) {post : Int64 → CS → Prop} {px : String → CS → Prop} (hpx : ∀ (E9 : String) (u9 : CS), px E9 u9 → E9 = "java/lang/IllegalArgumentException") (hX : xMl l D vwCl (tys0 K) G yX7_backing wsX7_backing ({ frames := 6, cells := 1, slots := 6, locals := 82 } : Room) [.ref (h 0), .int x0] (cw K h u) (cw K h) post px) : gMi l D vwCl (tys0 K) G yL_backing wsL_backing ({ frames := 7, cells := 1, slots := 6, locals := 103 } : Room) [.ref (h 0), .int x0, .ref ao] (lwd K h ao (f, u)) (lwd K h ao) (hpl post px) := by
  refine lMi_of (cc := cL_backing) (nL := 4) (rt := .int) (hh := [(0, 8, 11, 13)]) (by decide) rfl (Nat.le_of_ble_eq_true rfl) ?_
  intro X C hg ht E
  show V X 0 0 ([(ao, .inl (K 1, 1, .inr (.inl f)))] ++ cw K h u) 0 [(0, .ref (h 0)), (1, .int x0), (2, .ref ao)] []
  refine V_aload_n C dL_backing_0 rfl 2 rfl ?_
  refine V_iconst (v := 0) C dL_backing_1 (by decide) ?_
  refine V_aload_n C dL_backing_2 rfl 0 rfl ?_
  refine V_iload_n C dL_backing_3 rfl 1 rfl ?_
  refine V_xcalllV C go hg dL_backing_4 0 (cw_a rfl) rfl hX gL_backing_X7_backing rfl 1 rfl (by decide +kernel) (by decide) ⟨Nat.le_of_ble_eq_true rfl, Nat.le_of_ble_eq_true rfl⟩ rfl (Nat.le_of_ble_eq_true rfl) (fun E9 u9 hp9 => ?_) (fun r9 u9 hp9 => ?_)
  · obtain rfl := hpx E9 u9 hp9
    refine V_catch C ht [] ⟨0, 8, 11, 13⟩ [] rfl (fun z hz => absurd hz List.not_mem_nil) (by decide) (by decide) (List.mem_of_getElem? (i := 1) rfl) (vG_to (fun A U H q => (gc A U H q).1) hg) (fun q9 => ?_)
    refine V_astore_n (lv' := [(3, .ref q9), (0, .ref (h 0)), (1, .int x0), (2, .ref ao)]) C dL_backing_11 rfl (by decide) rfl ?_
    refine V_iconst (v := 1) C dL_backing_12 (by decide) ?_
    exact E 1 (f, u9) _ _ dL_backing_13 rfl (Or.inr (Or.inl ⟨rfl, hp9⟩))
  · refine V_lastn (ws' := ([(ao, .inl (K 1, 1, .inr (.inl (vp_updL f 0 r9))))] ++ cw K h u9)) C dL_backing_7 0 1 rfl rfl (0) (by decide) (by unfold vp_in; decide) rfl ?_
    refine V_goto (tgt := 14) C dL_backing_8 (by decide) ?_
    refine V_iconst (v := 0) C dL_backing_14 (by decide) ?_
    exact E 0 ((vp_updL f 0 r9), u9) _ _ dL_backing_15 rfl (Or.inl ⟨rfl, r9, hp9, (by first | rfl | simp [vp_updL])⟩)
