theorem lcond {L j : Nat} (hL : L ≤ 3584) (hj : j ≤ 512) (h : ¬ nI L - 7 < nI (7 * j)) : 7 * j + 7 ≤ L := by
  have h1 := Int32.le_iff_toInt_le.mp (Int32.not_lt.mp h)
  rw [Int32.toInt_sub, nI_toInt (n := L) (by omega), nI_toInt (n := 7 * j) (by omega), show (7 : Int32).toInt = 7 from by decide] at h1
  simp only [Int.bmod] at h1
  split at h1 <;> omega
theorem V_rot {X : vCtx} {kc kn : Nat} {pc : Nat} {lv : List (Nat × Value)} {st : List Value} {a b : va_W} (k : V X kc kn (b ++ a) pc lv st) : V X kc kn (a ++ b) pc lv st := V_swap (a := []) (b := a) (c9 := b) k
set_option maxHeartbeats 4000000 in
set_option maxRecDepth 100000 in
theorem k_loop {X : vCtx} {l : Launch} (hlf : l.stackTraces = false) {D : va_G} {K : Nat → ClassId} {G : gE} {tb : Nat → Nat} (ga9 : gAll G tb) (gx : gXc G) (gc : gCa G) {h h2 : Nat → Nat} {ao : Nat} (C : vC X cL_law 8 wsL_law RL vwCl D (tys0 K) l room_1) (hg : vG X G) {b L : Nat} {xs : Nat → Int32} (hs : vS X b L xs) (hL : L ≤ 3584) (exit : ∀ (kc kn : Nat) (ws : va_W) (lv : List (Nat × Value)), kc ≤ 601024 → kn ≤ 7293034 → V X kc kn ws 907 lv []) : ∀ (r j kc kn : Nat) (f : Nat → Int64) (u : CS) (v : MS), j + r = 512 → kc + r ≤ 601024 → kn + 6 * r ≤ 7293034 → RW u v → V X kc kn (mw K h2 v ++ lwd K h ao (f, u)) 23 [(4, .int (nI (7 * j))), (3, .ref ao), (2, .ref (h2 0)), (1, .ref (h 0)), (0, .ref b)] [] := by
  intro r
  induction r with
  | zero =>
    intro j kc kn f u v hr q1 q2 hR
    refine V_iload C dL_law_23 0 rfl ?_
    refine V_aload_n C dL_law_25 rfl 4 rfl ?_
    refine V_slen C hs dL_law_26 ?_
    refine V_bipush (v := 7) C dL_law_27 (by decide) ?_
    refine V_isub C dL_law_29 ?_
    refine V_icmp_gt (tgt := 907) C dL_law_30 (by decide) (fun z => exit _ _ _ _ (by omega) (by omega)) (fun z => ?_)
    exact absurd (lcond hL (by omega) z) (by omega)
  | succ r ih =>
    intro j kc kn f u v hr q1 q2 hR
    refine V_iload C dL_law_23 0 rfl ?_
    refine V_aload_n C dL_law_25 rfl 4 rfl ?_
    refine V_slen C hs dL_law_26 ?_
    refine V_bipush (v := 7) C dL_law_27 (by decide) ?_
    refine V_isub C dL_law_29 ?_
    refine V_icmp_gt (tgt := 907) C dL_law_30 (by decide) (fun z => exit _ _ _ _ (by omega) (by omega)) (fun z => ?_)
    have hj := lcond hL (by omega) z
    refine V_aload_n C dL_law_33 rfl 4 rfl ?_
    refine V_iload C dL_law_34 0 rfl ?_
    refine V_sld C hs dL_law_36 (lin (by omega) hL) ?_
    refine V_bipush (v := 15) C dL_law_37 (by decide) ?_
    refine V_iand C dL_law_39 ?_
    have e901 : ∀ (k9 n9 : Nat) (v9 : MS) (f9 : Nat → Int64) (u9 : CS), k9 + r ≤ 601024 → n9 + 6 * r ≤ 7293034 → RW u9 v9 → V X k9 n9 (mw K h2 v9 ++ lwd K h ao (f9, u9)) 901 [(4, .int (nI (7 * j))), (3, .ref ao), (2, .ref (h2 0)), (1, .ref (h 0)), (0, .ref b)] [] := by
      intro k9 n9 v9 f9 u9 z1 z2 z3
      refine V_iinc (lv' := [(4, .int (nI (7 * (j + 1)))), (3, .ref ao), (2, .ref (h2 0)), (1, .ref (h 0)), (0, .ref b)]) C dL_law_901 (j := 0) rfl (by rw [show Int32.ofInt 7 = nI 7 by decide, nI_add, Nat.mul_succ]) (by decide) rfl ?_
      refine V_goto (tgt := 23) C dL_law_904 (by decide) ?_
      exact ih (j + 1) k9 n9 f9 u9 v9 (by omega) z1 z2 z3
    generalize (xs (nI (7 * j)).toNatClampNeg &&& 15) = x
    by_cases z0 : x = 0
    · refine V_tab C dL_law_40 104 (Or.inl (by rw [z0]; exact ⟨by decide, by decide, _, rfl, by decide⟩)) ?_
      exact k_instruction hlf ga9 gx gc C hg hs hj hL (by omega) (by omega) hR (fun v9 f9 u9 h9 => e901 (kc + 1) (kn + 6) v9 f9 u9 (by omega) (by omega) h9)
    by_cases z1 : x = 1
    · refine V_tab C dL_law_40 238 (Or.inl (by rw [z1]; exact ⟨by decide, by decide, _, rfl, by decide⟩)) ?_
      exact k_take hlf ga9 gx gc C hg hs hj hL (by omega) (by omega) hR (fun v9 f9 u9 h9 => e901 (kc + 1) (kn + 6) v9 f9 u9 (by omega) (by omega) h9)
    by_cases z2 : x = 2
    · refine V_tab C dL_law_40 282 (Or.inl (by rw [z2]; exact ⟨by decide, by decide, _, rfl, by decide⟩)) ?_
      exact k_fault hlf ga9 gx gc C hg hs hj hL (by omega) (by omega) hR (fun v9 f9 u9 h9 => e901 (kc + 1) (kn + 6) v9 f9 u9 (by omega) (by omega) h9)
    by_cases z3 : x = 3
    · refine V_tab C dL_law_40 338 (Or.inl (by rw [z3]; exact ⟨by decide, by decide, _, rfl, by decide⟩)) ?_
      exact k_run hlf ga9 gx gc C hg hs hj hL (by omega) (by omega) hR (fun v9 f9 u9 h9 => e901 (kc + 1) (kn + 6) v9 f9 u9 (by omega) (by omega) h9)
    by_cases z4 : x = 4
    · refine V_tab C dL_law_40 394 (Or.inl (by rw [z4]; exact ⟨by decide, by decide, _, rfl, by decide⟩)) ?_
      exact k_set hlf ga9 gx gc C hg hs hj hL (by omega) (by omega) hR (fun v9 f9 u9 h9 => e901 (kc + 1) (kn + 6) v9 f9 u9 (by omega) (by omega) h9)
    by_cases z5 : x = 5
    · refine V_tab C dL_law_40 474 (Or.inl (by rw [z5]; exact ⟨by decide, by decide, _, rfl, by decide⟩)) ?_
      exact k_register hlf ga9 gx gc C hg hs hj hL (by omega) (by omega) hR (fun v9 f9 u9 h9 => e901 (kc + 1) (kn + 6) v9 f9 u9 (by omega) (by omega) h9)
    by_cases z6 : x = 6
    · refine V_tab C dL_law_40 529 (Or.inl (by rw [z6]; exact ⟨by decide, by decide, _, rfl, by decide⟩)) ?_
      exact k_nat hlf ga9 gx gc C hg hs hj hL (by omega) (by omega) hR (fun v9 f9 u9 h9 => e901 (kc + 1) (kn + 6) v9 f9 u9 (by omega) (by omega) h9)
    by_cases z7 : x = 7
    · refine V_tab C dL_law_40 592 (Or.inl (by rw [z7]; exact ⟨by decide, by decide, _, rfl, by decide⟩)) ?_
      exact k_predicate hlf ga9 gx gc C hg hs hj hL (by omega) (by omega) hR (fun v9 f9 u9 h9 => e901 (kc + 1) (kn + 6) v9 f9 u9 (by omega) (by omega) h9)
    by_cases z8 : x = 8
    · refine V_tab C dL_law_40 655 (Or.inl (by rw [z8]; exact ⟨by decide, by decide, _, rfl, by decide⟩)) ?_
      exact k_memory hlf ga9 gx gc C hg hs hj hL (by omega) (by omega) hR (fun v9 f9 u9 h9 => e901 (kc + 1) (kn + 6) v9 f9 u9 (by omega) (by omega) h9)
    by_cases z9 : x = 9
    · refine V_tab C dL_law_40 710 (Or.inl (by rw [z9]; exact ⟨by decide, by decide, _, rfl, by decide⟩)) ?_
      exact k_poke hlf ga9 gx gc C hg hs hj hL (by omega) (by omega) hR (fun v9 f9 u9 h9 => e901 (kc + 1) (kn + 6) v9 f9 u9 (by omega) (by omega) h9)
    by_cases z10 : x = 10
    · refine V_tab C dL_law_40 790 (Or.inl (by rw [z10]; exact ⟨by decide, by decide, _, rfl, by decide⟩)) ?_
      exact k_look hlf ga9 gx gc C hg hs hj hL (by omega) (by omega) hR (fun v9 f9 u9 h9 => e901 (kc + 1) (kn + 6) v9 f9 u9 (by omega) (by omega) h9)
    by_cases z11 : x = 11
    · refine V_tab C dL_law_40 846 (Or.inl (by rw [z11]; exact ⟨by decide, by decide, _, rfl, by decide⟩)) ?_
      exact k_backing hlf ga9 gx gc C hg hs hj hL (by omega) (by omega) hR (fun v9 f9 u9 h9 => e901 (kc + 1) (kn + 6) v9 f9 u9 (by omega) (by omega) h9)
    refine V_tab C dL_law_40 901 (Or.inr ⟨by have q_0 := i32ne (c := 0) 0 (by decide) z0; have q_1 := i32ne (c := 1) 1 (by decide) z1; have q_2 := i32ne (c := 2) 2 (by decide) z2; have q_3 := i32ne (c := 3) 3 (by decide) z3; have q_4 := i32ne (c := 4) 4 (by decide) z4; have q_5 := i32ne (c := 5) 5 (by decide) z5; have q_6 := i32ne (c := 6) 6 (by decide) z6; have q_7 := i32ne (c := 7) 7 (by decide) z7; have q_8 := i32ne (c := 8) 8 (by decide) z8; have q_9 := i32ne (c := 9) 9 (by decide) z9; have q_10 := i32ne (c := 10) 10 (by decide) z10; have q_11 := i32ne (c := 11) 11 (by decide) z11; omega, by decide⟩) ?_
    exact e901 kc kn v f u (by omega) (by omega) hR
set_option maxHeartbeats 4000000 in
set_option maxRecDepth 100000 in
theorem k_start {X : vCtx} {l : Launch} (hlf : l.stackTraces = false) {D : va_G} {K : Nat → ClassId} {G : gE} {tb : Nat → Nat} (ga9 : gAll G tb) (gx : gXc G) (gc : gCa G) (go9 : gAo G) (C : vC X cL_law 8 wsL_law RL vwCl D (tys0 K) l room_1) (hg : vG X G) {b L : Nat} {xs : Nat → Int32} (hs : vS X b L xs) (hL : L ≤ 3584) (exit : ∀ (kc kn : Nat) (ws : va_W) (lv : List (Nat × Value)), kc ≤ 601024 → kn ≤ 7293034 → V X kc kn ws 907 lv []) : V X 0 0 [] 0 [(0, .ref b)] [] := by
  refine V_new (ci := 7) (fs := [.null, .null, .null, .null, .null, .null, .int 0, .int 0, .int 0, .int 0]) C dL_law_0 inlX7 tyX7_ok (List.mem_of_getElem? (i := 0) rfl) (List.mem_of_getElem? (i := 1) rfl) (List.mem_of_getElem? (i := 2) rfl) rfl (by decide) (Nat.le_of_ble_eq_true rfl) (Nat.le_of_ble_eq_true rfl) ?_
  intro q1
  refine V_dup C dL_law_3 rfl ?_
  refine V_icall (rest := [.ref q1]) (ws := []) C ga9.1 hg dL_law_4 (c_X7_init l D K G ga9.1 ga9.2.1 go9 q1) (List.mem_of_getElem? (i := 8) rfl) (List.mem_of_getElem? (i := 9) rfl) (List.mem_of_getElem? (i := 2) rfl) ggL_law_X7_init rfl rfl 0 rfl (by decide +kernel) ⟨(Nat.le_of_ble_eq_true rfl), (Nat.le_of_ble_eq_true rfl)⟩ ⟨(Nat.le_of_ble_eq_true rfl), (Nat.le_of_ble_eq_true rfl)⟩ rfl (Nat.le_of_ble_eq_true rfl) (fun h hq1 => ?_)
  have hq1 : h 0 = q1 := hq1
  refine V_ws (ws' := cw K h c0) (List.nil_append _) ?_
  refine V_astore_n (lv' := [(1, .ref q1), (0, .ref b)]) C dL_law_7 rfl (by decide) rfl ?_
  refine V_new (ci := 8) (fs := [.int 0, .null, .null, .null, .null, .int 0, .int 0, .int 0, .int 0, .int 0, .int 0, .int 0, .int 0, .null, .null, .null, .null, .null, .null, .null, .null, .int 0, .int 0, .int 0, .int 0, .null, .int 0, .int 0, .int 0, .int 0, .int 0]) C dL_law_8 inlX8 tyX8_ok (List.mem_of_getElem? (i := 3) rfl) (List.mem_of_getElem? (i := 4) rfl) (List.mem_of_getElem? (i := 5) rfl) rfl (by decide) (Nat.le_of_ble_eq_true rfl) (Nat.le_of_ble_eq_true rfl) ?_
  intro q2
  refine V_dup C dL_law_11 rfl ?_
  refine V_icall (rest := [.ref q2]) (ws := cw K h c0) C ga9.1 hg dL_law_12 (c_X8_init l D K G q2) (List.mem_of_getElem? (i := 77) rfl) (List.mem_of_getElem? (i := 78) rfl) (List.mem_of_getElem? (i := 5) rfl) ggL_law_X8_init rfl rfl 0 rfl (by decide +kernel) ⟨(Nat.le_of_ble_eq_true rfl), (Nat.le_of_ble_eq_true rfl)⟩ ⟨(Nat.le_of_ble_eq_true rfl), (Nat.le_of_ble_eq_true rfl)⟩ rfl (Nat.le_of_ble_eq_true rfl) (fun h2 hq2 => ?_)
  have hq2 : h2 0 = q2 := hq2
  subst hq1; subst hq2
  refine V_astore_n (lv' := [(2, .ref (h2 0)), (1, .ref (h 0)), (0, .ref b)]) C dL_law_15 rfl (by decide) rfl ?_
  refine V_iconst (v := 1) C dL_law_16 (by decide) ?_
  refine V_newa (a0 := (1, .inr (.inl (fun _ => 0)))) (ty := .long) C dL_law_17 (List.mem_of_getElem? (i := 6) rfl) rfl 1 rfl (fun _ _ h9 => h9) (fun _ => rfl) (by decide) (by decide) (by decide) (Nat.le_of_ble_eq_true rfl) (Nat.le_of_ble_eq_true rfl) ?_
  intro ao
  refine V_astore_n (lv' := [(3, .ref ao), (2, .ref (h2 0)), (1, .ref (h 0)), (0, .ref b)]) C dL_law_19 rfl (by decide) rfl ?_
  refine V_iconst (v := 0) C dL_law_20 (by decide) ?_
  refine V_istore (lv' := [(4, .int (nI (7 * 0))), (3, .ref ao), (2, .ref (h2 0)), (1, .ref (h 0)), (0, .ref b)]) C dL_law_21 (by decide) rfl ?_
  refine V_rot (a := cw K h c0 ++ mw K h2 m0) (b := [(ao, .inl (K 1, 1, .inr (.inl (fun _ => 0))))]) ?_
  refine V_ws (ws' := ([(ao, .inl (K 1, 1, .inr (.inl (fun _ => 0))))] ++ cw K h c0) ++ mw K h2 m0) (List.append_assoc _ _ _).symm ?_
  refine V_rot (a := [(ao, .inl (K 1, 1, .inr (.inl (fun _ => 0))))] ++ cw K h c0) (b := mw K h2 m0) ?_
  exact k_loop hlf ga9 gx gc C hg hs hL exit 512 0 _ _ (fun _ => 0) c0 m0 rfl (Nat.le_of_ble_eq_true rfl) (Nat.le_of_ble_eq_true rfl) RW_0
