theorem comb_i {post : Int32 → CS → Prop} {px : String → CS → Prop} {r : Int32} {v : MS} (h : OUT post px r v) : ∀ (k : Int32) (s : (Nat → Int64) × CS), hpi post px k s → gi v 0 = k ∧ (k = 0 → s.1 0 = Int32.toInt64 r) ∧ RW s.2 v := by
  intro k s hp
  rcases hp with ⟨rfl, r9, h1, h2⟩ | ⟨rfl, h1⟩ | ⟨rfl, h1⟩
  · obtain ⟨a, b, c⟩ := h.1 r9 s.2 h1
    exact ⟨a, fun _ => by rw [h2, b], c⟩
  · obtain ⟨a, c⟩ := h.2 _ s.2 h1
    rcases a with ⟨-, a⟩ | ⟨e, -⟩
    · exact ⟨a, fun z => absurd z (by decide), c⟩
    · exact absurd e (by decide)
  · obtain ⟨a, c⟩ := h.2 _ s.2 h1
    rcases a with ⟨e, -⟩ | ⟨-, a⟩
    · exact absurd e (by decide)
    · exact ⟨a, fun z => absurd z (by decide), c⟩
theorem comb_l {post : Int64 → CS → Prop} {px : String → CS → Prop} {r : Int64} {v : MS} (h : OUT post px r v) : ∀ (k : Int32) (s : (Nat → Int64) × CS), hpl post px k s → gi v 0 = k ∧ (k = 0 → s.1 0 = r) ∧ RW s.2 v := by
  intro k s hp
  rcases hp with ⟨rfl, r9, h1, h2⟩ | ⟨rfl, h1⟩ | ⟨rfl, h1⟩
  · obtain ⟨a, b, c⟩ := h.1 r9 s.2 h1
    exact ⟨a, fun _ => by rw [h2, b], c⟩
  · obtain ⟨a, c⟩ := h.2 _ s.2 h1
    rcases a with ⟨-, a⟩ | ⟨e, -⟩
    · exact ⟨a, fun z => absurd z (by decide), c⟩
    · exact absurd e (by decide)
  · obtain ⟨a, c⟩ := h.2 _ s.2 h1
    rcases a with ⟨e, -⟩ | ⟨-, a⟩
    · exact absurd e (by decide)
    · exact ⟨a, fun z => absurd z (by decide), c⟩
theorem comb_z {post : Int32 → CS → Prop} {px : String → CS → Prop} {r : Int32} {v : MS} (h : OUT post px r v) : ∀ (k : Int32) (s : (Nat → Int64) × CS), hpz post px k s → gi v 0 = k ∧ (k = 0 → s.1 0 = (if r = 0 then 0 else 1)) ∧ RW s.2 v := by
  intro k s hp
  rcases hp with ⟨rfl, r9, h1, h2⟩ | ⟨rfl, h1⟩ | ⟨rfl, h1⟩
  · obtain ⟨a, b, c⟩ := h.1 r9 s.2 h1
    exact ⟨a, fun _ => by rw [h2, b], c⟩
  · obtain ⟨a, c⟩ := h.2 _ s.2 h1
    rcases a with ⟨-, a⟩ | ⟨e, -⟩
    · exact ⟨a, fun z => absurd z (by decide), c⟩
    · exact absurd e (by decide)
  · obtain ⟨a, c⟩ := h.2 _ s.2 h1
    rcases a with ⟨e, -⟩ | ⟨-, a⟩
    · exact absurd e (by decide)
    · exact ⟨a, fun z => absurd z (by decide), c⟩
theorem comb_v {post : CS → Prop} {px : String → CS → Prop} {v : MS} (h : OUTv post px v) : ∀ (k : Int32) (s : (Nat → Int64) × CS), hpv post px k s → gi v 0 = k ∧ RW s.2 v := by
  intro k s hp
  rcases hp with ⟨rfl, h1⟩ | ⟨rfl, h1⟩ | ⟨rfl, h1⟩
  · exact h.1 s.2 h1
  · obtain ⟨a, c⟩ := h.2 _ s.2 h1
    rcases a with ⟨-, a⟩ | ⟨e, -⟩
    · exact ⟨a, c⟩
    · exact absurd e (by decide)
  · obtain ⟨a, c⟩ := h.2 _ s.2 h1
    rcases a with ⟨e, -⟩ | ⟨-, a⟩
    · exact absurd e (by decide)
    · exact ⟨a, c⟩
theorem RW.c41 {u : CS} {v : MS} (h : RW u v) : cC u < 41 := by
  obtain ⟨n, PP, ap, pp, k, DD, ad, pd, h⟩ := h
  exact Nat.lt_succ_of_le h.1.2.2.2.1.1
theorem JJ.neg {b : Bool} {n : Nat} {PP : Nat → I6} {ad pI : Nat → Nat} {u0 u : CS} {v0 v : MS} (h : JJ b n PP ad pI u0 v0 u v) (hr : (mStep v (mN v)).1 < 0) : (dStep u (Nw PP u)).1 = -1 := by
  have hs := h.st.2
  by_cases q : (dStep u (Nw PP u)).1 = -1
  · exact q
  · obtain ⟨k1, -, -⟩ := hs.2.2 q
    rw [← hs.1] at hr
    exact absurd hr (Int32.not_lt.mpr k1)
theorem p_fault (l : Launch) (hlf : l.stackTraces = false) (D : va_G) (K : Nat → ClassId) (G : gE) (tb : Nat → Nat) (ga9 : gAll G tb) (gx : gXc G) (gc : gCa G) (h h2 : Nat → Nat) (ao : Nat) (f : Nat → Int64) {u : CS} {v : MS} (hR : RW u v) (x : Int32) : ∃ (P : Int32 → (Nat → Int64) × CS → Prop) (r0 : Int32) (v0 : MS), gMi l D vwCl (tys0 K) G yL_fault wsL_fault ({ frames := 7, cells := 1, slots := 6, locals := 103 } : Room) [.ref (h 0), .int x, .ref ao] (lwd K h ao (f, u)) (lwd K h ao) P ∧ vMi l D vwCl (tys0 K) yX8_fault wsX8_fault ({ frames := 1, cells := 0, slots := 0, locals := 22 } : Room) [.ref (h2 0), .int x] (mw K h2 v) (mw K h2) (fun r9 u9 => r9 = r0 ∧ u9 = v0) ∧ ∀ (k : Int32) (s : (Nat → Int64) × CS), P k s → gi v0 0 = k ∧ (k = 0 → s.1 0 = Int32.toInt64 r0) ∧ RW s.2 v0 :=
  ⟨_, _, _, L_fault l D K G ga9.1 gc h u ao f x (fun _ _ q => q.1) (c_X7_fault l hlf D K G tb ga9 gx h u x), c_X8_fault l D K h2 v x , comb_i (s_fault hR x)⟩
theorem p_set (l : Launch) (hlf : l.stackTraces = false) (D : va_G) (K : Nat → ClassId) (G : gE) (tb : Nat → Nat) (ga9 : gAll G tb) (gx : gXc G) (gc : gCa G) (h h2 : Nat → Nat) (ao : Nat) (f : Nat → Int64) {u : CS} {v : MS} (hR : RW u v) (x : Int32) (y : Int64) : ∃ (P : Int32 → (Nat → Int64) × CS → Prop) (v0 : MS), gMi l D vwCl (tys0 K) G yL_set wsL_set ({ frames := 7, cells := 1, slots := 6, locals := 105 } : Room) [.ref (h 0), .int x, .long y] (lwd K h ao (f, u)) (lwd K h ao) P ∧ vMv l D vwCl (tys0 K) yX8_set wsX8_set ({ frames := 2, cells := 0, slots := 0, locals := 46 } : Room) [.ref (h2 0), .int x, .long y] (mw K h2 v) (mw K h2) (fun u9 => u9 = v0) ∧ ∀ (k : Int32) (s : (Nat → Int64) × CS), P k s → gi v0 0 = k ∧ RW s.2 v0 :=
  ⟨_, _, L_set l D K G ga9.1 gc h u ao f x y (fun _ _ q => q.1) (c_X7_set l hlf D K G tb ga9 gx h u x y hR.c41), c_X8_set l D K h2 v x y , comb_v (s_set hR x y)⟩
theorem p_register (l : Launch) (hlf : l.stackTraces = false) (D : va_G) (K : Nat → ClassId) (G : gE) (tb : Nat → Nat) (ga9 : gAll G tb) (gx : gXc G) (gc : gCa G) (h h2 : Nat → Nat) (ao : Nat) (f : Nat → Int64) {u : CS} {v : MS} (hR : RW u v) (x : Int32) : ∃ (P : Int32 → (Nat → Int64) × CS → Prop) (r0 : Int64) (v0 : MS), gMi l D vwCl (tys0 K) G yL_register wsL_register ({ frames := 7, cells := 1, slots := 6, locals := 103 } : Room) [.ref (h 0), .int x, .ref ao] (lwd K h ao (f, u)) (lwd K h ao) P ∧ vMl l D vwCl (tys0 K) yX8_register wsX8_register ({ frames := 2, cells := 0, slots := 0, locals := 43 } : Room) [.ref (h2 0), .int x] (mw K h2 v) (mw K h2) (fun r9 u9 => r9 = r0 ∧ u9 = v0) ∧ ∀ (k : Int32) (s : (Nat → Int64) × CS), P k s → gi v0 0 = k ∧ (k = 0 → s.1 0 = r0) ∧ RW s.2 v0 :=
  ⟨_, _, _, L_register l D K G ga9.1 gc h u ao f x (fun _ _ q => q.1) (c_X7_register l hlf D K G tb ga9 gx h u x hR.c41), c_X8_register l D K h2 v x (s_reg hR x).1, comb_l (s_register hR x)⟩
theorem p_nat (l : Launch) (hlf : l.stackTraces = false) (D : va_G) (K : Nat → ClassId) (G : gE) (tb : Nat → Nat) (ga9 : gAll G tb) (gx : gXc G) (gc : gCa G) (h h2 : Nat → Nat) (ao : Nat) (f : Nat → Int64) {u : CS} {v : MS} (hR : RW u v) (x : Int32) : ∃ (P : Int32 → (Nat → Int64) × CS → Prop) (r0 : Int32) (v0 : MS), gMi l D vwCl (tys0 K) G yL_nat wsL_nat ({ frames := 7, cells := 1, slots := 6, locals := 103 } : Room) [.ref (h 0), .int x, .ref ao] (lwd K h ao (f, u)) (lwd K h ao) P ∧ vMi l D vwCl (tys0 K) yX8_nat wsX8_nat ({ frames := 2, cells := 0, slots := 0, locals := 43 } : Room) [.ref (h2 0), .int x] (mw K h2 v) (mw K h2) (fun r9 u9 => r9 = r0 ∧ u9 = v0) ∧ ∀ (k : Int32) (s : (Nat → Int64) × CS), P k s → gi v0 0 = k ∧ (k = 0 → s.1 0 = (if r0 = 0 then 0 else 1)) ∧ RW s.2 v0 :=
  ⟨_, _, _, L_nat l D K G ga9.1 gc h u ao f x (fun _ _ q => q.1) (c_X7_nat l hlf D K G tb ga9 gx h u x hR.c41), c_X8_nat l D K h2 v x (s_reg hR x).1, comb_z (s_nat hR x)⟩
theorem p_predicate (l : Launch) (hlf : l.stackTraces = false) (D : va_G) (K : Nat → ClassId) (G : gE) (tb : Nat → Nat) (ga9 : gAll G tb) (gx : gXc G) (gc : gCa G) (h h2 : Nat → Nat) (ao : Nat) (f : Nat → Int64) {u : CS} {v : MS} (hR : RW u v) (x : Int32) : ∃ (P : Int32 → (Nat → Int64) × CS → Prop) (r0 : Int32) (v0 : MS), gMi l D vwCl (tys0 K) G yL_predicate wsL_predicate ({ frames := 7, cells := 1, slots := 6, locals := 103 } : Room) [.ref (h 0), .int x, .ref ao] (lwd K h ao (f, u)) (lwd K h ao) P ∧ vMi l D vwCl (tys0 K) yX8_predicate wsX8_predicate ({ frames := 1, cells := 0, slots := 0, locals := 22 } : Room) [.ref (h2 0), .int x] (mw K h2 v) (mw K h2) (fun r9 u9 => r9 = r0 ∧ u9 = v0) ∧ ∀ (k : Int32) (s : (Nat → Int64) × CS), P k s → gi v0 0 = k ∧ (k = 0 → s.1 0 = (if r0 = 0 then 0 else 1)) ∧ RW s.2 v0 :=
  ⟨_, _, _, L_predicate l D K G ga9.1 gc h u ao f x (fun _ _ q => q.1) (c_X7_predicate l hlf D K G tb ga9 gx h u x hR.c41), c_X8_predicate l D K h2 v x (s_predicate hR x).1, comb_z ((s_predicate hR x).2)⟩
theorem p_memory (l : Launch) (hlf : l.stackTraces = false) (D : va_G) (K : Nat → ClassId) (G : gE) (tb : Nat → Nat) (ga9 : gAll G tb) (gx : gXc G) (gc : gCa G) (h h2 : Nat → Nat) (ao : Nat) (f : Nat → Int64) {u : CS} {v : MS} (hR : RW u v) (x : Int32) : ∃ (P : Int32 → (Nat → Int64) × CS → Prop) (r0 : Int64) (v0 : MS), gMi l D vwCl (tys0 K) G yL_memory wsL_memory ({ frames := 7, cells := 1, slots := 6, locals := 103 } : Room) [.ref (h 0), .int x, .ref ao] (lwd K h ao (f, u)) (lwd K h ao) P ∧ vMl l D vwCl (tys0 K) yX8_memory wsX8_memory ({ frames := 1, cells := 0, slots := 0, locals := 22 } : Room) [.ref (h2 0), .int x] (mw K h2 v) (mw K h2) (fun r9 u9 => r9 = r0 ∧ u9 = v0) ∧ ∀ (k : Int32) (s : (Nat → Int64) × CS), P k s → gi v0 0 = k ∧ (k = 0 → s.1 0 = r0) ∧ RW s.2 v0 :=
  ⟨_, _, _, L_memory l D K G ga9.1 gc h u ao f x (fun _ _ q => q.1) (c_X7_memory l hlf D K G tb ga9 gx h u x), c_X8_memory l D K h2 v x , comb_l (s_memory hR x)⟩
theorem p_poke (l : Launch) (hlf : l.stackTraces = false) (D : va_G) (K : Nat → ClassId) (G : gE) (tb : Nat → Nat) (ga9 : gAll G tb) (gx : gXc G) (gc : gCa G) (h h2 : Nat → Nat) (ao : Nat) (f : Nat → Int64) {u : CS} {v : MS} (hR : RW u v) (x : Int32) (y : Int64) : ∃ (P : Int32 → (Nat → Int64) × CS → Prop) (v0 : MS), gMi l D vwCl (tys0 K) G yL_poke wsL_poke ({ frames := 7, cells := 1, slots := 6, locals := 105 } : Room) [.ref (h 0), .int x, .long y] (lwd K h ao (f, u)) (lwd K h ao) P ∧ vMv l D vwCl (tys0 K) yX8_poke wsX8_poke ({ frames := 1, cells := 0, slots := 0, locals := 22 } : Room) [.ref (h2 0), .int x, .long y] (mw K h2 v) (mw K h2) (fun u9 => u9 = v0) ∧ ∀ (k : Int32) (s : (Nat → Int64) × CS), P k s → gi v0 0 = k ∧ RW s.2 v0 :=
  ⟨_, _, L_poke l D K G ga9.1 gc h u ao f x y (fun _ _ q => q.1) (c_X7_poke l hlf D K G tb ga9 gx h u x y), c_X8_poke l D K h2 v x y , comb_v (s_poke hR x y)⟩
theorem p_look (l : Launch) (hlf : l.stackTraces = false) (D : va_G) (K : Nat → ClassId) (G : gE) (tb : Nat → Nat) (ga9 : gAll G tb) (gx : gXc G) (gc : gCa G) (h h2 : Nat → Nat) (ao : Nat) (f : Nat → Int64) {u : CS} {v : MS} (hR : RW u v) (x : Int32) : ∃ (P : Int32 → (Nat → Int64) × CS → Prop) (r0 : Int32) (v0 : MS), gMi l D vwCl (tys0 K) G yL_look wsL_look ({ frames := 7, cells := 1, slots := 6, locals := 103 } : Room) [.ref (h 0), .int x, .ref ao] (lwd K h ao (f, u)) (lwd K h ao) P ∧ vMi l D vwCl (tys0 K) yX8_look wsX8_look ({ frames := 1, cells := 0, slots := 0, locals := 22 } : Room) [.ref (h2 0), .int x] (mw K h2 v) (mw K h2) (fun r9 u9 => r9 = r0 ∧ u9 = v0) ∧ ∀ (k : Int32) (s : (Nat → Int64) × CS), P k s → gi v0 0 = k ∧ (k = 0 → s.1 0 = Int32.toInt64 r0) ∧ RW s.2 v0 :=
  ⟨_, _, _, L_look l D K G ga9.1 gc h u ao f x (fun _ _ q => q.1) (c_X7_look l hlf D K G tb ga9 gx h u x hR.c41), c_X8_look l D K h2 v x , comb_i (s_look hR x)⟩
theorem p_backing (l : Launch) (hlf : l.stackTraces = false) (D : va_G) (K : Nat → ClassId) (G : gE) (tb : Nat → Nat) (ga9 : gAll G tb) (gx : gXc G) (gc : gCa G) (h h2 : Nat → Nat) (ao : Nat) (f : Nat → Int64) {u : CS} {v : MS} (hR : RW u v) (x : Int32) : ∃ (P : Int32 → (Nat → Int64) × CS → Prop) (r0 : Int64) (v0 : MS), gMi l D vwCl (tys0 K) G yL_backing wsL_backing ({ frames := 7, cells := 1, slots := 6, locals := 103 } : Room) [.ref (h 0), .int x, .ref ao] (lwd K h ao (f, u)) (lwd K h ao) P ∧ vMl l D vwCl (tys0 K) yX8_backing wsX8_backing ({ frames := 1, cells := 0, slots := 0, locals := 22 } : Room) [.ref (h2 0), .int x] (mw K h2 v) (mw K h2) (fun r9 u9 => r9 = r0 ∧ u9 = v0) ∧ ∀ (k : Int32) (s : (Nat → Int64) × CS), P k s → gi v0 0 = k ∧ (k = 0 → s.1 0 = r0) ∧ RW s.2 v0 :=
  ⟨_, _, _, L_backing l D K G ga9.1 gc h u ao f x (fun _ _ q => q.1) (c_X7_backing l hlf D K G tb ga9 gx h u x), c_X8_backing l D K h2 v x , comb_l (s_backing hR x)⟩
theorem p_take (l : Launch) (hlf : l.stackTraces = false) (D : va_G) (K : Nat → ClassId) (G : gE) (tb : Nat → Nat) (ga9 : gAll G tb) (gx : gXc G) (gc : gCa G) (h h2 : Nat → Nat) (ao : Nat) (f : Nat → Int64) {u : CS} {v : MS} (hR : RW u v)  : ∃ (P : Int32 → (Nat → Int64) × CS → Prop) (r0 : Int32) (v0 : MS), gMi l D vwCl (tys0 K) G yL_take wsL_take ({ frames := 7, cells := 1, slots := 6, locals := 153 } : Room) [.ref (h 0), .ref ao] (lwd K h ao (f, u)) (lwd K h ao) P ∧ vMi l D vwCl (tys0 K) yX8_take wsX8_take ({ frames := 3, cells := 0, slots := 0, locals := 70 } : Room) [.ref (h2 0)] (mw K h2 v) (mw K h2) (fun r9 u9 => r9 = r0 ∧ u9 = v0) ∧ ∀ (k : Int32) (s : (Nat → Int64) × CS), P k s → gi v0 0 = k ∧ (k = 0 → s.1 0 = Int32.toInt64 r0) ∧ RW s.2 v0 := by
  have h41 := hR.c41
  obtain ⟨n, PP, ap, pp, k, DD, ad, pd, hx⟩ := hR
  have k40 := hx.2.2.1.1
  have e5 := hx.2.2.1.2.1
  obtain ⟨c1, c2⟩ := hx.2.2.2.1
  have hs := s_take hx
  cases hb : cS u
  · rw [hb] at hs c1 c2
    exact ⟨_, _, _, L_take l D K G ga9.1 gc h u ao f (fun _ _ q => q.1) (c_X7_take_false l hlf D K G tb ga9 gx h u h41 hb k c1 k40 ad pd DD (fun i hi => (c2 i hi).1) (fun i hi => (c2 i hi).2)), c_X8_take l D K h2 v k e5 k40, comb_i hs⟩
  · rw [hb] at hs c1 c2
    exact ⟨_, _, _, L_take l D K G ga9.1 gc h u ao f (fun _ _ q => q.1) (c_X7_take_true l hlf D K G tb ga9 gx h u h41 hb k c1 k40 ad pd DD (fun i hi => (c2 i hi).1) (fun i hi => (c2 i hi).2)), c_X8_take l D K h2 v k e5 k40, comb_i hs⟩
theorem p_run (l : Launch) (hlf : l.stackTraces = false) (D : va_G) (K : Nat → ClassId) (G : gE) (tb : Nat → Nat) (ga9 : gAll G tb) (gx : gXc G) (gc : gCa G) (h h2 : Nat → Nat) (ao : Nat) (f : Nat → Int64) {u : CS} {v : MS} (hR : RW u v) (x : Int32) : ∃ (P : Int32 → (Nat → Int64) × CS → Prop) (r0 : Int32) (v0 : MS), gMi l D vwCl (tys0 K) G yL_run wsL_run ({ frames := 7, cells := 1, slots := 6, locals := 163 } : Room) [.ref (h 0), .int x, .ref ao] (lwd K h ao (f, u)) (lwd K h ao) P ∧ vMi l D vwCl (tys0 K) yX8_run wsX8_run ({ frames := 4, cells := 0, slots := 0, locals := 102 } : Room) [.ref (h2 0), .int x] (mw K h2 v) (mw K h2) (fun r9 u9 => r9 = r0 ∧ u9 = v0) ∧ ∀ (k : Int32) (s : (Nat → Int64) × CS), P k s → gi v0 0 = k ∧ (k = 0 → s.1 0 = Int32.toInt64 r0) ∧ RW s.2 v0 := by
  have h41 := hR.c41
  obtain ⟨n, PP, ap, pp, k, DD, ad, pd, hx⟩ := hR
  have e7 := hx.2.1.2.1
  have e6 : gi v 6 = nI n := hx.2.1.2.2.1
  have hm := c_X8_run l D K h2 v x (fun v9 => ∃ u9, JJ (cS u) n PP ap pp u (si v 0 0) u9 v9) (fun w hj => by
    obtain ⟨u9, hj⟩ := hj
    exact ⟨hj.mgood, fun q => ⟨_, hj.nx (hj.neg q)⟩⟩) (fun xn e1 e2 e3 => ⟨u, hx.jj (fun z => by
      rw [e3] at e1
      unfold mNone at e1
      rw [e2, e6, z, nI_0] at e1
      simp at e1)⟩)
  have hs := s_run hx x _ e7
  cases hb : cS u
  · rw [hb] at hs e7
    exact ⟨_, _, _, L_run l D K G ga9.1 gc h u ao f x (fun _ _ q => q.elim (fun z => Or.inl z.1) (fun z => Or.inr z.1)) (c_X7_run_false l hlf D K G tb ga9 gx h u x h41 hb (Nw PP) (fun u9 => ∃ v9, JJ false n PP ap pp u (si v 0 0) u9 v9) (fun w hj => by
      obtain ⟨v9, hj⟩ := hj
      exact ⟨hj.good hb, fun q => ⟨_, hj.nx q⟩⟩) (fun _ q _ => ⟨_, by have w := hx.jj (fun z => q (by rw [z, nI_0] at e7; exact e7)); rw [hb] at w; exact w⟩)), hm, comb_i hs⟩
  · rw [hb] at hs e7
    exact ⟨_, _, _, L_run l D K G ga9.1 gc h u ao f x (fun _ _ q => q.elim (fun z => Or.inl z.1) (fun z => Or.inr z.1)) (c_X7_run_true l hlf D K G tb ga9 gx h u x h41 hb (Nw PP) (fun u9 => ∃ v9, JJ true n PP ap pp u (si v 0 0) u9 v9) (fun w hj => by
      obtain ⟨v9, hj⟩ := hj
      exact ⟨hj.good hb, fun q => ⟨_, hj.nx q⟩⟩) (fun _ q _ => ⟨_, by have w := hx.jj (fun z => q (by rw [z, nI_0] at e7; exact e7)); rw [hb] at w; exact w⟩)), hm, comb_i hs⟩
theorem p_instruction (l : Launch) (hlf : l.stackTraces = false) (D : va_G) (K : Nat → ClassId) (G : gE) (tb : Nat → Nat) (ga9 : gAll G tb) (gx : gXc G) (gc : gCa G) (h h2 : Nat → Nat) (ao : Nat) (f : Nat → Int64) {u : CS} {v : MS} (hR : RW u v) (o q a b c : Int32) (sx : Bool) : ∃ (P : Int32 → (Nat → Int64) × CS → Prop) (r0 : Int32) (v0 : MS), gMi l D vwCl (tys0 K) G yL_instruction wsL_instruction ({ frames := 7, cells := 1, slots := 6, locals := 108 } : Room) [.ref (h 0), .int o, .int q, .int a, .int b, .int c, .int (b2i sx), .ref ao] (lwd K h ao (f, u)) (lwd K h ao) P ∧ vMi l D vwCl (tys0 K) yX8_instruction wsX8_instruction ({ frames := 1, cells := 0, slots := 0, locals := 22 } : Room) [.ref (h2 0), .int o, .int q, .int a, .int b, .int c, .int (b2i sx)] (mw K h2 v) (mw K h2) (fun r9 u9 => r9 = r0 ∧ u9 = v0) ∧ ∀ (k : Int32) (s : (Nat → Int64) × CS), P k s → gi v0 0 = k ∧ (k = 0 → s.1 0 = Int32.toInt64 r0) ∧ RW s.2 v0 := by
  have h41 := hR.c41
  obtain ⟨n, PP, ap, pp, k, DD, ad, pd, hx⟩ := hR
  have k40 := hx.2.2.1.1
  have e5 := hx.2.2.1.2.1
  obtain ⟨c1, c2⟩ := hx.2.2.2.1
  have hs := s_ins hx o q a b c sx
  cases hb : cS u
  · rw [hb] at hs c1
    exact ⟨_, _, _, L_instruction l D K G ga9.1 gc h u ao f o q a b c sx (fun _ _ q => q.elim (fun z => Or.inl z.1) (fun z => Or.inr z.1)) (c_X7_instruction_false l hlf D K G tb ga9 gx h u o q a b c sx h41 hb k c1 k40), c_X8_instruction l D K h2 v o q a b c sx k e5 k40, comb_i hs⟩
  · rw [hb] at hs c1
    exact ⟨_, _, _, L_instruction l D K G ga9.1 gc h u ao f o q a b c sx (fun _ _ q => q.elim (fun z => Or.inl z.1) (fun z => Or.inr z.1)) (c_X7_instruction_true l hlf D K G tb ga9 gx h u o q a b c sx h41 hb k c1 k40), c_X8_instruction l D K h2 v o q a b c sx k e5 k40, comb_i hs⟩
