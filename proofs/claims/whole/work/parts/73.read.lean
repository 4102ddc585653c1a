/-! ===== PART 73: read ===== -/
theorem XF.n345 {x s : fS} (h : XF x s) {k : Nat} (hk : k = 3 ∨ k = 4 ∨ k = 5) (v : Int) : XF x (sN s k v) := by
  obtain ⟨h1, h2, h3, h4⟩ := h
  exact ⟨fun q a b c d => (sN_1n _ _ (by omega)).trans (h1 q a b c d), h2, h3, h4⟩
/-- the text goes -/
theorem q_clear {x m : fS} (h : Rel x m) (hm : mOk m) : Rel (sN x 2 0) (sN (F_X9_findWords m) 9 0) := by
  obtain ⟨w1, w2, w3⟩ := findWords_ok hm
  have g1 : ∀ k, k ≠ 9 → k ≠ 11 → (sN (F_X9_findWords m) 9 0).1 k = m.1 k := fun k a b => (sN_1n _ _ a).trans (w3 k b)
  have g2 : ∀ r, r ≠ 12 → r ≠ 13 → (sN (F_X9_findWords m) 9 0).2 r = m.2 r := w2
  have g9 : (sN (F_X9_findWords m) 9 0).1 9 = 0 := rfl
  generalize sN (F_X9_findWords m) 9 0 = u at *
  obtain ⟨hH, hI, hF, hT, hE, hR, hC, hL, hP, hxs, hms, hB⟩ := h
  refine ⟨?_, ?_, ?_, ?_, ?_, ?_, ?_, ?_, ?_, hxs, mSteps_keep hms (g1 14 (by decide) (by decide)) (g2 17 (by decide) (by decide)) (g2 18 (by decide) (by decide)) (g2 19 (by decide) (by decide)) (g2 21 (by decide) (by decide)) (g2 22 (by decide) (by decide)), hB⟩
  · rw [g1 0 (by decide) (by decide), g2 1 (by decide) (by decide), g2 2 (by decide) (by decide)]; exact hH
  · rw [g2 30 (by decide) (by decide)]; exact hI
  · rw [g1 3 (by decide) (by decide), g2 4 (by decide) (by decide), g2 5 (by decide) (by decide), g2 6 (by decide) (by decide), g2 7 (by decide) (by decide), g2 8 (by decide) (by decide)]; exact hF
  · rw [g9]; exact ⟨rfl, fun i i0 i1 => absurd (show i < 0 from i1) (by omega)⟩
  · rw [g1 14 (by decide) (by decide), g2 15 (by decide) (by decide), g2 16 (by decide) (by decide), g2 17 (by decide) (by decide), g2 18 (by decide) (by decide), g2 19 (by decide) (by decide), g2 20 (by decide) (by decide), g2 21 (by decide) (by decide), g2 22 (by decide) (by decide), g2 23 (by decide) (by decide)]; exact hE
  · rw [g1 25 (by decide) (by decide), g2 26 (by decide) (by decide), g2 27 (by decide) (by decide), g2 28 (by decide) (by decide), g2 29 (by decide) (by decide)]; exact hR
  · rw [g2 24 (by decide) (by decide)]; exact hC
  · rw [g1 36 (by decide) (by decide), g2 37 (by decide) (by decide), g2 38 (by decide) (by decide), g2 39 (by decide) (by decide), g2 40 (by decide) (by decide)]; exact hL
  · rw [g1 41 (by decide) (by decide), g2 42 (by decide) (by decide)]; exact hP
/-- what is kept of a cell -/
def CX (c : Int) (st : fS) : Prop := st.2 12 c ≠ -1 → (0 ≤ st.2 16 c ∧ st.2 16 c ≤ 66 ∧ 0 ≤ st.2 15 c ∧ st.2 15 c + st.2 16 c ≤ 396) ∧ ∀ i : Int, 0 ≤ i → i < st.2 16 c → 0 < st.2 17 (st.2 15 c + i) ∧ (0 < i → st.2 17 (st.2 15 c + i - 1) < st.2 17 (st.2 15 c + i))
def CM (c : Int) (st : fS) : Prop := st.2 17 c ≠ 0 → (0 ≤ st.2 18 c ∧ 0 ≤ st.2 19 c) ∧ ∀ i : Int, 0 ≤ i → i < st.2 21 c → 0 < st.2 22 (100 * c + i) ∧ (0 < i → st.2 22 (100 * c + i - 1) < st.2 22 (100 * c + i))
def CR (c : Int) (x m : fS) : Prop := gRule c (x.2 12) (x.2 13) (x.2 14) (x.2 15) (x.2 16) (x.2 17) (x.2 18) (m.2 17) (m.2 18) (m.2 19) (m.2 20) (m.2 21) (m.2 22) (m.2 23)
theorem cell_old {x m s u : fS} {ed c : Int} (h6 : x.1 6 = ed) (h14 : m.1 14 = ed) (hX : XF x s) (hM : MF m u) (h0 : 0 ≤ c) (h1 : c < 6 * ed) (a1 : CR c x m) (a2 : CX c x) (a3 : CM c m) (a4 : x.2 12 c ≠ -1 → x.2 15 c + x.2 16 c ≤ 66 * ed) : CR c s u ∧ CX c s ∧ CM c u ∧ (s.2 12 c ≠ -1 → s.2 15 c + s.2 16 c ≤ 66 * ed) := by
  have x3 := hX.2.2.1
  have x4 := hX.2.2.2
  have m3 := hM.2.2.1
  have m4 := hM.2.2.2
  rw [h6] at x3 x4
  rw [h14] at m3 m4
  unfold CR CX CM gRule at *
  rw [x3 12 (by decide) (by decide) c h1, x3 13 (by decide) (by decide) c h1, x3 14 (by decide) (by decide) c h1, x3 15 (by decide) (by decide) c h1, x3 16 (by decide) (by decide) c h1, m3 17 (by decide) (by decide) c h1, m3 18 (by decide) (by decide) c h1, m3 19 (by decide) (by decide) c h1, m3 20 (by decide) (by decide) c h1, m3 21 (by decide) (by decide) c h1]
  rcases a1 with ⟨b1, b2⟩ | ⟨b1, b2, b3, b4, b5, b6, b7⟩
  · exact ⟨Or.inl ⟨b1, b2⟩, fun h9 => absurd b2 h9, fun h9 => absurd b1 h9, a4⟩
  · have hne : x.2 12 c ≠ -1 := by omega
    have c4 := a4 hne
    obtain ⟨⟨c1, c2, c3, _⟩, c5⟩ := a2 hne
    obtain ⟨d1, d2⟩ := a3 (by omega)
    refine ⟨Or.inr ⟨b1, b2, b3, b4, b5, b6, fun i i0 i1 => ?_⟩, fun _ => ⟨⟨c1, c2, c3, by omega⟩, fun i i0 i1 => ?_⟩, fun _ => ⟨d1, fun i i0 i1 => ?_⟩, a4⟩
    · rw [x4 17 (Or.inl rfl) _ (by omega), x4 18 (Or.inr rfl) _ (by omega), m4 22 (Or.inl rfl) _ (by omega), m4 23 (Or.inr rfl) _ (by omega)]
      exact b7 i i0 i1
    · rw [x4 17 (Or.inl rfl) _ (by omega)]
      refine ⟨(c5 i i0 i1).1, fun i2 => ?_⟩
      rw [x4 17 (Or.inl rfl) _ (by omega)]
      exact (c5 i i0 i1).2 i2
    · rw [m4 22 (Or.inl rfl) _ (by omega)]
      refine ⟨(d2 i i0 i1).1, fun i2 => ?_⟩
      rw [m4 22 (Or.inl rfl) _ (by omega)]
      exact (d2 i i0 i1).2 i2
theorem cell_new {s u : fS} {ed c : Int} (he : 0 ≤ ed ∧ ed < 6) (h7 : s.1 7 ≤ 66) (h : DR ed c s u) : CR c s u ∧ CX c s ∧ CM c u ∧ (s.2 12 c ≠ -1 → s.2 15 c + s.2 16 c ≤ 66 * ed + 66) := by
  unfold CR CX CM gRule
  rcases h with ⟨b1, b2⟩ | ⟨b1, f1, f2, f3, f4, f5, f6, f7, f8, f9⟩
  · exact ⟨Or.inl ⟨b1, b2⟩, fun h9 => absurd b2 h9, fun h9 => absurd b1 h9, fun h9 => absurd b2 h9⟩
  · refine ⟨Or.inr ⟨b1, f1, f2, f3, f5, f6, fun i i0 i1 => ⟨(f9 i i0 i1).1, (f9 i i0 i1).2.1⟩⟩, fun _ => ⟨by omega, fun i i0 i1 => ?_⟩, fun _ => ⟨⟨f2, f4⟩, fun i i0 i1 => (f9 i i0 i1).2.2⟩, fun _ => by omega⟩
    obtain ⟨g1, g2, g3, g4⟩ := f9 i i0 (by omega)
    refine ⟨by omega, fun i2 => ?_⟩
    have k1 := (f9 (i - 1) (by omega) (by omega)).1
    rw [show s.2 15 c + (i - 1) = s.2 15 c + i - 1 by omega, show 100 * c + (i - 1) = 100 * c + i - 1 by omega] at k1
    have := g4 i2
    omega
theorem q_fail {x m s u : fS} {ed : Int} (h : Rel (sN x 2 0) m) (h6 : x.1 6 = ed) (h14 : m.1 14 = ed) (hX : XF x s) (hM : MF m u) (h5 : 0 ≤ s.1 5 ∧ s.1 5 ≤ 10000) : Rel (sN s 2 0) u := by
  obtain ⟨hH, hI, hF, hT, hE, hR, hC, hL, hP, hxs, hms, hB⟩ := h
  have g1 : ∀ k, k ≠ 2 → k ≠ 3 → k ≠ 4 → k ≠ 5 → k ≠ 7 → (sN s 2 0).1 k = (sN x 2 0).1 k := fun k k2 a b c d => by rw [sN_1n _ _ k2, sN_1n _ _ k2]; exact hX.1 k a b c d
  have g2 : ∀ r, r < 12 ∨ 18 < r → (sN s 2 0).2 r = (sN x 2 0).2 r := hX.2.1
  have m2 := hM.2.1
  have hcell : ∀ c, 0 ≤ c → c < 6 * ed → CR c s u ∧ CX c s ∧ CM c u ∧ (s.2 12 c ≠ -1 → s.2 15 c + s.2 16 c ≤ 66 * ed) := fun c c0 c1 => cell_old h6 h14 hX hM c0 c1 (hE.2.2.2.2 c c0 (by show c < 6 * x.1 6; omega)) (hxs c c0 (by show c < 6 * x.1 6; omega)) (hms c c0 (by omega)) (fun h9 => h6 ▸ hB.2 c c0 (by show c < 6 * x.1 6; omega) h9)
  have e6 : (sN s 2 0).1 6 = ed := (g1 6 (by decide) (by decide) (by decide) (by decide) (by decide)).trans h6
  have s6 : s.1 6 = ed := e6
  have u14 : u.1 14 = ed := by rw [hM.1]; exact h14
  refine ⟨?_, ?_, ?_, ?_, ⟨by rw [e6, u14], ?_, ?_, ?_, fun c c0 c1 => (hcell c c0 (by omega)).1⟩, ?_, ?_, ?_, ?_, fun c c0 c1 => (hcell c c0 (by omega)).2.1, fun c c0 c1 => (hcell c c0 (by omega)).2.2.1, h5, fun c c0 c1 c2 => by
    have := (hcell c c0 (by omega)).2.2.2 c2
    rw [e6]; exact this⟩
  · rw [hM.1, m2 1 (by omega), m2 2 (by omega), g1 0 (by decide) (by decide) (by decide) (by decide) (by decide), g2 0 (by omega), g2 1 (by omega)]; exact hH
  · rw [m2 30 (by omega), g2 2 (by omega)]; exact hI
  · rw [hM.1, m2 4 (by omega), m2 5 (by omega), m2 6 (by omega), m2 7 (by omega), m2 8 (by omega), g1 1 (by decide) (by decide) (by decide) (by decide) (by decide), g2 3 (by omega), g2 4 (by omega), g2 5 (by omega), g2 6 (by omega), g2 7 (by omega)]; exact hF
  · rw [hM.1, m2 10 (by omega), g2 8 (by omega)]; exact hT
  · rw [g1 6 (by decide) (by decide) (by decide) (by decide) (by decide), g2 9 (by omega), m2 15 (by omega)]; exact hE.2.1
  · rw [g1 6 (by decide) (by decide) (by decide) (by decide) (by decide), g2 10 (by omega), m2 16 (by omega)]; exact hE.2.2.1
  · rw [g1 6 (by decide) (by decide) (by decide) (by decide) (by decide), g2 11 (by omega)]
    intro q q0 q1
    replace q1 : q < x.1 6 := q1
    rw [hE.2.2.2.1 q q0 q1]
    exact (nRul_eq 6 0 (fun i i0 i1 => hM.2.2.1 17 (by decide) (by decide) _ (by omega))).symm
  · rw [hM.1, m2 26 (by omega), m2 27 (by omega), m2 28 (by omega), m2 29 (by omega), g1 8 (by decide) (by decide) (by decide) (by decide) (by decide), g2 19 (by omega), g2 20 (by omega), g2 21 (by omega), g2 22 (by omega)]; exact hR
  · rw [m2 24 (by omega), g2 23 (by omega)]; exact hC
  · rw [hM.1, m2 37 (by omega), m2 38 (by omega), m2 39 (by omega), m2 40 (by omega), g1 9 (by decide) (by decide) (by decide) (by decide) (by decide), g2 24 (by omega), g2 25 (by omega), g2 26 (by omega), g2 27 (by omega)]; exact hL
  · rw [hM.1, m2 42 (by omega), g1 10 (by decide) (by decide) (by decide) (by decide) (by decide), g2 28 (by omega)]; exact hP
