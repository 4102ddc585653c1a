/-! ===== PART 69: drafts ===== -/
def XF (x s : fS) : Prop := (∀ k, k ≠ 3 → k ≠ 4 → k ≠ 5 → k ≠ 7 → s.1 k = x.1 k) ∧ (∀ r, r < 12 ∨ 18 < r → s.2 r = x.2 r) ∧ (∀ r, 12 ≤ r → r ≤ 16 → ∀ c, c < 6 * x.1 6 → s.2 r c = x.2 r c) ∧ (∀ r, r = 17 ∨ r = 18 → ∀ i, i < 66 * x.1 6 → s.2 r i = x.2 r i)
def MF (m u : fS) : Prop := u.1 = m.1 ∧ (∀ r, r < 17 ∨ 23 < r → u.2 r = m.2 r) ∧ (∀ r, 17 ≤ r → r ≤ 21 → ∀ c, c < 6 * m.1 14 → u.2 r c = m.2 r c) ∧ (∀ r, r = 22 ∨ r = 23 → ∀ i, i < 600 * m.1 14 → u.2 r i = m.2 r i)
theorem XF.rf (x : fS) : XF x x := ⟨fun _ _ _ _ _ => rfl, fun _ _ => rfl, fun _ _ _ _ _ => rfl, fun _ _ _ _ => rfl⟩
theorem MF.rf (x : fS) : MF x x := ⟨rfl, fun _ _ => rfl, fun _ _ _ _ _ => rfl, fun _ _ _ _ => rfl⟩
theorem XF.tk {x s s' : fS} (h : XF x s) {j : Int} (k : tKeep j s s') : XF x s' := by
  obtain ⟨k1, k2, k3, k4⟩ := k
  obtain ⟨h1, h2, h3, h4⟩ := h
  refine ⟨fun k a b c d => (k1 k a b c).trans (h1 k a b c d), ?_, ?_, ?_⟩
  · rw [k2]; exact h2
  · rw [k2]; exact h3
  · rw [k2]; exact h4
theorem rput_n {n : Int} {f : Int → Int} {i v j : Int} (h : j ≠ i) : rput n f i v j = f j := by
  unfold rput
  split
  · exact f_up_n _ _ h
  · rfl
theorem XF.c {x s : fS} (h : XF x s) {r : Nat} (r0 : 12 ≤ r) (r1 : r ≤ 16) {c v : Int} (hc : 6 * x.1 6 ≤ c) : XF x (rset s r c v) := by
  obtain ⟨h1, h2, h3, h4⟩ := h
  refine ⟨h1, fun q hq => ?_, fun q q0 q1 d hd => ?_, fun q hq i hi => ?_⟩
  · unfold rset; rw [sR_2n _ _ (by omega)]; exact h2 q hq
  · unfold rset
    by_cases e : q = r
    · subst e; rw [sR_2s, rput_n (by omega)]; exact h3 q q0 q1 d hd
    · rw [sR_2n _ _ e]; exact h3 q q0 q1 d hd
  · unfold rset; rw [sR_2n _ _ (by omega)]; exact h4 q hq i hi
theorem XF.t {x s : fS} (h : XF x s) {r : Nat} (r0 : r = 17 ∨ r = 18) {c v : Int} (hc : 66 * x.1 6 ≤ c) : XF x (rset s r c v) := by
  obtain ⟨h1, h2, h3, h4⟩ := h
  refine ⟨h1, fun q hq => ?_, fun q q0 q1 d hd => ?_, fun q hq i hi => ?_⟩
  · unfold rset; rw [sR_2n _ _ (by omega)]; exact h2 q hq
  · unfold rset; rw [sR_2n _ _ (by omega)]; exact h3 q q0 q1 d hd
  · unfold rset
    by_cases e : q = r
    · subst e; rw [sR_2s, rput_n (by omega)]; exact h4 q hq i hi
    · rw [sR_2n _ _ e]; exact h4 q hq i hi
theorem XF.n7 {x s : fS} (h : XF x s) (v : Int) : XF x (sN s 7 v) := by
  obtain ⟨h1, h2, h3, h4⟩ := h
  exact ⟨fun k a b c d => (sN_1n _ _ d).trans (h1 k a b c d), h2, h3, h4⟩
theorem MF.c {m u : fS} (h : MF m u) {r : Nat} (r0 : 17 ≤ r) (r1 : r ≤ 21) {c v : Int} (hc : 6 * m.1 14 ≤ c) : MF m (sR u r (f_up (u.2 r) c v)) := by
  obtain ⟨h1, h2, h3, h4⟩ := h
  refine ⟨h1, fun q hq => ?_, fun q q0 q1 d hd => ?_, fun q hq i hi => ?_⟩
  · rw [sR_2n _ _ (by omega)]; exact h2 q hq
  · by_cases e : q = r
    · subst e; rw [sR_2s, f_up_n _ _ (by omega)]; exact h3 q q0 q1 d hd
    · rw [sR_2n _ _ e]; exact h3 q q0 q1 d hd
  · rw [sR_2n _ _ (by omega)]; exact h4 q hq i hi
theorem MF.t {m u : fS} (h : MF m u) {r : Nat} (r0 : r = 22 ∨ r = 23) {c v : Int} (hc : 600 * m.1 14 ≤ c) : MF m (sR u r (f_up (u.2 r) c v)) := by
  obtain ⟨h1, h2, h3, h4⟩ := h
  refine ⟨h1, fun q hq => ?_, fun q q0 q1 d hd => ?_, fun q hq i hi => ?_⟩
  · rw [sR_2n _ _ (by omega)]; exact h2 q hq
  · rw [sR_2n _ _ (by omega)]; exact h3 q q0 q1 d hd
  · by_cases e : q = r
    · subst e; rw [sR_2s, f_up_n _ _ (by omega)]; exact h4 q hq i hi
    · rw [sR_2n _ _ e]; exact h4 q hq i hi
def FU (e c : Int) (s u : fS) : Prop := s.2 12 c = u.2 18 c ∧ 0 ≤ u.2 18 c ∧ s.2 13 c = u.2 19 c ∧ 0 ≤ u.2 19 c ∧ s.2 14 c = u.2 20 c ∧ s.2 16 c = u.2 21 c ∧ (0 ≤ u.2 21 c ∧ u.2 21 c ≤ 66) ∧ (66 * e ≤ s.2 15 c ∧ s.2 15 c + u.2 21 c ≤ 66 * e + s.1 7) ∧ ∀ i : Int, 0 ≤ i → i < u.2 21 c → s.2 17 (s.2 15 c + i) = u.2 22 (100 * c + i) ∧ s.2 18 (s.2 15 c + i) = u.2 23 (100 * c + i) ∧ 0 < u.2 22 (100 * c + i) ∧ (0 < i → u.2 22 (100 * c + i - 1) < u.2 22 (100 * c + i))
def DR (e c : Int) (s u : fS) : Prop := (u.2 17 c = 0 ∧ s.2 12 c = -1) ∨ (u.2 17 c = 1 ∧ FU e c s u)
/-- nothing of cell c's has changed -/
def KC (e c : Int) (s u s' u' : fS) : Prop := (∀ r, 12 ≤ r → r ≤ 16 → s'.2 r c = s.2 r c) ∧ (∀ r, r = 17 ∨ r = 18 → ∀ i, i < 66 * e + s.1 7 → s'.2 r i = s.2 r i) ∧ (∀ r, 17 ≤ r → r ≤ 21 → u'.2 r c = u.2 r c) ∧ (∀ r, r = 22 ∨ r = 23 → ∀ i, 100 * c ≤ i → i < 100 * c + 100 → u'.2 r i = u.2 r i) ∧ s.1 7 ≤ s'.1 7
theorem FU.keep {e c : Int} {s u s' u' : fS} (h : FU e c s u) (k : KC e c s u s' u') : FU e c s' u' := by
  obtain ⟨k1, k2, k3, k4, k5⟩ := k
  obtain ⟨h1, h2, h3, h4, h5, h6, h7, h8, h9⟩ := h
  unfold FU
  rw [k1 12 (by decide) (by decide), k1 13 (by decide) (by decide), k1 14 (by decide) (by decide), k1 15 (by decide) (by decide), k1 16 (by decide) (by decide), k3 18 (by decide) (by decide), k3 19 (by decide) (by decide), k3 20 (by decide) (by decide), k3 21 (by decide) (by decide)]
  refine ⟨h1, h2, h3, h4, h5, h6, h7, ⟨h8.1, by omega⟩, fun i i0 i1 => ?_⟩
  obtain ⟨g1, g2, g3, g4⟩ := h9 i i0 i1
  rw [k2 17 (Or.inl rfl) _ (by omega), k2 18 (Or.inr rfl) _ (by omega), k4 22 (Or.inl rfl) _ (by omega) (by omega), k4 23 (Or.inr rfl) _ (by omega) (by omega)]
  refine ⟨g1, g2, g3, fun i2 => ?_⟩
  rw [k4 22 (Or.inl rfl) _ (by omega) (by omega)]
  exact g4 i2
theorem DR.keep {e c : Int} {s u s' u' : fS} (h : DR e c s u) (k : KC e c s u s' u') : DR e c s' u' := by
  rcases h with ⟨a, b⟩ | ⟨a, b⟩
  · exact Or.inl ⟨(k.2.2.1 17 (by decide) (by decide)).trans a, (k.1 12 (by decide) (by decide)).trans b⟩
  · exact Or.inr ⟨(k.2.2.1 17 (by decide) (by decide)).trans a, b.keep k⟩
def DM (e c0 : Int) (s u : fS) : Prop := (∀ c, 6 * e ≤ c → c < 6 * e + 6 → c ≠ c0 → DR e c s u) ∧ FU e c0 s u ∧ u.2 17 c0 = 0 ∧ s.2 15 c0 + u.2 21 c0 = 66 * e + s.1 7 ∧ 0 ≤ s.1 7
def DD (e : Int) (s u : fS) : Prop := (∀ c, 6 * e ≤ c → c < 6 * e + 6 → DR e c s u) ∧ 0 ≤ s.1 7
theorem KC.of {e c : Int} {s u s' : fS} (h2 : s'.2 = s.2) (h7 : s'.1 7 = s.1 7) : KC e c s u s' u := by
  unfold KC
  rw [h2, h7]
  exact ⟨fun _ _ _ => rfl, fun _ _ _ _ => rfl, fun _ _ _ => rfl, fun _ _ _ _ _ => rfl, Int.le_refl _⟩
theorem DD.tk {e : Int} {s s' u : fS} (h : DD e s u) {j : Int} (k : tKeep j s s') : DD e s' u := ⟨fun c c0 c1 => (h.1 c c0 c1).keep (KC.of k.2.1 (k.1 7 (by decide) (by decide) (by decide))), by rw [k.1 7 (by decide) (by decide) (by decide)]; exact h.2⟩
theorem DM.tk {e c0 : Int} {s s' u : fS} (h : DM e c0 s u) {j : Int} (k : tKeep j s s') : DM e c0 s' u := by
  have e7 := k.1 7 (by decide) (by decide) (by decide)
  refine ⟨fun c d0 d1 d2 => (h.1 c d0 d1 d2).keep (KC.of k.2.1 e7), h.2.1.keep (KC.of k.2.1 e7), h.2.2.1, ?_, ?_⟩
  · rw [k.2.1, e7]; exact h.2.2.2.1
  · rw [e7]; exact h.2.2.2.2
/-- per and price are told -/
theorem DD.rule {e k : Int} {s u : fS} (h : DD e s u) (he : 0 ≤ e ∧ e < 6) (hk : 0 ≤ k ∧ k < 6) (h6 : s.1 6 = e) (hf : u.2 17 (6 * e + k) = 0) {p q : Int} (hp : 0 ≤ p) (hq : 0 ≤ q) : DM e (6 * e + k) (F_X0_tellRule k p q s) (sR (sR (sR (sR u 18 (f_up (u.2 18) (6 * e + k) p)) 19 (f_up (u.2 19) (6 * e + k) q)) 21 (f_up (u.2 21) (6 * e + k) 0)) 20 (f_up (u.2 20) (6 * e + k) (-1))) := by
  have hc : F_X0_cellOf (s.1 6) k s = 6 * e + k := by unfold F_X0_cellOf; omega
  have b1 : 0 ≤ 6 * e + k ∧ 6 * e + k < 36 := by omega
  have e12 : (F_X0_tellRule k p q s).2 12 = f_up (s.2 12) (6 * e + k) p := by
    unfold F_X0_tellRule; rw [hc]; exact rput_in (n := 36) p b1
  have e13 : (F_X0_tellRule k p q s).2 13 = f_up (s.2 13) (6 * e + k) q := by
    unfold F_X0_tellRule; rw [hc]; exact rput_in (n := 36) q b1
  have e14 : (F_X0_tellRule k p q s).2 14 = f_up (s.2 14) (6 * e + k) (-1) := by
    unfold F_X0_tellRule; rw [hc]; exact rput_in (n := 36) (-1) b1
  have e15 : (F_X0_tellRule k p q s).2 15 = f_up (s.2 15) (6 * e + k) (s.1 6 * 66 + s.1 7) := by
    unfold F_X0_tellRule; rw [hc]; exact rput_in (n := 36) (s.1 6 * 66 + s.1 7) b1
  have e16 : (F_X0_tellRule k p q s).2 16 = f_up (s.2 16) (6 * e + k) 0 := by
    unfold F_X0_tellRule; rw [hc]; exact rput_in (n := 36) 0 b1
  have e17 : (F_X0_tellRule k p q s).2 17 = s.2 17 := rfl
  have e18 : (F_X0_tellRule k p q s).2 18 = s.2 18 := rfl
  have e7 : (F_X0_tellRule k p q s).1 7 = s.1 7 := rfl
  generalize F_X0_tellRule k p q s = S at *
  refine ⟨fun c d0 d1 d2 => (h.1 c d0 d1).keep ⟨fun r r0 r1 => ?_, fun r hr i hi => ?_, fun r r0 r1 => ?_, fun r hr i i0 i1 => ?_, by omega⟩, ⟨?_, ?_, ?_, ?_, ?_, ?_, ?_, ?_, fun i i0 i1 => ?_⟩, hf, ?_, by have := h.2; omega⟩
  · rcases (show r = 12 ∨ r = 13 ∨ r = 14 ∨ r = 15 ∨ r = 16 by omega) with rfl | rfl | rfl | rfl | rfl
    · rw [e12, f_up_n _ _ d2]
    · rw [e13, f_up_n _ _ d2]
    · rw [e14, f_up_n _ _ d2]
    · rw [e15, f_up_n _ _ d2]
    · rw [e16, f_up_n _ _ d2]
  · rcases hr with rfl | rfl
    · rw [e17]
    · rw [e18]
  · rcases (show r = 17 ∨ r = 18 ∨ r = 19 ∨ r = 20 ∨ r = 21 by omega) with rfl | rfl | rfl | rfl | rfl
    · rfl
    · exact f_up_n _ _ d2
    · exact f_up_n _ _ d2
    · exact f_up_n _ _ d2
    · exact f_up_n _ _ d2
  · rcases hr with rfl | rfl <;> rfl
  · rw [e12, f_up_s]; exact (f_up_s _ _ _).symm
  · show 0 ≤ f_up (u.2 18) (6 * e + k) p (6 * e + k); rw [f_up_s]; exact hp
  · rw [e13, f_up_s]; exact (f_up_s _ _ _).symm
  · show 0 ≤ f_up (u.2 19) (6 * e + k) q (6 * e + k); rw [f_up_s]; exact hq
  · rw [e14, f_up_s]; exact (f_up_s _ _ _).symm
  · rw [e16, f_up_s]; exact (f_up_s _ _ _).symm
  · show 0 ≤ f_up (u.2 21) (6 * e + k) 0 (6 * e + k) ∧ f_up (u.2 21) (6 * e + k) 0 (6 * e + k) ≤ 66
    rw [f_up_s]; omega
  · show 66 * e ≤ S.2 15 (6 * e + k) ∧ S.2 15 (6 * e + k) + f_up (u.2 21) (6 * e + k) 0 (6 * e + k) ≤ 66 * e + S.1 7
    rw [e15, f_up_s, f_up_s, e7]; have := h.2; omega
  · replace i1 : i < f_up (u.2 21) (6 * e + k) 0 (6 * e + k) := i1
    rw [f_up_s] at i1; omega
  · show S.2 15 (6 * e + k) + f_up (u.2 21) (6 * e + k) 0 (6 * e + k) = 66 * e + S.1 7
    rw [e15, f_up_s, f_up_s, e7]; omega
/-- a step is told -/
theorem DM.step {e k : Int} {s u : fS} (h : DM e (6 * e + k) s u) (he : 0 ≤ e ∧ e < 6) (hk : 0 ≤ k ∧ k < 6) (h6 : s.1 6 = e) (h7 : s.1 7 < 66) {p q v6 : Int} (hv : (v6 = 0 ∧ u.2 21 (6 * e + k) = 0) ∨ (0 < u.2 21 (6 * e + k) ∧ v6 = u.2 22 (100 * (6 * e + k) + u.2 21 (6 * e + k) - 1))) (hp : v6 < p) (hv0 : 0 ≤ v6) : DM e (6 * e + k) (F_X0_tellStep k p q s) (sR (sR (sR u 22 (f_up (u.2 22) (100 * (6 * e + k) + u.2 21 (6 * e + k)) p)) 23 (f_up (u.2 23) (100 * (6 * e + k) + u.2 21 (6 * e + k)) q)) 21 (f_up (u.2 21) (6 * e + k) (u.2 21 (6 * e + k) + 1))) := by
  have hc : F_X0_cellOf (s.1 6) k s = 6 * e + k := by unfold F_X0_cellOf; omega
  have b1 : 0 ≤ 6 * e + k ∧ 6 * e + k < 36 := by omega
  obtain ⟨g1, g2, g3, g4, g5⟩ := h
  obtain ⟨f1, f2, f3, f4, f5, f6, f7, f8, f9⟩ := g2
  have b2 : 0 ≤ s.1 6 * 66 + s.1 7 ∧ s.1 6 * 66 + s.1 7 < 396 := by omega
  have e12 : (F_X0_tellStep k p q s).2 12 = s.2 12 := rfl
  have e13 : (F_X0_tellStep k p q s).2 13 = s.2 13 := rfl
  have e14 : (F_X0_tellStep k p q s).2 14 = s.2 14 := rfl
  have e15 : (F_X0_tellStep k p q s).2 15 = s.2 15 := rfl
  have e16 : (F_X0_tellStep k p q s).2 16 = f_up (s.2 16) (6 * e + k) (s.2 16 (6 * e + k) + 1) := by
    unfold F_X0_tellStep; rw [hc, rget_in b1]; exact rput_in (n := 36) _ b1
  have e17 : (F_X0_tellStep k p q s).2 17 = f_up (s.2 17) (s.1 6 * 66 + s.1 7) p := by
    unfold F_X0_tellStep; exact rput_in (n := 396) p b2
  have e18 : (F_X0_tellStep k p q s).2 18 = f_up (s.2 18) (s.1 6 * 66 + s.1 7) q := by
    unfold F_X0_tellStep; exact rput_in (n := 396) q b2
  have e7 : (F_X0_tellStep k p q s).1 7 = s.1 7 + 1 := rfl
  generalize F_X0_tellStep k p q s = S at *
  refine ⟨fun c d0 d1 d2 => (g1 c d0 d1 d2).keep ⟨fun r r0 r1 => ?_, fun r hr i hi => ?_, fun r r0 r1 => ?_, fun r hr i i0 i1 => ?_, by omega⟩, ⟨?_, f2, ?_, f4, ?_, ?_, ?_, ?_, fun i i0 i1 => ?_⟩, g3, ?_, by omega⟩
  · rcases (show r = 12 ∨ r = 13 ∨ r = 14 ∨ r = 15 ∨ r = 16 by omega) with rfl | rfl | rfl | rfl | rfl
    · rw [e12]
    · rw [e13]
    · rw [e14]
    · rw [e15]
    · rw [e16, f_up_n _ _ d2]
  · rcases hr with rfl | rfl
    · rw [e17, f_up_n _ _ (by omega)]
    · rw [e18, f_up_n _ _ (by omega)]
  · rcases (show r = 17 ∨ r = 18 ∨ r = 19 ∨ r = 20 ∨ r = 21 by omega) with rfl | rfl | rfl | rfl | rfl
    · rfl
    · rfl
    · rfl
    · rfl
    · exact f_up_n _ _ d2
  · rcases hr with rfl | rfl
    · exact f_up_n _ _ (by omega)
    · exact f_up_n _ _ (by omega)
  · rw [e12]; exact f1
  · rw [e13]; exact f3
  · rw [e14]; exact f5
  · rw [e16, f_up_s, f6]; exact (f_up_s _ _ _).symm
  · show 0 ≤ f_up (u.2 21) (6 * e + k) (u.2 21 (6 * e + k) + 1) (6 * e + k) ∧ f_up (u.2 21) (6 * e + k) (u.2 21 (6 * e + k) + 1) (6 * e + k) ≤ 66
    rw [f_up_s]; omega
  · show 66 * e ≤ S.2 15 (6 * e + k) ∧ S.2 15 (6 * e + k) + f_up (u.2 21) (6 * e + k) (u.2 21 (6 * e + k) + 1) (6 * e + k) ≤ 66 * e + S.1 7
    rw [e15, f_up_s, e7]; omega
  · replace i1 : i < f_up (u.2 21) (6 * e + k) (u.2 21 (6 * e + k) + 1) (6 * e + k) := i1
    rw [f_up_s] at i1
    show S.2 17 (S.2 15 (6 * e + k) + i) = f_up (u.2 22) (100 * (6 * e + k) + u.2 21 (6 * e + k)) p (100 * (6 * e + k) + i) ∧ S.2 18 (S.2 15 (6 * e + k) + i) = f_up (u.2 23) (100 * (6 * e + k) + u.2 21 (6 * e + k)) q (100 * (6 * e + k) + i) ∧ 0 < f_up (u.2 22) (100 * (6 * e + k) + u.2 21 (6 * e + k)) p (100 * (6 * e + k) + i) ∧ (0 < i → f_up (u.2 22) (100 * (6 * e + k) + u.2 21 (6 * e + k)) p (100 * (6 * e + k) + i - 1) < f_up (u.2 22) (100 * (6 * e + k) + u.2 21 (6 * e + k)) p (100 * (6 * e + k) + i))
    rw [e15, e17, e18]
    by_cases c : i = u.2 21 (6 * e + k)
    · have ei : s.2 15 (6 * e + k) + i = s.1 6 * 66 + s.1 7 := by omega
      rw [ei, f_up_s, f_up_s, ← c, f_up_s, f_up_s, f_up_n _ _ (show 100 * (6 * e + k) + i - 1 ≠ 100 * (6 * e + k) + i by omega)]
      refine ⟨rfl, rfl, by omega, fun i2 => ?_⟩
      rcases hv with ⟨a, a2⟩ | ⟨a, a2⟩
      · omega
      · rw [← c] at a2; omega
    · obtain ⟨q1, q2, q3, q4⟩ := f9 i i0 (by omega)
      rw [f_up_n _ _ (show s.2 15 (6 * e + k) + i ≠ s.1 6 * 66 + s.1 7 by omega), f_up_n _ _ (show s.2 15 (6 * e + k) + i ≠ s.1 6 * 66 + s.1 7 by omega), f_up_n _ _ (show 100 * (6 * e + k) + i ≠ 100 * (6 * e + k) + u.2 21 (6 * e + k) by omega), f_up_n _ _ (show 100 * (6 * e + k) + i ≠ 100 * (6 * e + k) + u.2 21 (6 * e + k) by omega), f_up_n _ _ (show 100 * (6 * e + k) + i - 1 ≠ 100 * (6 * e + k) + u.2 21 (6 * e + k) by omega)]
      exact ⟨q1, q2, q3, q4⟩
  · show S.2 15 (6 * e + k) + f_up (u.2 21) (6 * e + k) (u.2 21 (6 * e + k) + 1) (6 * e + k) = 66 * e + S.1 7
    rw [e15, f_up_s, e7]; omega
/-- a rule ends -/
theorem DM.done {e k : Int} {s u : fS} (h : DM e (6 * e + k) s u) : DD e s (sR u 17 (f_up (u.2 17) (6 * e + k) 1)) := by
  obtain ⟨g1, g2, g3, g4, g5⟩ := h
  refine ⟨fun c d0 d1 => ?_, g5⟩
  by_cases d2 : c = 6 * e + k
  · subst d2
    exact Or.inr ⟨f_up_s _ _ _, g2⟩
  · refine (g1 c d0 d1 d2).keep ⟨fun _ _ _ => rfl, fun _ _ _ _ => rfl, fun r r0 r1 => ?_, fun r hr i _ _ => ?_, Int.le_refl _⟩
    · by_cases e17 : r = 17
      · subst e17; exact f_up_n _ _ d2
      · rw [sR_2n _ _ e17]
    · rw [sR_2n _ _ (by omega)]
/-- a cap is told -/
theorem DM.cap {e k : Int} {s u : fS} (h : DM e (6 * e + k) s u) (he : 0 ≤ e ∧ e < 6) (hk : 0 ≤ k ∧ k < 6) (h6 : s.1 6 = e) (v : Int) : DM e (6 * e + k) (F_X0_tellCap k v s) (sR u 20 (f_up (u.2 20) (6 * e + k) v)) := by
  have hc : F_X0_cellOf (s.1 6) k s = 6 * e + k := by unfold F_X0_cellOf; omega
  have b1 : 0 ≤ 6 * e + k ∧ 6 * e + k < 36 := by omega
  obtain ⟨g1, g2, g3, g4, g5⟩ := h
  obtain ⟨f1, f2, f3, f4, f5, f6, f7, f8, f9⟩ := g2
  have e14 : (F_X0_tellCap k v s).2 14 = f_up (s.2 14) (6 * e + k) v := by
    unfold F_X0_tellCap; rw [hc]; exact rput_in (n := 36) v b1
  have en : ∀ r, r ≠ 14 → (F_X0_tellCap k v s).2 r = s.2 r := fun r hr => sR_2n _ _ hr
  have e7 : (F_X0_tellCap k v s).1 7 = s.1 7 := rfl
  generalize F_X0_tellCap k v s = S at *
  refine ⟨fun c d0 d1 d2 => (g1 c d0 d1 d2).keep ⟨fun r r0 r1 => ?_, fun r hr i hi => ?_, fun r r0 r1 => ?_, fun r hr i i0 i1 => ?_, by omega⟩, ⟨?_, f2, ?_, f4, ?_, ?_, f7, ?_, fun i i0 i1 => ?_⟩, g3, ?_, by omega⟩
  · by_cases c14 : r = 14
    · subst c14; rw [e14, f_up_n _ _ d2]
    · rw [en r c14]
  · rw [en r (by omega)]
  · by_cases c20 : r = 20
    · subst c20; exact f_up_n _ _ d2
    · rw [sR_2n _ _ c20]
  · rw [sR_2n _ _ (by omega)]
  · rw [en 12 (by decide)]; exact f1
  · rw [en 13 (by decide)]; exact f3
  · rw [e14, f_up_s]; exact (f_up_s _ _ _).symm
  · rw [en 16 (by decide)]; exact f6
  · rw [en 15 (by decide), e7]; exact f8
  · rw [en 15 (by decide), en 17 (by decide), en 18 (by decide)]; exact f9 i i0 i1
  · rw [en 15 (by decide), e7]; exact g4
