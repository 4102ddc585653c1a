/-! ===== PART 74: read, whole ===== -/
theorem q_keep {s u : fS} {ed r p1 p3 : Int} (h : Rel (sN s 2 0) u) (h6 : s.1 6 = ed) (h14 : u.1 14 = ed) (hed : 0 ≤ ed ∧ ed < 6) (hD : DD ed s u) (h7 : s.1 7 ≤ 66) (hr : r = nRul (u.2 17) ed 6 0) : Rel (sN (F_X0_keepDraft p1 p3 r s) 2 0) (sN (sR (sR u 15 (f_up (u.2 15) (u.1 14) p1)) 16 (f_up (u.2 16) (u.1 14) p3)) 14 (u.1 14 + 1)) := by
  obtain ⟨hH, hI, hF, hT, hE, hR, hC, hL, hP, hxs, hms, hB⟩ := h
  have e6 : (sN (F_X0_keepDraft p1 p3 r s) 2 0).1 6 = ed + 1 := by show s.1 6 + 1 = ed + 1; omega
  have e14 : (sN (sR (sR u 15 (f_up (u.2 15) (u.1 14) p1)) 16 (f_up (u.2 16) (u.1 14) p3)) 14 (u.1 14 + 1)).1 14 = ed + 1 := by show u.1 14 + 1 = ed + 1; omega
  have hcell : ∀ c, 0 ≤ c → c < 6 * (ed + 1) → CR c s u ∧ CX c s ∧ CM c u ∧ (s.2 12 c ≠ -1 → s.2 15 c + s.2 16 c ≤ 66 * (ed + 1)) := by
    intro c c0 c1
    by_cases c2 : c < 6 * ed
    · refine ⟨hE.2.2.2.2 c c0 (by show c < 6 * s.1 6; omega), hxs c c0 (by show c < 6 * s.1 6; omega), hms c c0 (by omega), fun h9 => ?_⟩
      have h10 : s.2 15 c + s.2 16 c ≤ 66 * s.1 6 := hB.2 c c0 (by show c < 6 * s.1 6; omega) h9
      omega
    · have := cell_new hed h7 (hD.1 c (by omega) (by omega))
      refine ⟨this.1, this.2.1, this.2.2.1, fun h9 => ?_⟩
      have := this.2.2.2 h9
      omega
  refine ⟨hH, hI, hF, hT, ⟨by rw [e6, e14], ?_, ?_, ?_, fun c c0 c1 => (hcell c c0 (by omega)).1⟩, hR, hC, hL, hP, fun c c0 c1 => (hcell c c0 (by omega)).2.1, fun c c0 c1 => (hcell c c0 (by omega)).2.2.1, hB.1, fun c c0 c1 c2 => by
    rw [e6]; exact (hcell c c0 (by omega)).2.2.2 c2⟩
  · rw [e6]
    show Eqb (ed + 1) (rput 6 (s.2 9) (s.1 6) p1) (f_up (u.2 15) (u.1 14) p1)
    rw [h6, h14]
    have : Eqb (s.1 6) (s.2 9) (u.2 15) := hE.2.1
    rw [h6] at this
    exact this.put hed.1 hed.2 p1
  · rw [e6]
    show Eqb (ed + 1) (rput 6 (s.2 10) (s.1 6) p3) (f_up (u.2 16) (u.1 14) p3)
    rw [h6, h14]
    have : Eqb (s.1 6) (s.2 10) (u.2 16) := hE.2.2.1
    rw [h6] at this
    exact this.put hed.1 hed.2 p3
  · intro q q0 q1
    rw [e6] at q1
    show rput 6 (s.2 11) (s.1 6) r q = nRul (u.2 17) q 6 0
    rw [h6, rput_in r hed]
    by_cases c : q = ed
    · subst c; rw [f_up_s]; exact hr
    · rw [f_up_n _ _ c]
      exact hE.2.2.2.1 q q0 (by show q < s.1 6; omega)
theorem q_read {x m : fS} (h : Rel x m) (hx : xOk x) (hm : mOk m) (p1 p3 : Int) : QQ (F_X8_read p1 p3 x) (F_X9_read p1 p3 m) := by
  have hcl := q_clear h hm
  obtain ⟨w1, w2, w3⟩ := findWords_ok hm
  have eT : x.1 2 = m.1 9 := h.2.2.2.1.1
  have kL : 0 ≤ m.1 9 ∧ m.1 9 ≤ 600 := hm.1 9
  have e6 : x.1 6 = m.1 14 := h.2.2.2.2.1.1
  have k14 : 0 ≤ m.1 14 ∧ m.1 14 ≤ 6 := hm.1 14
  have e14 : (F_X9_findWords m).1 14 = m.1 14 := w3 14 (by decide)
  unfold F_X8_read F_X9_read
  rw [show F_X8_isDay p1 x = F_X9_isDay p1 (sN (F_X9_findWords m) 9 0) from rfl, show F_X8_isDay p3 x = F_X9_isDay p3 (sN (F_X9_findWords m) 9 0) from rfl]
  refine QQ.ite Iff.rfl (fun _ _ => ⟨rfl, hcl⟩) (fun _ _ => ?_)
  refine QQ.ite Iff.rfl (fun _ _ => ⟨rfl, hcl⟩) (fun _ _ => ?_)
  unfold F_X0_isFull
  by_cases c : x.1 6 < 6
  case neg =>
    rw [if_neg c, if_neg (show ¬ (1 : Int) = 0 by decide), if_pos (show (F_X9_findWords m).1 14 = 6 by omega)]
    exact ⟨rfl, hcl⟩
  rw [if_pos c, if_pos rfl, if_neg (show ¬ (F_X9_findWords m).1 14 = 6 by omega)]
  have hT : ∀ i, 0 ≤ i → i < m.1 9 → rget 600 (x.2 8) i = m.2 10 i := fun i i0 i1 => h.2.2.2.1.2.get 600 (by omega) i0 (by omega)
  have hw10 : (F_X9_findWords m).2 10 = m.2 10 := w2 10 (by decide) (by decide)
  have hE : ENV (m.2 10) ((F_X9_findWords m).2 12) ((F_X9_findWords m).2 13) ((F_X9_findWords m).1 11) (m.1 9) (m.1 14) x (sN (F_X9_findWords m) 9 0) := ⟨w1, ⟨eT, kL.2, hT⟩, ⟨sN_1n _ _ (by decide), hw10, rfl, rfl⟩, e6, (sN_1n _ _ (by decide)).trans e14, by omega⟩
  have g14 : (sN (F_X9_findWords m) 9 0).1 14 = m.1 14 := hE.2.2.2.2.1
  have hNL := wf_N w1 kL.1
  generalize hmm : sN (F_X9_findWords m) 9 0 = u0 at *
  -- the drafts begin
  have hxd := draft_x e6 ⟨k14.1, by omega⟩ (Int.toNat (6 - (0 : Int)) + 1) 0 (sN x 7 0) ((XF.rf x).n7 0) rfl (by omega) (by omega) (by show (6 : Int) - 0 < 7; omega) (fun d d0 d1 => by omega)
  obtain ⟨u1, v1, v2, v3⟩ := draft_m g14 hE.2.2.1.1 (Int.toNat (6 - (0 : Int)) + 1) 0 u0 (MF.rf u0) (by omega) (by omega) (by show (6 : Int) - 0 < 7; omega) (fun d d0 d1 => by omega)
  have hrul : F_X9_rules u0 = F_X9_rules_35 (6 * m.1 14) (Int.toNat ((F_X9_findWords m).1 11 - 0) + 1) 0 0 u1 := by
    unfold F_X9_rules; rw [g14]; exact v1
  rw [hrul]
  unfold F_X6_readRules
  have hst : F_X0_startDraft x = F_X0_startDraft_7 (Int.toNat (6 - (0 : Int)) + 1) 0 (sN x 7 0) := rfl
  rw [hst]
  generalize F_X0_startDraft_7 (Int.toNat (6 - (0 : Int)) + 1) 0 (sN x 7 0) = s0 at *
  have htx : TX (m.2 10) (m.1 9) s0 := ⟨(hxd.1.1 2 (by decide) (by decide) (by decide) (by decide)).trans eT, kL.2, by rw [hxd.1.2.1 8 (by omega)]; exact hT⟩
  have hXP := XP.first w1 htx.1 htx.2.1 htx.2.2
  have htk : tKeep 1 (sN s0 4 0) (F_X7_toNextWord (sN s0 4 0)) := tnw_k _
  have hXF : XF x (F_X7_toFirstWord s0) := by
    unfold F_X7_toFirstWord
    exact ((hxd.1.n345 (Or.inr (Or.inl rfl)) 0).tk htk).n345 (Or.inr (Or.inr rfl)) 0
  have e2 : (F_X7_toFirstWord s0).2 = s0.2 := by unfold F_X7_toFirstWord; exact htk.2.1
  have e7 : (F_X7_toFirstWord s0).1 7 = 0 := by
    unfold F_X7_toFirstWord
    exact (sN_1n _ _ (by decide)).trans ((htk.1 7 (by decide) (by decide) (by decide)).trans ((sN_1n _ _ (by decide)).trans hxd.2.1))
  have hS : LKS ((F_X9_findWords m).2 12) ((F_X9_findWords m).2 13) ((F_X9_findWords m).1 11) (m.1 9) x u0 (F_X7_toFirstWord s0) u1 0 := ⟨hXF, v2, by omega, w1.1, hXP⟩
  have hD : DD (m.1 14) (F_X7_toFirstWord s0) u1 := ⟨fun d d0 d1 => Or.inl ⟨v3 d d0 d1, by rw [e2]; exact hxd.2.2 d d0 d1⟩, by omega⟩
  generalize F_X7_toFirstWord s0 = s1 at *
  have hr0 : (0 : Int) = nRul (u1.2 17) (m.1 14) 6 0 := (nRul_0 6 0 (fun i i0 i1 => v3 _ (by omega) (by omega))).symm
  have lk := rules_lock hE (Int.toNat (7 - (0 : Int)) + 1) (Int.toNat ((F_X9_findWords m).1 11 - 0) + 1) 0 0 s1 u1 hS hD (fun h0 => by have := wf_b w1 (Int.le_refl 0) h0; omega) (by omega) hr0 (by omega) (by show (7 : Int) - 0 < 8; omega)
  rcases lk with ⟨s', u', j', t1, t2, t3⟩ | ⟨s', u', r', t1, t2, t3, t4, t5, t6⟩
  · have hj0 := t3.2.2.1
    have hjN := t3.2.2.2.1
    have hj5 := t3.2.2.2.2.1
    rw [t1, t2, if_pos (show (-1 : Int) - j' < 0 by omega), if_neg (show ¬ 0 ≤ (-1 : Int) - j' by omega)]
    have h5 : 0 ≤ s'.1 5 ∧ s'.1 5 ≤ 10000 := by omega
    exact ⟨rfl, q_fail hcl e6 g14 t3.1 t3.2.1 h5⟩
  · have hj5 := t3.2.2.2.2.1
    have hb := nRul_b (u'.2 17) (m.1 14) 6 0
    rw [t1, t2, if_neg (show ¬ r' < 0 by omega), if_pos (show 0 ≤ r' by omega)]
    have hN0 := w1.1
    have h5 : 0 ≤ s'.1 5 ∧ s'.1 5 ≤ 10000 := by omega
    have hf := q_fail hcl e6 g14 t3.1 t3.2.1 h5
    exact ⟨rfl, q_keep hf (t3.s6 hE) (by rw [t3.2.1.1]; exact g14) ⟨k14.1, by omega⟩ t4 t6 t5⟩
