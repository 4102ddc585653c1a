/-! ===== PART 71: a rule, all rules ===== -/
theorem tp_a {k : Int} {s : fS} (h1 : F_X7_isWord 1 s = 0) : F_X6_takePrice k s = (0, s) := by
  unfold F_X6_takePrice; rw [takeWord_0 h1, if_pos rfl]
theorem tp_b {k : Int} {s s1 : fS} (h1 : ¬ F_X7_isWord 1 s = 0) (e1 : F_X7_toNextWord s = s1) (h2 : ¬ -1 < F_X7_asNumber s1) : F_X6_takePrice k s = (0, s1) := by
  subst e1; unfold F_X6_takePrice; rw [takeWord_1 h1, if_neg (show ¬ (1 : Int) = 0 by decide)]
  dsimp only
  rw [takeNum_0 h2, if_pos rfl]
theorem tp_c {k : Int} {s s1 s2 : fS} (h1 : ¬ F_X7_isWord 1 s = 0) (e1 : F_X7_toNextWord s = s1) (h2 : -1 < F_X7_asNumber s1) (e2 : F_X7_toNextWord s1 = s2) (h3 : F_X7_isWord 2 s2 = 0) : F_X6_takePrice k s = (0, s2) := by
  subst e1 e2; unfold F_X6_takePrice; rw [takeWord_1 h1, if_neg (show ¬ (1 : Int) = 0 by decide)]
  dsimp only
  rw [takeNum_1 h2]
  dsimp only
  rw [if_neg (by omega), takeWord_0 h3, if_pos rfl]
theorem tp_d {k : Int} {s s1 s2 s3 : fS} (h1 : ¬ F_X7_isWord 1 s = 0) (e1 : F_X7_toNextWord s = s1) (h2 : -1 < F_X7_asNumber s1) (e2 : F_X7_toNextWord s1 = s2) (h3 : ¬ F_X7_isWord 2 s2 = 0) (e3 : F_X7_toNextWord s2 = s3) (h4 : ¬ -1 < F_X7_asNumber s3) : F_X6_takePrice k s = (0, s3) := by
  subst e1 e2 e3; unfold F_X6_takePrice; rw [takeWord_1 h1, if_neg (show ¬ (1 : Int) = 0 by decide)]
  dsimp only
  rw [takeNum_1 h2]
  dsimp only
  rw [if_neg (by omega), takeWord_1 h3, if_neg (show ¬ (1 : Int) = 0 by decide)]
  dsimp only
  rw [takeNum_0 h4, if_pos rfl]
theorem tp_e {k : Int} {s s1 s2 s3 s4 : fS} (h1 : ¬ F_X7_isWord 1 s = 0) (e1 : F_X7_toNextWord s = s1) (h2 : -1 < F_X7_asNumber s1) (e2 : F_X7_toNextWord s1 = s2) (h3 : ¬ F_X7_isWord 2 s2 = 0) (e3 : F_X7_toNextWord s2 = s3) (h4 : -1 < F_X7_asNumber s3) (e4 : F_X7_toNextWord s3 = s4) : F_X6_takePrice k s = (1, F_X0_tellRule k (F_X7_asNumber s1) (F_X7_asNumber s3) s4) := by
  subst e1 e2 e3 e4; unfold F_X6_takePrice; rw [takeWord_1 h1, if_neg (show ¬ (1 : Int) = 0 by decide)]
  dsimp only
  rw [takeNum_1 h2]
  dsimp only
  rw [if_neg (by omega), takeWord_1 h3, if_neg (show ¬ (1 : Int) = 0 by decide)]
  dsimp only
  rw [takeNum_1 h4]
  dsimp only
  rw [if_neg (by omega)]
theorem tc_a {k : Int} {s : fS} (h1 : F_X7_isWord 4 s = 0) : F_X6_takeCap k s = (1, s) := by
  unfold F_X6_takeCap; rw [takeWord_0 h1, if_pos rfl]
theorem tc_b {k : Int} {s s1 : fS} (h1 : ¬ F_X7_isWord 4 s = 0) (e1 : F_X7_toNextWord s = s1) (h2 : ¬ -1 < F_X7_asNumber s1) : F_X6_takeCap k s = (0, s1) := by
  subst e1; unfold F_X6_takeCap; rw [takeWord_1 h1, if_neg (show ¬ (1 : Int) = 0 by decide)]
  dsimp only
  rw [takeNum_0 h2, if_pos rfl]
theorem tc_c {k : Int} {s s1 s2 : fS} (h1 : ¬ F_X7_isWord 4 s = 0) (e1 : F_X7_toNextWord s = s1) (h2 : -1 < F_X7_asNumber s1) (e2 : F_X7_toNextWord s1 = s2) : F_X6_takeCap k s = (1, F_X0_tellCap k (F_X7_asNumber s1) s2) := by
  subst e1 e2; unfold F_X6_takeCap; rw [takeWord_1 h1, if_neg (show ¬ (1 : Int) = 0 by decide)]
  dsimp only
  rw [takeNum_1 h2]
  dsimp only
  rw [if_neg (by omega)]
theorem tr_a {s : fS} (h1 : F_X7_isWord 0 s = 0) : F_X6_takeRule s = (0, s) := by
  unfold F_X6_takeRule; rw [takeWord_0 h1, if_pos rfl]
theorem tr_b {s s1 : fS} (h1 : ¬ F_X7_isWord 0 s = 0) (e1 : F_X7_toNextWord s = s1) (h2 : F_X7_asNumber s1 < 0 ∨ 6 ≤ F_X7_asNumber s1 ∨ ¬ F_X0_draftHasRule (F_X7_asNumber s1) s1 = 0) : F_X6_takeRule s = (0, s1) := by
  subst e1; unfold F_X6_takeRule; rw [takeWord_1 h1, if_neg (show ¬ (1 : Int) = 0 by decide)]
  dsimp only
  by_cases c1 : F_X7_asNumber (F_X7_toNextWord s) < 0
  · rw [if_pos c1]
  rw [if_neg c1]
  by_cases c2 : 6 ≤ F_X7_asNumber (F_X7_toNextWord s)
  · rw [if_pos c2]
  rw [if_neg c2]
  rcases h2 with h2 | h2 | h2
  · exact absurd h2 c1
  · exact absurd h2 c2
  · rw [if_neg h2]
theorem tr_c {s s1 s2 s3 : fS} {k : Int} (h1 : ¬ F_X7_isWord 0 s = 0) (e1 : F_X7_toNextWord s = s1) (ek : F_X7_asNumber s1 = k) (hk : 0 ≤ k ∧ k < 6) (h2 : F_X0_draftHasRule k s1 = 0) (e2 : F_X7_toNextWord s1 = s2) (hp : F_X6_takePrice k s2 = (0, s3)) : F_X6_takeRule s = (0, s3) := by
  subst e1 e2; unfold F_X6_takeRule; rw [takeWord_1 h1, if_neg (show ¬ (1 : Int) = 0 by decide)]
  dsimp only
  rw [ek, if_neg (by omega), if_neg (by omega), if_pos h2, hp, if_pos rfl]
theorem tr_d {s s1 s2 s3 s4 : fS} {k : Int} (h1 : ¬ F_X7_isWord 0 s = 0) (e1 : F_X7_toNextWord s = s1) (ek : F_X7_asNumber s1 = k) (hk : 0 ≤ k ∧ k < 6) (h2 : F_X0_draftHasRule k s1 = 0) (e2 : F_X7_toNextWord s1 = s2) (hp : F_X6_takePrice k s2 = (1, s3)) (ht : F_X6_takeSteps k s3 = (0, s4)) : F_X6_takeRule s = (0, s4) := by
  subst e1 e2; unfold F_X6_takeRule; rw [takeWord_1 h1, if_neg (show ¬ (1 : Int) = 0 by decide)]
  dsimp only
  rw [ek, if_neg (by omega), if_neg (by omega), if_pos h2, hp, if_neg (show ¬ (1 : Int) = 0 by decide)]
  dsimp only
  rw [ht, if_pos rfl]
theorem tr_e {s s1 s2 s3 s4 s5 : fS} {k z : Int} (h1 : ¬ F_X7_isWord 0 s = 0) (e1 : F_X7_toNextWord s = s1) (ek : F_X7_asNumber s1 = k) (hk : 0 ≤ k ∧ k < 6) (h2 : F_X0_draftHasRule k s1 = 0) (e2 : F_X7_toNextWord s1 = s2) (hp : F_X6_takePrice k s2 = (1, s3)) (ht : F_X6_takeSteps k s3 = (1, s4)) (hc : F_X6_takeCap k s4 = (z, s5)) (hz : z = 0 ∨ z = 1) : F_X6_takeRule s = (z, s5) := by
  subst e1 e2; unfold F_X6_takeRule; rw [takeWord_1 h1, if_neg (show ¬ (1 : Int) = 0 by decide)]
  dsimp only
  rw [ek, if_neg (by omega), if_neg (by omega), if_pos h2, hp, if_neg (show ¬ (1 : Int) = 0 by decide)]
  dsimp only
  rw [ht, if_neg (show ¬ (1 : Int) = 0 by decide)]
  dsimp only
  rw [hc]
  rcases hz with hz | hz
  · subst hz; rw [if_pos rfl]
  · subst hz; rw [if_neg (show ¬ (1 : Int) = 0 by decide)]
theorem q_draftHas {e k : Int} {s u : fS} (h : DD e s u) (he : 0 ≤ e ∧ e < 6) (hk : 0 ≤ k ∧ k < 6) (h6 : s.1 6 = e) : F_X0_draftHasRule k s = 0 ↔ u.2 17 (6 * e + k) = 0 := by
  have hc : F_X0_cellOf (s.1 6) k s = 6 * e + k := by unfold F_X0_cellOf; omega
  have b1 : 0 ≤ 6 * e + k ∧ 6 * e + k < 36 := by omega
  unfold F_X0_draftHasRule
  rw [hc, rget_in b1]
  rcases h.1 (6 * e + k) (by omega) (by omega) with ⟨a, b⟩ | ⟨a, b⟩
  · rw [if_pos b]; exact ⟨fun _ => a, fun _ => rfl⟩
  · have := b.1
    have := b.2.1
    rw [if_neg (by omega)]
    exact ⟨fun h9 => absurd h9 (by decide), fun h9 => by omega⟩
theorem rule_lock {T b e : Int → Int} {N L ed : Int} {x m : fS} (hE : ENV T b e N L ed x m) (n : Nat) (r j : Int) (s u : fS) (hS : LKS b e N L x m s u j) (hj : j < N) (hD : DD ed s u) (hPB : 9 * s.1 7 ≤ b j) (h66 : s.1 7 ≤ 66) :
    (∃ (s' u' : fS) (j' : Int), F_X6_takeRule s = (0, s') ∧ LKS b e N L x m s' u' j' ∧ F_X9_rules_35 (6 * ed) (n + 1) r j u = (-1 - j', u')) ∨
    (∃ (s' u' : fS) (j' k : Int), F_X6_takeRule s = (1, s') ∧ LKS b e N L x m s' u' j' ∧ DD ed s' u' ∧ j < j' ∧ (j' < N → 9 * s'.1 7 ≤ b j') ∧ s'.1 7 ≤ 66 ∧ (0 ≤ k ∧ k < 6) ∧ u.2 17 (6 * ed + k) = 0 ∧ u'.2 17 = f_up (u.2 17) (6 * ed + k) 1 ∧ F_X9_rules_35 (6 * ed) (n + 1) r j u = F_X9_rules_35 (6 * ed) n (r + 1) j' u') := by
  obtain ⟨hw, hx, hm, hx6, hm14, hed⟩ := id hE
  have hwm := hS.wm hE
  have j0 := hS.2.2.1
  have b0 := wf_b hw j0 hj
  have qk := q_isKindWord hw hwm (hS.tx hE) j0 hS.2.2.2.2
  rw [F_X9_rules_35, hwm.1, if_neg (show ¬ N ≤ j by omega)]
  by_cases c0 : F_X9_isKindWord j u = 0
  · left
    rw [if_pos c0]
    exact ⟨s, u, j, tr_a (qk.trans c0), hS, rfl⟩
  have hk0 : ¬ F_X7_isWord 0 s = 0 := fun h9 => c0 (qk.symm.trans h9)
  rw [if_neg c0]
  have hS1 := hS.next hE hj
  have q1 := q_number hw hwm (hS1.tx hE) (by omega) hS1.2.2.2.2
  have hD1 := hD.tk (tnw_k s)
  generalize es1 : F_X7_toNextWord s = s1 at *
  by_cases c1 : F_X9_number (j + 1) u < 0
  · left
    rw [if_pos c1]
    exact ⟨s1, u, j + 1, tr_b hk0 es1 (Or.inl (by omega)), hS1, by rw [show (-2 : Int) - j = -1 - (j + 1) by omega]⟩
  rw [if_neg c1]
  by_cases c2 : F_X9_number (j + 1) u ≤ 5
  case neg =>
    left
    rw [if_neg c2]
    exact ⟨s1, u, j + 1, tr_b hk0 es1 (Or.inr (Or.inl (by omega))), hS1, by rw [show (-2 : Int) - j = -1 - (j + 1) by omega]⟩
  rw [if_pos c2]
  have hkb : 0 ≤ F_X9_number (j + 1) u ∧ F_X9_number (j + 1) u < 6 := by omega
  have hdr := q_draftHas hD1 hed hkb (hS1.s6 hE)
  have j1N := q1.2.2 (by omega)
  by_cases c3 : u.2 17 (6 * ed + F_X9_number (j + 1) u) = 0
  case neg =>
    left
    rw [if_neg c3]
    exact ⟨s1, u, j + 1, tr_b hk0 es1 (Or.inr (Or.inr (by rw [q1.1]; exact fun h9 => c3 (hdr.mp h9)))), hS1, by rw [show (-2 : Int) - j = -1 - (j + 1) by omega]⟩
  rw [if_pos c3]
  have hd0 := hdr.mpr c3
  generalize ek : F_X9_number (j + 1) u = k at *
  have b1 := wf_b hw (show 0 ≤ j + 1 by omega) j1N
  have b01 := wf_n hw j0 j1N
  have hS2 := hS1.next hE j1N
  have hD2 := hD1.tk (tnw_k s1)
  rw [show j + 1 + 1 = j + 2 by omega] at hS2
  generalize es2 : F_X7_toNextWord s1 = s2 at *
  have qp := q_isPer hw hwm (hS2.tx hE) (by omega) hS2.2.2.2.2
  by_cases c4 : F_X9_isPer (j + 2) u = 0
  · left
    rw [if_pos c4]
    exact ⟨s2, u, j + 2, tr_c hk0 es1 q1.1 hkb hd0 es2 (tp_a (qp.trans c4)), hS2, by rw [show (-3 : Int) - j = -1 - (j + 2) by omega]⟩
  rw [if_neg c4]
  have hp0 : ¬ F_X7_isWord 1 s2 = 0 := fun h9 => c4 (qp.symm.trans h9)
  have j2N := is_b hwm c4
  have b2 := wf_b hw (show 0 ≤ j + 2 by omega) j2N
  have hS3 := hS2.next hE j2N
  have hD3 := hD2.tk (tnw_k s2)
  rw [show j + 2 + 1 = j + 3 by omega] at hS3
  generalize es3 : F_X7_toNextWord s2 = s3 at *
  have q3 := q_number hw hwm (hS3.tx hE) (by omega) hS3.2.2.2.2
  by_cases c5 : 0 ≤ F_X9_number (j + 3) u
  case neg =>
    left
    rw [if_neg c5]
    refine ⟨s3, _, j + 3, tr_c hk0 es1 q1.1 hkb hd0 es2 (tp_b hp0 es3 (by rw [q3.1]; omega)), ?_, by rw [show (-4 : Int) - j = -1 - (j + 3) by omega]⟩
    exact ⟨hS3.1, hS3.2.1.c (by decide) (by decide) (by omega), hS3.2.2⟩
  rw [if_pos c5]
  have j3N := q3.2.2 c5
  have b3 := wf_b hw (show 0 ≤ j + 3 by omega) j3N
  have hS4 := hS3.next hE j3N
  have hD4 := hD3.tk (tnw_k s3)
  rw [show j + 3 + 1 = j + 4 by omega] at hS4
  generalize es4 : F_X7_toNextWord s3 = s4 at *
  have q4 := q_isPrice hw hwm (hS4.tx hE) (by omega) hS4.2.2.2.2
  have hwm1 : WM T b e N (sR u 18 (f_up (u.2 18) (6 * ed + k) (F_X9_number (j + 3) u))) := hwm
  rw [show F_X9_isPrice (j + 4) (sR u 18 (f_up (u.2 18) (6 * ed + k) (F_X9_number (j + 3) u))) = F_X9_isPrice (j + 4) u from is_w hwm1 hwm _ _ _ _ _ _]
  by_cases c6 : F_X9_isPrice (j + 4) u = 0
  · left
    rw [if_pos c6]
    refine ⟨s4, _, j + 4, tr_c hk0 es1 q1.1 hkb hd0 es2 (tp_c hp0 es3 (by rw [q3.1]; omega) es4 (q4.trans c6)), ?_, by rw [show (-5 : Int) - j = -1 - (j + 4) by omega]⟩
    exact ⟨hS4.1, hS4.2.1.c (by decide) (by decide) (by omega), hS4.2.2⟩
  rw [if_neg c6, number_w hwm1 hwm (j + 5)]
  have hp2 : ¬ F_X7_isWord 2 s4 = 0 := fun h9 => c6 (q4.symm.trans h9)
  have j4N := is_b hwm c6
  have b4 := wf_b hw (show 0 ≤ j + 4 by omega) j4N
  have hS5 := hS4.next hE j4N
  have hD5 := hD4.tk (tnw_k s4)
  rw [show j + 4 + 1 = j + 5 by omega] at hS5
  generalize es5 : F_X7_toNextWord s4 = s5 at *
  have q5 := q_number hw hwm (hS5.tx hE) (by omega) hS5.2.2.2.2
  by_cases c7 : 0 ≤ F_X9_number (j + 5) u
  case neg =>
    left
    rw [if_neg c7]
    refine ⟨s5, _, j + 5, tr_c hk0 es1 q1.1 hkb hd0 es2 (tp_d hp0 es3 (by rw [q3.1]; omega) es4 hp2 es5 (by rw [q5.1]; omega)), ?_, by rw [show (-6 : Int) - j = -1 - (j + 5) by omega]⟩
    exact ⟨hS5.1, (hS5.2.1.c (by decide) (by decide) (by omega)).c (by decide) (by decide) (by omega), hS5.2.2⟩
  rw [if_pos c7]
  have j5N := q5.2.2 c7
  have b5 := wf_b hw (show 0 ≤ j + 5 by omega) j5N
  have hS6 := hS5.next hE j5N
  have hD6 := hD5.tk (tnw_k s5)
  rw [show j + 5 + 1 = j + 6 by omega] at hS6
  have e7 : (F_X7_toNextWord s5).1 7 = s.1 7 := by
    rw [(tnw_k s5).1 7 (by decide) (by decide) (by decide), ← es5, (tnw_k s4).1 7 (by decide) (by decide) (by decide), ← es4, (tnw_k s3).1 7 (by decide) (by decide) (by decide), ← es3, (tnw_k s2).1 7 (by decide) (by decide) (by decide), ← es2, (tnw_k s1).1 7 (by decide) (by decide) (by decide), ← es1, (tnw_k s).1 7 (by decide) (by decide) (by decide)]
  generalize es6 : F_X7_toNextWord s5 = s6 at *
  have hs6 := hS6.s6 hE
  have hDM := hD6.rule hed hkb hs6 c3 (p := F_X9_number (j + 3) u) (q := F_X9_number (j + 5) u) c5 c7
  have hpr : F_X6_takePrice k s2 = (1, F_X0_tellRule k (F_X9_number (j + 3) u) (F_X9_number (j + 5) u) s6) := by
    have := tp_e (k := k) hp0 es3 (by rw [q3.1]; omega) es4 hp2 es5 (by rw [q5.1]; omega) es6
    rw [q3.1, q5.1] at this
    exact this
  have hS7 : LKS b e N L x m (F_X0_tellRule k (F_X9_number (j + 3) u) (F_X9_number (j + 5) u) s6) (sR (sR (sR (sR u 18 (f_up (u.2 18) (6 * ed + k) (F_X9_number (j + 3) u))) 19 (f_up (u.2 19) (6 * ed + k) (F_X9_number (j + 5) u))) 21 (f_up (u.2 21) (6 * ed + k) 0)) 20 (f_up (u.2 20) (6 * ed + k) (-1))) (j + 6) := by
    refine ⟨?_, ?_, hS6.2.2.1, hS6.2.2.2.1, hS6.2.2.2.2⟩
    · unfold F_X0_tellRule
      have hcell : F_X0_cellOf (s6.1 6) k s6 = 6 * ed + k := by unfold F_X0_cellOf; omega
      rw [hcell]
      exact ((((hS6.1.c (by decide) (by decide) (by omega)).c (by decide) (by decide) (by omega)).c (by decide) (by decide) (by omega)).c (by decide) (by decide) (by omega)).c (by decide) (by decide) (by omega)
    · exact (((hS6.2.1.c (by decide) (by decide) (by omega)).c (by decide) (by decide) (by omega)).c (by decide) (by decide) (by omega)).c (by decide) (by decide) (by omega)
  have e7' : (F_X0_tellRule k (F_X9_number (j + 3) u) (F_X9_number (j + 5) u) s6).1 7 = s.1 7 := e7
  have hcnt : (sR (sR (sR (sR u 18 (f_up (u.2 18) (6 * ed + k) (F_X9_number (j + 3) u))) 19 (f_up (u.2 19) (6 * ed + k) (F_X9_number (j + 5) u))) 21 (f_up (u.2 21) (6 * ed + k) 0)) 20 (f_up (u.2 20) (6 * ed + k) (-1))).2 21 (6 * ed + k) = 0 := f_up_s _ _ _
  have hfl : (sR (sR (sR (sR u 18 (f_up (u.2 18) (6 * ed + k) (F_X9_number (j + 3) u))) 19 (f_up (u.2 19) (6 * ed + k) (F_X9_number (j + 5) u))) 21 (f_up (u.2 21) (6 * ed + k) 0)) 20 (f_up (u.2 20) (6 * ed + k) (-1))).2 17 = u.2 17 := rfl
  generalize F_X0_tellRule k (F_X9_number (j + 3) u) (F_X9_number (j + 5) u) s6 = s7 at *
  generalize sR (sR (sR (sR u 18 (f_up (u.2 18) (6 * ed + k) (F_X9_number (j + 3) u))) 19 (f_up (u.2 19) (6 * ed + k) (F_X9_number (j + 5) u))) 21 (f_up (u.2 21) (6 * ed + k) 0)) 20 (f_up (u.2 20) (6 * ed + k) (-1)) = u7 at *
  have st := steps_lock hE k hkb (6 * ed) r (F_X9_rules_35 (6 * ed) n) (Int.toNat (66 - (0 : Int)) + 1) (Int.toNat (N - (j + 6)) + 1) 0 0 (j + 6) s7 u7 (by omega) (by show (66 : Int) - 0 < 67; omega) (by omega) (by have := hD.2; omega) hS7 hDM (Or.inl ⟨rfl, hcnt⟩) (by omega) (fun h6N => by
    have b12 := wf_n hw (show 0 ≤ j + 1 by omega) (show j + 1 + 1 < N by omega)
    have b23 := wf_n hw (show 0 ≤ j + 2 by omega) (show j + 2 + 1 < N by omega)
    have b34 := wf_n hw (show 0 ≤ j + 3 by omega) (show j + 3 + 1 < N by omega)
    have b45 := wf_n hw (show 0 ≤ j + 4 by omega) (show j + 4 + 1 < N by omega)
    have b56 := wf_n hw (show 0 ≤ j + 5 by omega) (show j + 5 + 1 < N by omega)
    rw [show j + 1 + 1 = j + 2 by omega] at b12
    rw [show j + 2 + 1 = j + 3 by omega] at b23
    rw [show j + 3 + 1 = j + 4 by omega] at b34
    rw [show j + 4 + 1 = j + 5 by omega] at b45
    rw [show j + 5 + 1 = j + 6 by omega] at b56
    omega) (by omega)
  rcases st with ⟨s8, u8, j8, t1, t2, t3⟩ | ⟨s8, u8, j8, v8, n2, t1, t2, t3, t4, t5, t6, t7, t8, t9⟩
  · left
    exact ⟨s8, u8, j8, tr_d hk0 es1 q1.1 hkb hd0 es2 hpr t1, t2, t3⟩
  rw [t9, F_X9_rules_213, if_pos t4]
  have hwm8 := t2.wm hE
  have q8 := q_isCap hw hwm8 (t2.tx hE) t2.2.2.1 t2.2.2.2.2
  by_cases d0 : F_X9_isCap j8 u8 = 0
  · right
    rw [if_pos d0]
    refine ⟨s8, _, j8, k, tr_e hk0 es1 q1.1 hkb hd0 es2 hpr t1 (tc_a (q8.trans d0)) (Or.inr rfl), ⟨t2.1, t2.2.1.c (by decide) (by decide) (by omega), t2.2.2⟩, t3.done, by omega, fun h9 => by have := t6 h9; omega, t7, hkb, c3, ?_, rfl⟩
    show f_up (u8.2 17) (6 * ed + k) 1 = _
    rw [t8, hfl]
  have hcp : ¬ F_X7_isWord 4 s8 = 0 := fun h9 => d0 (q8.symm.trans h9)
  rw [if_neg d0]
  have j8N := is_b hwm8 d0
  have b8 := wf_b hw t2.2.2.1 j8N
  have hS9 := t2.next hE j8N
  have q9 := q_number hw hwm8 (hS9.tx hE) (by have := t2.2.2.1; omega) hS9.2.2.2.2
  have hD9 := t3.tk (tnw_k s8)
  have e79 : (F_X7_toNextWord s8).1 7 = s8.1 7 := (tnw_k s8).1 7 (by decide) (by decide) (by decide)
  generalize es9 : F_X7_toNextWord s8 = s9 at *
  by_cases d1 : 0 ≤ F_X9_number (j8 + 1) u8
  case neg =>
    left
    rw [if_neg d1]
    refine ⟨s9, _, j8 + 1, tr_e hk0 es1 q1.1 hkb hd0 es2 hpr t1 (tc_b hcp es9 (by rw [q9.1]; omega)) (Or.inl rfl), ?_, by rw [show (-2 : Int) - j8 = -1 - (j8 + 1) by omega]⟩
    exact ⟨hS9.1, hS9.2.1.c (by decide) (by decide) (by omega), hS9.2.2⟩
  right
  rw [if_pos d1]
  have j9N := q9.2.2 d1
  have b9 := wf_b hw (by have := t2.2.2.1; omega) j9N
  have hSa := hS9.next hE j9N
  have hDa := hD9.tk (tnw_k s9)
  have e7a : (F_X7_toNextWord s9).1 7 = s9.1 7 := (tnw_k s9).1 7 (by decide) (by decide) (by decide)
  rw [show j8 + 1 + 1 = j8 + 2 by omega] at hSa
  generalize esa : F_X7_toNextWord s9 = sa at *
  have hsa6 := hSa.s6 hE
  have hcap : F_X6_takeCap k s8 = (1, F_X0_tellCap k (F_X9_number (j8 + 1) u8) sa) := by
    have := tc_c (k := k) hcp es9 (by rw [q9.1]; omega) esa
    rw [q9.1] at this
    exact this
  refine ⟨F_X0_tellCap k (F_X9_number (j8 + 1) u8) sa, _, j8 + 2, k, tr_e hk0 es1 q1.1 hkb hd0 es2 hpr t1 hcap (Or.inr rfl), ⟨?_, (hSa.2.1.c (by decide) (by decide) (by omega)).c (by decide) (by decide) (by omega), hSa.2.2⟩, (hDa.cap hed hkb hsa6 _).done, by omega, fun h9 => ?_, by show sa.1 7 ≤ 66; omega, hkb, c3, ?_, rfl⟩
  · unfold F_X0_tellCap
    have hcell : F_X0_cellOf (sa.1 6) k sa = 6 * ed + k := by unfold F_X0_cellOf; omega
    rw [hcell]
    exact hSa.1.c (by decide) (by decide) (by omega)
  · show 9 * sa.1 7 ≤ b (j8 + 2)
    have := t6 j8N
    have w1 := wf_n hw t2.2.2.1 j9N
    have w2 := wf_n hw (show 0 ≤ j8 + 1 by have := t2.2.2.1; omega) (show j8 + 1 + 1 < N by omega)
    rw [show j8 + 1 + 1 = j8 + 2 by omega] at w2
    omega
  · show f_up (u8.2 17) (6 * ed + k) 1 = _
    rw [t8, hfl]
