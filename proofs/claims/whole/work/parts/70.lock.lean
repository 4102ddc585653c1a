/-! ===== PART 70: both read a rule ===== -/
def ENV (T b e : Int → Int) (N L ed : Int) (x m : fS) : Prop := WF T b e N L ∧ TX T L x ∧ WM T b e N m ∧ x.1 6 = ed ∧ m.1 14 = ed ∧ 0 ≤ ed ∧ ed < 6
def LKS (b e : Int → Int) (N L : Int) (x m s u : fS) (j : Int) : Prop := XF x s ∧ MF m u ∧ 0 ≤ j ∧ j ≤ N ∧ XP b e N L s j
theorem LKS.tx {T b e : Int → Int} {N L ed : Int} {x m s u : fS} {j : Int} (hE : ENV T b e N L ed x m) (h : LKS b e N L x m s u j) : TX T L s := by
  obtain ⟨a1, a2, a3⟩ := hE.2.1
  refine ⟨(h.1.1 2 (by decide) (by decide) (by decide) (by decide)).trans a1, a2, ?_⟩
  rw [h.1.2.1 8 (by omega)]; exact a3
theorem LKS.wm {T b e : Int → Int} {N L ed : Int} {x m s u : fS} {j : Int} (hE : ENV T b e N L ed x m) (h : LKS b e N L x m s u j) : WM T b e N u := by
  obtain ⟨a1, a2, a3, a4⟩ := hE.2.2.1
  exact ⟨by rw [h.2.1.1]; exact a1, by rw [h.2.1.2.1 10 (by omega)]; exact a2, by rw [h.2.1.2.1 12 (by omega)]; exact a3, by rw [h.2.1.2.1 13 (by omega)]; exact a4⟩
theorem LKS.s6 {T b e : Int → Int} {N L ed : Int} {x m s u : fS} {j : Int} (hE : ENV T b e N L ed x m) (h : LKS b e N L x m s u j) : s.1 6 = ed := (h.1.1 6 (by decide) (by decide) (by decide) (by decide)).trans hE.2.2.2.1
theorem LKS.next {T b e : Int → Int} {N L ed : Int} {x m s u : fS} {j : Int} (hE : ENV T b e N L ed x m) (h : LKS b e N L x m s u j) (hj : j < N) : LKS b e N L x m (F_X7_toNextWord s) u (j + 1) := by
  obtain ⟨t1, t2, t3⟩ := h.tx hE
  exact ⟨h.1.tk (tnw_k s), h.2.1, by have := h.2.2.1; omega, by omega, h.2.2.2.2.next hE.1 t1 t2 t3 h.2.2.1 hj⟩
theorem takeWord_0 {i : Nat} {s : fS} (h : F_X7_isWord i s = 0) : F_X6_takeWord i s = (0, s) := if_pos h
theorem takeWord_1 {i : Nat} {s : fS} (h : ¬ F_X7_isWord i s = 0) : F_X6_takeWord i s = (1, F_X7_toNextWord s) := if_neg h
theorem takeNum_0 {p : Int} {s : fS} (h : ¬ p < F_X7_asNumber s) : F_X6_takeNumberAbove p s = (-1, s) := if_neg h
theorem takeNum_1 {p : Int} {s : fS} (h : p < F_X7_asNumber s) : F_X6_takeNumberAbove p s = (F_X7_asNumber s, F_X7_toNextWord s) := if_pos h
theorem steps_lock {T b e : Int → Int} {N L ed : Int} {x m : fS} (hE : ENV T b e N L ed x m) (k : Int) (hk : 0 ≤ k ∧ k < 6) (v1 v2 : Int) (K : Int → Int → fS → Int × fS) : ∀ (n' n : Nat) (v6 v4 j : Int) (s u : fS), N - j < n → 66 - v4 < n' → 0 ≤ v4 → v4 ≤ s.1 7 → LKS b e N L x m s u j → DM ed (6 * ed + k) s u → ((v6 = 0 ∧ u.2 21 (6 * ed + k) = 0) ∨ (0 < u.2 21 (6 * ed + k) ∧ v6 = u.2 22 (100 * (6 * ed + k) + u.2 21 (6 * ed + k) - 1))) → 0 ≤ v6 → (j < N → 12 + 9 * s.1 7 ≤ b j) → s.1 7 ≤ 66 →
    (∃ (s' u' : fS) (j' : Int), F_X6_takeSteps_5 k n' v6 v4 s = (0, s') ∧ LKS b e N L x m s' u' j' ∧ F_X9_rules_213 v1 v2 (6 * ed + k) K n j v6 u = (-1 - j', u')) ∨
    (∃ (s' u' : fS) (j' v6' : Int) (n2 : Nat), F_X6_takeSteps_5 k n' v6 v4 s = (1, s') ∧ LKS b e N L x m s' u' j' ∧ DM ed (6 * ed + k) s' u' ∧ F_X9_isStep j' u' = 0 ∧ j ≤ j' ∧ (j' < N → 12 + 9 * s'.1 7 ≤ b j') ∧ s'.1 7 ≤ 66 ∧ u'.2 17 = u.2 17 ∧ F_X9_rules_213 v1 v2 (6 * ed + k) K n j v6 u = F_X9_rules_213 v1 v2 (6 * ed + k) K (n2 + 1) j' v6' u') := by
  obtain ⟨hw, hx, hm, hx6, hm14, hed⟩ := id hE
  intro n'
  induction n' with
  | zero => intro n v6 v4 j s u h1 h2 h3 h4 hS hD hv h5 h6 h7; omega
  | succ n' ih =>
    intro n v6 v4 j s u h1 h2 h3 h4 hS hD hv h5 h6 h7
    have j0 := hS.2.2.1
    have jN := hS.2.2.2.1
    have hwm := hS.wm hE
    have htx := hS.tx hE
    have hq := q_isStep hw hwm htx j0 hS.2.2.2.2
    match n, h1 with
    | 0, h1 => omega
    | n + 1, h1 =>
      rw [F_X6_takeSteps_5]
      by_cases c0 : F_X9_isStep j u = 0
      · right
        refine ⟨s, u, j, v6, n, ?_, hS, hD, c0, by omega, h6, h7, rfl, rfl⟩
        rw [takeWord_0 (hq.trans c0)]
        split
        · rfl
        · rw [if_pos rfl]
      have hb4 := is4_b hwm (show ¬ (112 : Int) ≤ 0 by decide) c0
      have b0 := wf_b hw j0 hb4.1
      have hL600 := hx.2.1
      have h6' := h6 hb4.1
      rw [if_neg (show ¬ 66 ≤ v4 by omega), takeWord_1 (fun h9 => c0 (hq.symm.trans h9)), if_neg (show ¬ (1 : Int) = 0 by decide), F_X9_rules_213, if_neg c0]
      have hS1 := hS.next hE hb4.1
      have q1 := q_number hw hwm (hS1.tx hE) (by omega) hS1.2.2.2.2
      show (∃ (s' u' : fS) (j' : Int), (if (F_X6_takeNumberAbove v6 (F_X7_toNextWord s)).1 = -1 then (0, (F_X6_takeNumberAbove v6 (F_X7_toNextWord s)).2) else _) = (0, s') ∧ _) ∨ _
      by_cases c1 : v6 < F_X9_number (j + 1) u
      case neg =>
        left
        rw [takeNum_0 (show ¬ v6 < F_X7_asNumber (F_X7_toNextWord s) by rw [q1.1]; exact c1), if_pos rfl, if_neg c1]
        exact ⟨_, u, j + 1, rfl, hS1, by rw [show (-2 : Int) - j = -1 - (j + 1) by omega]⟩
      have j1N := q1.2.2 (by omega)
      have b1 := wf_b hw (show 0 ≤ j + 1 by omega) j1N
      have b01 := wf_n hw j0 j1N
      have hS2 := hS1.next hE j1N
      have q2 := q_number hw hwm (hS2.tx hE) (by omega) hS2.2.2.2.2
      rw [show j + 1 + 1 = j + 2 by omega] at q2 hS2
      rw [takeNum_1 (show v6 < F_X7_asNumber (F_X7_toNextWord s) by rw [q1.1]; exact c1), q1.1, if_neg (show ¬ F_X9_number (j + 1) u = -1 by omega), if_pos c1]
      by_cases c2 : 0 ≤ F_X9_number (j + 2) u
      case neg =>
        left
        rw [takeNum_0 (show ¬ -1 < F_X7_asNumber (F_X7_toNextWord (F_X7_toNextWord s)) by rw [q2.1]; omega), if_pos rfl, if_neg c2]
        exact ⟨_, u, j + 2, rfl, hS2, by rw [show (-3 : Int) - j = -1 - (j + 2) by omega]⟩
      have j2N := q2.2.2 c2
      have b2 := wf_b hw (show 0 ≤ j + 2 by omega) j2N
      have b12 := wf_n hw (show 0 ≤ j + 1 by omega) (show j + 1 + 1 < N by omega)
      rw [show j + 1 + 1 = j + 2 by omega] at b12
      have hS3 := hS2.next hE j2N
      rw [show j + 2 + 1 = j + 3 by omega] at hS3
      rw [takeNum_1 (show -1 < F_X7_asNumber (F_X7_toNextWord (F_X7_toNextWord s)) by rw [q2.1]; omega), q2.1, if_neg (show ¬ F_X9_number (j + 2) u = -1 by omega), if_pos c2]
      have hD3 := ((hD.tk (tnw_k s)).tk (tnw_k _)).tk (tnw_k (F_X7_toNextWord (F_X7_toNextWord s)))
      have e7 : (F_X7_toNextWord (F_X7_toNextWord (F_X7_toNextWord s))).1 7 = s.1 7 := (((tnw_k _).1 7 (by decide) (by decide) (by decide)).trans ((tnw_k _).1 7 (by decide) (by decide) (by decide))).trans ((tnw_k s).1 7 (by decide) (by decide) (by decide))
      have hs6 := hS3.s6 hE
      have hD4 := hD3.step hed hk hs6 (by omega) (p := F_X9_number (j + 1) u) (q := F_X9_number (j + 2) u) hv c1 h5
      have hx6' : x.1 6 = ed := hx6
      have hS4 : LKS b e N L x m (F_X0_tellStep k (F_X9_number (j + 1) u) (F_X9_number (j + 2) u) (F_X7_toNextWord (F_X7_toNextWord (F_X7_toNextWord s)))) (sR (sR (sR u 22 (f_up (u.2 22) (100 * (6 * ed + k) + u.2 21 (6 * ed + k)) (F_X9_number (j + 1) u))) 23 (f_up (u.2 23) (100 * (6 * ed + k) + u.2 21 (6 * ed + k)) (F_X9_number (j + 2) u))) 21 (f_up (u.2 21) (6 * ed + k) (u.2 21 (6 * ed + k) + 1))) (j + 3) := by
        have cnt0 := hD.2.1.2.2.2.2.2.2.1
        refine ⟨?_, ?_, hS3.2.2.1, hS3.2.2.2.1, hS3.2.2.2.2⟩
        · unfold F_X0_tellStep
          refine XF.n7 ?_ _
          have hcell : F_X0_cellOf ((F_X7_toNextWord (F_X7_toNextWord (F_X7_toNextWord s))).1 6) k (F_X7_toNextWord (F_X7_toNextWord (F_X7_toNextWord s))) = 6 * ed + k := by unfold F_X0_cellOf; omega
          rw [hcell]
          exact ((hS3.1.t (Or.inl rfl) (by omega)).t (Or.inr rfl) (by omega)).c (by decide) (by decide) (by omega)
        · exact ((hS3.2.1.t (Or.inl rfl) (by omega)).t (Or.inr rfl) (by omega)).c (by decide) (by decide) (by omega)
      have e7' : (F_X0_tellStep k (F_X9_number (j + 1) u) (F_X9_number (j + 2) u) (F_X7_toNextWord (F_X7_toNextWord (F_X7_toNextWord s)))).1 7 = s.1 7 + 1 := by
        show (F_X7_toNextWord (F_X7_toNextWord (F_X7_toNextWord s))).1 7 + 1 = s.1 7 + 1
        rw [e7]
      have cnt0 := hD.2.1.2.2.2.2.2.2.1
      have r := ih n (F_X9_number (j + 1) u) (v4 + 1) (j + 3) _ _ (by omega) (by omega) (by omega) (by omega) hS4 hD4 (Or.inr ⟨by show 0 < f_up (u.2 21) (6 * ed + k) (u.2 21 (6 * ed + k) + 1) (6 * ed + k); rw [f_up_s]; omega, by
        show F_X9_number (j + 1) u = f_up (u.2 22) (100 * (6 * ed + k) + u.2 21 (6 * ed + k)) (F_X9_number (j + 1) u) (100 * (6 * ed + k) + f_up (u.2 21) (6 * ed + k) (u.2 21 (6 * ed + k) + 1) (6 * ed + k) - 1)
        rw [f_up_s, show 100 * (6 * ed + k) + (u.2 21 (6 * ed + k) + 1) - 1 = 100 * (6 * ed + k) + u.2 21 (6 * ed + k) by omega, f_up_s]⟩) (by omega) (fun h3N => by
          have b3 := wf_n hw (show 0 ≤ j + 2 by omega) (show j + 2 + 1 < N by omega)
          rw [show j + 2 + 1 = j + 3 by omega] at b3
          omega) (by omega)
      rcases r with ⟨s', u', j', r1, r2, r3⟩ | ⟨s', u', j', v6', n2, r1, r2, r3, r4, r5, r6, r7, r8, r9⟩
      · left; exact ⟨s', u', j', r1, r2, r3⟩
      · right; exact ⟨s', u', j', v6', n2, r1, r2, r3, r4, by omega, r6, r7, r8, r9⟩
