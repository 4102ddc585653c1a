/-! ===== PART 72: all rules ===== -/
theorem nRul_b (is : Int → Int) (e : Int) : ∀ (n : Nat) (k : Int), 0 ≤ nRul is e n k ∧ nRul is e n k ≤ n := by
  intro n
  induction n with
  | zero => intro k; rw [nRul]; exact ⟨Int.le_refl _, Int.le_refl _⟩
  | succ n ih =>
    intro k
    have := ih (k + 1)
    rw [nRul]
    split <;> omega
theorem nRul_out (is : Int → Int) (e k0 : Int) : ∀ (n : Nat) (k : Int), k0 < k → nRul (f_up is (6 * e + k0) 1) e n k = nRul is e n k := by
  intro n
  induction n with
  | zero => intro k h; rfl
  | succ n ih =>
    intro k h
    rw [nRul, nRul, ih (k + 1) (by omega), f_up_n _ _ (by omega)]
theorem nRul_up (is : Int → Int) (e k0 : Int) (h0 : is (6 * e + k0) = 0) : ∀ (n : Nat) (k : Int), k ≤ k0 → k0 < k + n → nRul (f_up is (6 * e + k0) 1) e n k = nRul is e n k + 1 := by
  intro n
  induction n with
  | zero => intro k h1 h2; omega
  | succ n ih =>
    intro k h1 h2
    rw [nRul, nRul]
    by_cases c : k = k0
    · subst c
      rw [f_up_s, if_neg (show ¬ (1 : Int) = 0 by decide), if_pos h0, nRul_out is e k n (k + 1) (by omega)]
      omega
    · rw [f_up_n _ _ (by omega), ih (k + 1) (by omega) (by omega)]
      omega
theorem nRul_eq {f g : Int → Int} {e : Int} : ∀ (n : Nat) (k : Int), (∀ i, k ≤ i → i < k + n → f (6 * e + i) = g (6 * e + i)) → nRul f e n k = nRul g e n k := by
  intro n
  induction n with
  | zero => intro k h; rfl
  | succ n ih =>
    intro k h
    rw [nRul, nRul, ih (k + 1) (fun i i0 i1 => h i (by omega) (by omega)), h k (by omega) (by omega)]
theorem nRul_0 {f : Int → Int} {e : Int} : ∀ (n : Nat) (k : Int), (∀ i, k ≤ i → i < k + n → f (6 * e + i) = 0) → nRul f e n k = 0 := by
  intro n
  induction n with
  | zero => intro k h; rfl
  | succ n ih =>
    intro k h
    rw [nRul, ih (k + 1) (fun i i0 i1 => h i (by omega) (by omega)), if_pos (h k (by omega) (by omega))]
    rfl
theorem rules_lock {T b e : Int → Int} {N L ed : Int} {x m : fS} (hE : ENV T b e N L ed x m) : ∀ (n' n : Nat) (r j : Int) (s u : fS), LKS b e N L x m s u j → DD ed s u → (j < N → 9 * s.1 7 ≤ b j) → s.1 7 ≤ 66 → r = nRul (u.2 17) ed 6 0 → N - j < n → 7 - r < n' →
    (∃ (s' u' : fS) (j' : Int), F_X6_readRules_16 n' r s = (-1 - j', s') ∧ F_X9_rules_35 (6 * ed) n r j u = (-1 - j', u') ∧ LKS b e N L x m s' u' j') ∨
    (∃ (s' u' : fS) (r' : Int), F_X6_readRules_16 n' r s = (r', s') ∧ F_X9_rules_35 (6 * ed) n r j u = (r', u') ∧ LKS b e N L x m s' u' N ∧ DD ed s' u' ∧ r' = nRul (u'.2 17) ed 6 0 ∧ s'.1 7 ≤ 66) := by
  intro n'
  induction n' with
  | zero =>
    intro n r j s u hS hD hPB h66 hr hn hn'
    have := nRul_b (u.2 17) ed 6 0
    omega
  | succ n' ih =>
    intro n r j s u hS hD hPB h66 hr hn hn'
    have hrb := nRul_b (u.2 17) ed 6 0
    have jN := hS.2.2.2.1
    obtain ⟨p1, p2, p3⟩ := hS.2.2.2.2
    match n, hn with
    | 0, hn => omega
    | n + 1, hn =>
      rw [F_X6_readRules_16, if_neg (show ¬ 6 < r by omega)]
      by_cases c : j < N
      · have hb := wf_b hE.1 hS.2.2.1 c
        rw [if_pos c] at p2 p3
        have hh : F_X7_hasWord s = 1 := by unfold F_X7_hasWord; rw [if_neg (by omega)]
        rw [hh, if_neg (show ¬ (1 : Int) = 0 by decide)]
        rcases rule_lock hE n r j s u hS c hD (hPB c) h66 with ⟨s', u', j', t1, t2, t3⟩ | ⟨s', u', j', k, t1, t2, t3, t4, t5, t6, t7, t8, t9, t10⟩
        · left
          refine ⟨s', u', j', ?_, t3, t2⟩
          rw [t1, if_pos rfl]
          show (-1 - s'.1 5, s') = _
          rw [t2.2.2.2.2.1]
        · rw [t1, if_neg (show ¬ (1 : Int) = 0 by decide), t10]
          exact ih n (r + 1) j' s' u' t2 t3 t5 t6 (by rw [t9, nRul_up _ _ _ t8 6 0 t7.1 (by omega), hr]) (by omega) (by omega)
      · right
        rw [if_neg c] at p2 p3
        have hh : F_X7_hasWord s = 0 := by unfold F_X7_hasWord; rw [if_pos (by omega)]
        have ej : j = N := by omega
        subst ej
        refine ⟨s, u, r, ?_, ?_, hS, hD, hr, h66⟩
        · rw [hh, if_pos rfl]
        · rw [F_X9_rules_35, (hS.wm hE).1, if_pos (Int.le_refl _)]
theorem draft_x {x : fS} {ed : Int} (h6 : x.1 6 = ed) (hed : 0 ≤ ed ∧ ed < 6) : ∀ (n : Nat) (v : Int) (s : fS), XF x s → s.1 7 = 0 → 0 ≤ v → v ≤ 6 → 6 - v < n → (∀ c, 6 * ed ≤ c → c < 6 * ed + v → s.2 12 c = -1) → XF x (F_X0_startDraft_7 n v s) ∧ (F_X0_startDraft_7 n v s).1 7 = 0 ∧ ∀ c, 6 * ed ≤ c → c < 6 * ed + 6 → (F_X0_startDraft_7 n v s).2 12 c = -1 := by
  intro n
  induction n with
  | zero => intro v s h h7 h0 h1 h2 h3; omega
  | succ n ih =>
    intro v s h h7 h0 h1 h2 h3
    rw [F_X0_startDraft_7]
    by_cases c : 6 ≤ v
    · rw [if_pos c]
      exact ⟨h, h7, fun d d0 d1 => h3 d d0 (by omega)⟩
    rw [if_neg c]
    have hs6 : s.1 6 = ed := (h.1 6 (by decide) (by decide) (by decide) (by decide)).trans h6
    have hc : F_X0_cellOf (s.1 6) v s = 6 * ed + v := by unfold F_X0_cellOf; omega
    rw [hc]
    have e12 : (rset s 12 (6 * ed + v) (-1)).2 12 = f_up (s.2 12) (6 * ed + v) (-1) := (sR_2s _ _ _).trans (rput_in (n := 36) (-1) ⟨by omega, by omega⟩)
    refine ih (v + 1) _ (h.c (by decide) (by decide) (by omega)) h7 (by omega) (by omega) (by omega) (fun d d0 d1 => ?_)
    rw [e12]
    by_cases cd : d = 6 * ed + v
    · subst cd; exact f_up_s _ _ _
    · rw [f_up_n _ _ cd]; exact h3 d d0 (by omega)
theorem draft_m {m : fS} {ed N : Int} (h14 : m.1 14 = ed) (hN : m.1 11 = N) : ∀ (n : Nat) (v : Int) (u : fS), MF m u → 0 ≤ v → v ≤ 6 → 6 - v < n → (∀ c, 6 * ed ≤ c → c < 6 * ed + v → u.2 17 c = 0) → ∃ u' : fS, F_X9_rules_10 (6 * ed) n v u = F_X9_rules_35 (6 * ed) (Int.toNat (N - 0) + 1) 0 0 u' ∧ MF m u' ∧ ∀ c, 6 * ed ≤ c → c < 6 * ed + 6 → u'.2 17 c = 0 := by
  intro n
  induction n with
  | zero => intro v u h h0 h1 h2 h3; omega
  | succ n ih =>
    intro v u h h0 h1 h2 h3
    rw [F_X9_rules_10]
    by_cases c : 6 ≤ v
    · rw [if_pos c, h.1, hN]
      exact ⟨u, rfl, h, fun d d0 d1 => h3 d d0 (by omega)⟩
    rw [if_neg c]
    refine ih (v + 1) _ (h.c (by decide) (by decide) (by omega)) (by omega) (by omega) (by omega) (fun d d0 d1 => ?_)
    by_cases cd : d = 6 * ed + v
    · subst cd; exact f_up_s _ _ _
    · exact (f_up_n _ _ cd).trans (h3 d d0 (by omega))
theorem wf_j {T b e : Int → Int} {N L : Int} (hw : WF T b e N L) : ∀ n : Nat, (n : Int) < N → (n : Int) ≤ b n := by
  intro n
  induction n with
  | zero => intro h; have := wf_b hw (show (0 : Int) ≤ 0 by decide) h; exact this.1
  | succ n ih =>
    intro h
    have i1 := ih (by omega)
    have b1 := wf_b hw (show (0 : Int) ≤ n by omega) (by omega)
    have w1 := wf_n hw (show (0 : Int) ≤ n by omega) (show (n : Int) + 1 < N by omega)
    rw [show ((n + 1 : Nat) : Int) = n + 1 by omega]
    omega
theorem wf_N {T b e : Int → Int} {N L : Int} (hw : WF T b e N L) (hL : 0 ≤ L) : N ≤ L := by
  by_cases c : N ≤ 0
  · omega
  · have h1 := wf_j hw (N - 1).toNat (by omega)
    have h2 := wf_b hw (j := N - 1) (by omega) (by omega)
    rw [show ((N - 1).toNat : Int) = N - 1 by omega] at h1
    omega
