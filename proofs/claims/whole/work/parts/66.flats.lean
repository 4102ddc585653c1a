/-! ===== PART 66: a flat's share ===== -/
def rsF (W : Int → Int) (F b S : Int) : Nat → Int → Int → Int
  | 0, r, _ => r
  | n + 1, r, i => if F ≤ i then r else rsF W F b S n (r - (b * W i) / S) (i + 1)
def ctF (W : Int → Int) (p : Int) : Nat → Int → Int → Int
  | 0, c, _ => c
  | n + 1, c, i => if p ≤ i then c else ctF W p n (if W i ≤ 0 then c else c + 1) (i + 1)
theorem ctF_n (W : Int → Int) (p : Int) : ∀ (n k : Nat) (c i : Int), p - i < n → p - i < k → ctF W p n c i = ctF W p k c i := by
  intro n
  induction n with
  | zero =>
    intro k c i h1 h2
    match k with
    | 0 => rfl
    | k + 1 => rw [ctF, ctF, if_pos (by omega)]
  | succ n ih =>
    intro k c i h1 h2
    match k, h2 with
    | 0, h2 => rw [ctF, ctF, if_pos (by omega)]
    | k + 1, h2 =>
      rw [ctF, ctF]
      by_cases c0 : p ≤ i
      · rw [if_pos c0, if_pos c0]
      · rw [if_neg c0, if_neg c0]
        exact ih k _ _ (by omega) (by omega)
def finF (W : Int → Int) (p b S R C : Int) : Int := (b * W p) / S + (if W p ≤ 0 then 0 else (if R ≤ C then 0 else 1))
theorem fl_x61 {x u : fS} {p1 p5 F : Int} (h6 : F ≤ 6) (h5 : 0 ≤ p5 ∧ p5 < F) (hfl : ∀ i : Int, 0 ≤ i → (F_X3_hasFlat p1 i x = 0 ↔ F ≤ i)) (hw : ∀ i : Int, 0 ≤ i → i < F → F_X3_weightOf p1 i x = u.2 2 (6 * p1 + i)) (b S : Int) : ∀ (n : Nat) (r c i : Int), 0 ≤ i → i ≤ F → F - i < n → F_X3_shareOf_61 p1 p5 b S n r c i x = finF (fun i => u.2 2 (6 * p1 + i)) p5 b S (rsF (fun i => u.2 2 (6 * p1 + i)) F b S n r i) (ctF (fun i => u.2 2 (6 * p1 + i)) p5 n c i) := by
  intro n
  induction n with
  | zero => intro r c i h0 h1 h2; omega
  | succ n ih =>
    intro r c i h0 h1 h2
    rw [F_X3_shareOf_61, rsF, ctF, hw p5 h5.1 h5.2]
    by_cases c0 : F ≤ i
    · rw [if_pos ((hfl i h0).mpr c0), if_pos c0, if_pos (show p5 ≤ i by omega)]
      unfold finF
      dsimp only
      split
      · rfl
      · split <;> rfl
    · rw [if_neg (fun h9 => c0 ((hfl i h0).mp h9)), if_neg c0, if_neg (show ¬ 6 ≤ i by omega), hw i h0 (by omega)]
      by_cases c1 : p5 ≤ i
      · rw [if_pos c1, if_pos c1, ih _ _ _ (by omega) (by omega) (by omega)]
        match n, h2 with
        | 0, h2 => omega
        | n + 1, _ => rw [show ctF (fun i => u.2 2 (6 * p1 + i)) p5 (n + 1) c (i + 1) = c by rw [ctF, if_pos (by omega)]]
      · rw [if_neg c1, if_neg c1]
        by_cases c2 : u.2 2 (6 * p1 + i) ≤ 0
        · rw [if_pos c2, if_pos c2, ih _ _ _ (by omega) (by omega) (by omega)]
        · rw [if_neg c2, if_neg c2, ih _ _ _ (by omega) (by omega) (by omega)]
theorem fl_157 {u : fS} {p1 p5 : Int} (b S R : Int) : ∀ (n : Nat) (c i : Int), p5 - i < n → 0 ≤ i → i ≤ p5 → F_X9_flat_157 p1 p5 R ((b * u.2 2 (6 * p1 + p5)) / S) n c i u = (finF (fun i => u.2 2 (6 * p1 + i)) p5 b S R (ctF (fun i => u.2 2 (6 * p1 + i)) p5 n c i), u) := by
  intro n
  induction n with
  | zero => intro c i h0 h1 h2; omega
  | succ n ih =>
    intro c i h0 h1 h2
    rw [F_X9_flat_157, ctF]
    by_cases c0 : p5 ≤ i
    · rw [if_pos c0, if_pos c0]
      unfold finF
      dsimp only
      split
      · rw [Int.add_zero]
      · split
        · rw [Int.add_zero]
        · rfl
    · rw [if_neg c0, if_neg c0]
      by_cases c2 : u.2 2 (6 * p1 + i) ≤ 0
      · rw [if_pos c2, if_pos c2, ih _ _ (by omega) (by omega) (by omega)]
      · rw [if_neg c2, if_neg c2, ih _ _ (by omega) (by omega) (by omega)]
theorem fl_89 {u : fS} {p1 p5 F : Int} (hF : u.2 1 p1 = F) (b S : Int) : ∀ (n : Nat) (r i : Int), F - i < n → F_X9_flat_89 p1 p5 b S n r i u = F_X9_flat_157 p1 p5 (rsF (fun i => u.2 2 (6 * p1 + i)) F b S n r i) ((b * u.2 2 (6 * p1 + p5)) / S) (Int.toNat (p5 - (0 : Int)) + 1) 0 0 u ∨ F < i := by
  intro n
  induction n with
  | zero => intro r i h0; right; omega
  | succ n ih =>
    intro r i h0
    rw [F_X9_flat_89, rsF, hF]
    by_cases c0 : F ≤ i
    · rw [if_pos c0, if_pos c0]; exact Or.inl rfl
    · rw [if_neg c0, if_neg c0]
      rcases ih (r - (b * u.2 2 (6 * p1 + i)) / S) (i + 1) (by omega) with h | h
      · exact Or.inl h
      · omega
theorem fl_6 {x u : fS} {p1 p5 F : Int} (hF : u.2 1 p1 = F) (h6 : F ≤ 6) (h5 : 0 ≤ p5 ∧ p5 < F) (hfl : ∀ i : Int, 0 ≤ i → (F_X3_hasFlat p1 i x = 0 ↔ F ≤ i)) (hw : ∀ i : Int, 0 ≤ i → i < F → F_X3_weightOf p1 i x = u.2 2 (6 * p1 + i)) (hw0 : ∀ i : Int, 0 ≤ i → i < F → 0 ≤ u.2 2 (6 * p1 + i)) (b : Int) (hb : 0 ≤ b) : ∀ (n : Nat) (s i : Int), 0 ≤ i → i ≤ F → F - i < n → 0 ≤ s → F_X9_flat_29 p1 p5 b n s i u = (F_X3_shareOf_6 p1 p5 b n s i x, u) := by
  intro n
  induction n with
  | zero => intro s i h0 h1 h2; omega
  | succ n ih =>
    intro s i h0 h1 h2 hs
    rw [F_X9_flat_29, F_X3_shareOf_6, hF]
    by_cases c0 : F ≤ i
    · rw [if_pos c0, if_pos ((hfl i h0).mpr c0), if_neg (show ¬ b < 0 by omega)]
      by_cases c1 : s = 0
      · rw [if_pos c1, if_neg (show ¬ 0 < s by omega)]
      · rw [if_neg c1, if_pos (show 0 < s by omega)]
        rcases fl_89 (p5 := p5) hF b s (Int.toNat (6 - (0 : Int)) + 1) b 0 (by show F - 0 < 7; omega) with h | h
        · rw [h, fl_157 b s _ _ 0 0 (by omega) (by omega) h5.1, fl_x61 h6 h5 hfl hw b s _ b 0 0 (by omega) (by omega) (by show F - 0 < 7; omega), ctF_n _ p5 (Int.toNat (6 - (0 : Int)) + 1) (Int.toNat (p5 - (0 : Int)) + 1) 0 0 (by show p5 - 0 < 7; omega) (by omega)]
        · omega
    · rw [if_neg c0, if_neg (fun h9 => c0 ((hfl i h0).mp h9)), if_neg (show ¬ 6 ≤ i by omega), hw i h0 (by omega)]
      have := hw0 i h0 (by omega)
      exact ih _ _ (by omega) (by omega) (by omega) (by omega)
theorem q_flat {x m : fS} (h : Rel x m) (hx : xOk x) (hm : mOk m) (p1 p2 p3 p5 : Int) : QQ (F_X8_flat p1 p2 p3 p5 x, x) (F_X9_flat p1 p2 p3 p5 m) := by
  obtain ⟨b1, b2, b3, b4⟩ := q_billp h hx hm p1 p2 p3
  have hr := h.keepM b2
  unfold F_X8_flat F_X9_flat
  rw [q_hasFlat h hx]
  by_cases c : F_X9_isFlat p1 p5 m = 0
  · rw [if_pos c, if_pos c]; exact ⟨rfl, h⟩
  rw [if_neg c, if_neg c, ← b1]
  have bf := isFlat_b hm c
  have e0 : x.1 0 = m.1 0 := h.1.1
  have hFm : (F_X9_bill p1 p2 p3 m).2.2 1 p1 = m.2 1 p1 := by rw [b2.2 1 (by omega)]
  have kF : m.2 1 p1 ≤ 6 := (hm.2 1 p1).2
  have k4 : m.1 0 ≤ 4 := (hm.1 0).2
  have hw2 : (F_X9_bill p1 p2 p3 m).2.2 2 = m.2 2 := b2.2 2 (by omega)
  generalize (F_X9_bill p1 p2 p3 m).2 = u at *
  have hfl : ∀ i : Int, 0 ≤ i → (F_X3_hasFlat p1 i x = 0 ↔ m.2 1 p1 ≤ i) := by
    intro i hi
    rw [q_hasFlat h hx]
    unfold F_X9_isFlat F_X9_isHouse
    rw [if_neg (show ¬ p1 < 0 by omega), if_neg (show ¬ m.1 0 ≤ p1 by omega), if_neg (show ¬ (1 : Int) = 0 by decide), if_neg (show ¬ i < 0 by omega)]
    constructor
    · intro h9
      by_cases c9 : m.2 1 p1 ≤ i
      · exact c9
      · rw [if_neg c9] at h9; exact absurd h9 (by decide)
    · intro h9; rw [if_pos h9]
  have hw : ∀ i : Int, 0 ≤ i → i < m.2 1 p1 → F_X3_weightOf p1 i x = u.2 2 (6 * p1 + i) := by
    intro i h0 h1
    unfold F_X3_weightOf
    rw [hw2, show p1 * 6 + i = 6 * p1 + i by omega]
    exact h.1.2.2.1.get 24 (by omega) (by omega) (by omega)
  have hw0 : ∀ i : Int, 0 ≤ i → i < m.2 1 p1 → 0 ≤ u.2 2 (6 * p1 + i) := by
    intro i h0 h1
    rw [hw2]
    exact (hm.2 2 _).1
  by_cases c1 : F_X8_billOf p1 p2 p3 x = -9223372036854775808
  · rw [if_pos c1, c1]
    have g : ∀ (n : Nat) (s i : Int), 0 ≤ i → i ≤ m.2 1 p1 → m.2 1 p1 - i < n → F_X9_flat_29 p1 p5 (-9223372036854775808) n s i u = (-9223372036854775808, u) := by
      intro n
      induction n with
      | zero => intro s i h0 h1 h2; omega
      | succ n ih =>
        intro s i h0 h1 h2
        rw [F_X9_flat_29, hFm]
        by_cases c0 : m.2 1 p1 ≤ i
        · rw [if_pos c0, if_pos (by decide)]
        · rw [if_neg c0]; exact ih _ _ (by omega) (by omega) (by omega)
    rw [g _ 0 0 (by omega) (by omega) (by show m.2 1 p1 - 0 < 7; omega)]
    exact ⟨rfl, hr⟩
  · rw [if_neg c1]
    unfold F_X3_shareOf
    rw [fl_6 hFm kF ⟨bf.2.1, bf.2.2.1⟩ hfl hw hw0 _ (by omega) _ 0 0 (by omega) (by omega) (by show m.2 1 p1 - 0 < 7; omega) (by omega)]
    exact ⟨rfl, hr⟩
