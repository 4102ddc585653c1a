/-! ===== PART 64: what is printed, walks ===== -/
def PP (x u : fS) : Prop := 0 ≤ x.1 10 ∧ x.1 10 = u.1 41 ∧ Eqb (x.1 10) (x.2 28) (u.2 42)
theorem PP.sign {x u : fS} (h : PP x u) (v : Int) (hb : x.1 10 < 552) : PP (F_X2_printSign v x) (F_X9_put v u) ∧ (F_X2_printSign v x).1 10 = x.1 10 + 1 := by
  obtain ⟨h0, h1, h2⟩ := h
  refine ⟨⟨?_, ?_, ?_⟩, rfl⟩
  · show 0 ≤ x.1 10 + 1; omega
  · show x.1 10 + 1 = u.1 41 + 1; omega
  · show Eqb (x.1 10 + 1) (rput 552 (x.2 28) (x.1 10) v) (f_up (u.2 42) (u.1 41) v)
    rw [← h1]
    exact h2.put (N := 552) h0 hb v
theorem PP.ph2 (v1 : Int) : ∀ (d n n' : Nat) (v3 v5 : Int) (x u : fS), PP x u → 0 ≤ v3 → v3 < 10 ^ d → d < n → v3 < n' → v5 + d ≤ 18 → x.1 10 + d ≤ 552 → PP (F_X2_printNumber_37 v1 n v3 v5 x) (F_X9_putNumber_24 v1 n' v3 u) ∧ (F_X2_printNumber_37 v1 n v3 v5 x).1 10 ≤ x.1 10 + d := by
  intro d
  induction d with
  | zero =>
    intro n n' v3 v5 x u h h0 h1 h2 h3 h4 h5
    match n, n', h2, h3 with
    | n + 1, 0, _, h3 => exact absurd h3 (by show ¬ v3 < 0; omega)
    | n + 1, n' + 1, _, _ =>
      replace h1 : v3 < 1 := h1
      rw [F_X2_printNumber_37, F_X9_putNumber_24, if_pos (show v3 ≤ 0 by omega), if_pos (show v3 ≤ 0 by omega)]
      split
      · exact ⟨h, by omega⟩
      · exact ⟨h, by omega⟩
  | succ d ih =>
    intro n n' v3 v5 x u h h0 h1 h2 h3 h4 h5
    match n, n', h2, h3 with
    | 0, _, h2, _ => omega
    | n + 1, 0, _, h3 => exact absurd h3 (by show ¬ v3 < 0; omega)
    | n + 1, n' + 1, h2, h3 =>
      rw [F_X2_printNumber_37, F_X9_putNumber_24, if_neg (show ¬ 18 ≤ v5 by omega)]
      by_cases c : v3 ≤ 0
      · rw [if_pos c, if_pos c]
        exact ⟨h, by omega⟩
      rw [if_neg c, if_neg c]
      have hs := h.sign (Int.tmod (Int.tdiv v1 v3) 10 + 48) (by omega)
      have hp : (10 : Int) ^ (d + 1) = 10 ^ d * 10 := Int.pow_succ 10 d
      have b := ih n n' (v3 / 10) (v5 + 1) _ _ hs.1 (by omega) (by omega) (by omega) (by omega) (by omega) (by omega)
      exact ⟨b.1, by have := b.2; omega⟩
theorem pow10_pos (r : Nat) : (1 : Int) ≤ 10 ^ r := by
  induction r with
  | zero => decide
  | succ r ih => rw [Int.pow_succ]; omega
theorem PP.ph1 (v1 : Int) (hv : 0 ≤ v1) (d : Nat) (hd : d ≤ 18) : ∀ (r n n' : Nat) (v3 v5 : Int) (x u : fS), PP x u → 0 < v3 → v1 < v3 * 10 ^ (r + 1) → v3 * 10 ^ r < 10 ^ d → r < n → r < n' → v5 + r < 18 → x.1 10 + d ≤ 552 → PP (F_X2_printNumber_5 v1 n v3 v5 x) (F_X9_putNumber_2 v1 n' v3 u) ∧ (F_X2_printNumber_5 v1 n v3 v5 x).1 10 ≤ x.1 10 + d := by
  have ht : Int.tdiv v1 10 = v1 / 10 := Int.tdiv_eq_ediv_of_nonneg hv
  intro r
  induction r with
  | zero =>
    intro n n' v3 v5 x u h h0 h1 h2 h3 h4 h5 h6
    match n, n', h3, h4 with
    | 0, _, h3, _ => omega
    | n + 1, 0, _, h4 => omega
    | n + 1, n' + 1, h3, h4 =>
      replace h1 : v1 < v3 * 10 := h1
      replace h2 : v3 * 1 < 10 ^ d := h2
      rw [F_X2_printNumber_5, F_X9_putNumber_2, ht, if_neg (show ¬ 18 ≤ v5 by omega), if_pos (show v1 / 10 < v3 by omega), if_pos (show v1 / 10 < v3 by omega)]
      exact PP.ph2 v1 d _ _ v3 0 x u h (by omega) (by omega) (by show d < 19; omega) (by omega) (by omega) h6
  | succ r ih =>
    intro n n' v3 v5 x u h h0 h1 h2 h3 h4 h5 h6
    match n, n', h3, h4 with
    | 0, _, h3, _ => omega
    | n + 1, 0, _, h4 => omega
    | n + 1, n' + 1, h3, h4 =>
      rw [F_X2_printNumber_5, F_X9_putNumber_2, ht, if_neg (show ¬ 18 ≤ v5 by omega)]
      by_cases c : v1 / 10 < v3
      · rw [if_pos c, if_pos c]
        have h7 : v3 * 1 ≤ v3 * 10 ^ (r + 1) := Int.mul_le_mul_of_nonneg_left (pow10_pos (r + 1)) (by omega)
        exact PP.ph2 v1 d _ _ v3 0 x u h (by omega) (by omega) (by show d < 19; omega) (by omega) (by omega) h6
      · rw [if_neg c, if_neg c]
        have e1 : v3 * 10 * 10 ^ (r + 1) = v3 * 10 ^ (r + 1 + 1) := by rw [Int.pow_succ 10 (r + 1), Int.mul_assoc, Int.mul_comm 10 (10 ^ (r + 1))]
        have e2 : v3 * 10 * 10 ^ r = v3 * 10 ^ (r + 1) := by rw [Int.pow_succ 10 r, Int.mul_assoc, Int.mul_comm 10 (10 ^ r)]
        exact ih n n' (v3 * 10) (v5 + 1) x u h (by omega) (by rw [e1]; exact h1) (by rw [e2]; exact h2) (by omega) (by omega) (by omega) h6
theorem PP.num {x u : fS} (h : PP x u) {v : Int} (d : Nat) (hd : 0 < d ∧ d ≤ 12) (hv : 0 ≤ v) (hv2 : v < 10 ^ d) (hb : x.1 10 + d ≤ 552) : PP (F_X2_printNumber v x) (F_X9_putNumber v u) ∧ (F_X2_printNumber v x).1 10 ≤ x.1 10 + d := by
  unfold F_X2_printNumber F_X9_putNumber
  match d, hd with
  | d + 1, hd =>
    refine PP.ph1 v hv (d + 1) (by omega) d _ _ 1 1 x u h (by omega) (by rw [Int.one_mul]; exact hv2) ?_ (by show d < 18; omega) (by omega) (by omega) hb
    rw [Int.one_mul, Int.pow_succ]
    have := pow10_pos d
    omega
theorem keepPP {x x' u u' : fS} (h : PP x u) (h1 : x'.1 10 = x.1 10) (h2 : x'.2 28 = x.2 28) (h3 : u'.1 41 = u.1 41) (h4 : u'.2 42 = u.2 42) : PP x' u' := by
  unfold PP
  rw [h1, h2, h3, h4]
  exact h
/-- a line is printed -/
theorem PP.line {x u : fS} (h : PP x u) {a b c : Int} (ha : 0 ≤ a ∧ a ≤ 5) (hb : 0 ≤ b ∧ b ≤ 1000000) (hc : -1 ≤ c ∧ c ≤ 999999000000) (hn : x.1 10 + 23 ≤ 552) : PP (F_X2_print a b c x) (F_X9_put 10 (if c = -1 then F_X9_put 63 (F_X9_put 32 (F_X9_putNumber b (F_X9_put 32 (F_X9_putNumber a u)))) else F_X9_putNumber c (F_X9_put 32 (F_X9_putNumber b (F_X9_put 32 (F_X9_putNumber a u)))))) ∧ (F_X2_print a b c x).1 10 ≤ x.1 10 + 23 := by
  have s1 := h.num 1 (by decide) ha.1 (by show a < 10; omega) (by omega)
  have s2 := s1.1.sign 32 (by have := s1.2; omega)
  have s3 := s2.1.num 7 (by decide) hb.1 (by show b < 10000000; omega) (by have := s1.2; have := s2.2; omega)
  have s4 := s3.1.sign 32 (by have := s1.2; have := s2.2; have := s3.2; omega)
  have t1 := s1.2
  have t2 := s2.2
  have t3 := s3.2
  have t4 := s4.2
  unfold F_X2_print
  by_cases e : c = -1
  · rw [if_pos e, if_pos e]
    have s5 := s4.1.sign 63 (by omega)
    have t5 := s5.2
    have s6 := s5.1.sign 10 (by omega)
    have t6 := s6.2
    exact ⟨s6.1, by omega⟩
  · rw [if_neg e, if_neg e]
    have s5 := s4.1.num 12 (by decide) (v := c) (by omega) (by show c < 1000000000000; omega) (by omega)
    have t5 := s5.2
    have s6 := s5.1.sign 10 (by omega)
    have t6 := s6.2
    exact ⟨s6.1, by omega⟩
/-! what the class's answers about a fact do not look at -/
theorem kh_rel {x u : fS} (h : xKeepH x u) (a b c : Int) : ∀ (n : Nat) (v : Int), F_X4_relieve_3 a b c n v u = F_X4_relieve_3 a b c n v x := by
  intro n
  induction n with
  | zero => intro v; rfl
  | succ n ih =>
    intro v
    rw [F_X4_relieve_3, F_X4_relieve_3, ih, h.1 8 (by decide) (by decide), h.2 19 (by decide), h.2 20 (by decide), h.2 21 (by decide), h.2 22 (by decide)]
theorem kh_rel0 {x u : fS} (h : xKeepH x u) (i : Int) : F_X8_isRelieved i u = F_X8_isRelieved i x := by
  unfold F_X8_isRelieved F_X4_relieve F_X1_houseOf F_X1_kindOf F_X1_dayOf
  rw [kh_rel h, h.1 8 (by decide) (by decide), h.2 3 (by decide), h.2 4 (by decide), h.2 5 (by decide)]
theorem kh_lat {x u : fS} (h : xKeepH x u) (a b : Int) : ∀ (n : Nat) (v w : Int), F_X0_latest_6 a b n v w u = F_X0_latest_6 a b n v w x := by
  intro n
  induction n with
  | zero => intro v w; rfl
  | succ n ih =>
    intro v w
    rw [F_X0_latest_6, F_X0_latest_6, ih, ih, h.1 6 (by decide) (by decide), h.2 9 (by decide), h.2 10 (by decide)]
theorem kh_ed {x u : fS} (h : xKeepH x u) (i k : Int) : F_X8_editionOf i k u = F_X8_editionOf i k x := by
  unfold F_X8_editionOf F_X0_latest F_X1_dayOf
  rw [kh_rel0 h, kh_lat h, h.1 6 (by decide) (by decide), h.2 5 (by decide)]
theorem kh_price {x u : fS} (h : xKeepH x u) (a b c d : Int) : ∀ (n : Nat) (v4 v6 v8 v14 : Int), F_X0_priceOf_39 a b c d n v4 v6 v8 v14 u = F_X0_priceOf_39 a b c d n v4 v6 v8 v14 x := by
  intro n
  induction n with
  | zero => intro v4 v6 v8 v14; rfl
  | succ n ih =>
    intro v4 v6 v8 v14
    rw [F_X0_priceOf_39, F_X0_priceOf_39, ih, h.2 17 (by decide), h.2 18 (by decide)]
theorem kh_has {x u : fS} (h : xKeepH x u) (e k : Int) : F_X0_hasRule e k u = F_X0_hasRule e k x := by
  unfold F_X0_hasRule F_X0_has F_X0_cellOf
  rw [h.1 6 (by decide) (by decide), h.2 12 (by decide)]
theorem kh_fee {x u : fS} (h : xKeepH x u) (e k v : Int) : F_X0_feeOf e k v u = F_X0_feeOf e k v x := by
  unfold F_X0_feeOf F_X0_priceOf F_X0_cellOf
  rw [kh_has h, kh_price h, h.2 12 (by decide), h.2 13 (by decide), h.2 14 (by decide), h.2 15 (by decide), h.2 16 (by decide)]
theorem kh_cents {x u : fS} (h : xKeepH x u) (i e : Int) : F_X8_centsOf i e u = F_X8_centsOf i e x := by
  unfold F_X8_centsOf F_X1_kindOf F_X1_measureOf
  rw [kh_rel0 h, kh_fee h, h.2 4 (by decide), h.2 6 (by decide)]
theorem kh_lack {x u : fS} (h : xKeepH x u) (i e c : Int) : F_X8_lackOf i e c u = F_X8_lackOf i e c x := by
  unfold F_X8_lackOf F_X1_kindOf
  rw [kh_has h, h.2 4 (by decide)]
theorem kh_isOf {x u : fS} (h : xKeepH x u) (i a b c : Int) : F_X1_isOf i a b c u = F_X1_isOf i a b c x := by
  unfold F_X1_isOf
  rw [h.2 3 (by decide), h.2 5 (by decide), h.2 7 (by decide)]
def foldH (k : Int) : List Int → fS → fS
  | [], s => s
  | i :: t, s => foldH k t (F_X8_hold i k s)
theorem walk22 {x m : fS} (h : Rel x m) (hm : mOk m) (v1 v2 v3 : Int) : ∀ (n : Nat) (v5 : Int) (s : fS), xKeepH x s → 0 ≤ v5 → v5 ≤ m.1 3 → m.1 3 - v5 < n → F_X8_walk_22 v1 v2 v3 n v5 s = ((foldH v3 (lns v1 v2 v3 m n v5) s).1 9, foldH v3 (lns v1 v2 v3 m n v5) s) := by
  have e1 : x.1 1 = m.1 3 := h.2.2.1.1
  intro n
  induction n with
  | zero => intro v5 s hk h0 h1 h2; omega
  | succ n ih =>
    intro v5 s hk h0 h1 h2
    rw [F_X8_walk_22, lns, show F_X1_count s = m.1 3 from (hk.1 1 (by decide) (by decide)).trans e1, kh_isOf hk]
    by_cases c0 : m.1 3 ≤ v5
    · rw [if_pos c0, if_pos c0]; rfl
    rw [if_neg c0, if_neg c0]
    have hs := q_isOf h hm h0 (by omega) v1 v2 v3
    by_cases c1 : selM v1 v2 v3 v5 m
    · rw [if_neg (fun h9 => hs.mp h9 c1), if_pos c1, foldH]
      exact ih (v5 + 1) _ (hk.tr (keep_hold v5 v3 s)) (by omega) (by omega) (by omega)
    · rw [if_pos (hs.mpr c1), if_neg c1]
      exact ih (v5 + 1) s hk (by omega) (by omega) (by omega)
