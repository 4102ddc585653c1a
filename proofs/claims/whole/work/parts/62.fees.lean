/-! ===== PART 62: fees, reliefs, editions ===== -/
theorem q_relieve {x m : fS} (h : Rel x m) (hm : mOk m) {p : Int} (h0 : 0 ≤ p) (h1 : p < m.1 3) : ∀ (n : Nat) (v5 : Int), 0 ≤ v5 → F_X4_relieve_3 (m.2 4 p) (m.2 5 p) (m.2 6 p) n v5 x = F_X9_isRelieved_2 p n v5 m := by
  have k1 : m.1 25 ≤ 8 := (hm.1 25).2
  obtain ⟨e1, ha, hb, hc, hd⟩ := h.2.2.2.2.2.1
  intro n
  induction n with
  | zero => intro v5 h5; rfl
  | succ n ih =>
    intro v5 h5
    rw [F_X4_relieve_3, F_X9_isRelieved_2, ih (v5 + 1) (by omega), e1]
    by_cases c : m.1 25 ≤ v5
    · rw [if_pos c, if_pos c]
    · rw [if_neg c, if_neg c, ha.get 8 (by omega) h5 (by omega), hb.get 8 (by omega) h5 (by omega), hc.get 8 (by omega) h5 (by omega), hd.get 8 (by omega) h5 (by omega)]
theorem q_factat {x m : fS} (h : Rel x m) (hm : mOk m) {p : Int} (h0 : 0 ≤ p) (h1 : p < m.1 3) : F_X1_houseOf p x = m.2 4 p ∧ F_X1_kindOf p x = m.2 5 p ∧ F_X1_dayOf p x = m.2 6 p ∧ F_X1_measureOf p x = m.2 7 p ∧ rget 24 (x.2 7) p = m.2 8 p := by
  have k1 : m.1 3 ≤ 24 := (hm.1 3).2
  obtain ⟨e1, ha, hb, hc, hd, he⟩ := h.2.2.1
  exact ⟨ha.get 24 (by omega) h0 (by omega), hb.get 24 (by omega) h0 (by omega), hc.get 24 (by omega) h0 (by omega), hd.get 24 (by omega) h0 (by omega), he.get 24 (by omega) h0 (by omega)⟩
theorem q_isRelieved {x m : fS} (h : Rel x m) (hm : mOk m) {p : Int} (h0 : 0 ≤ p) (h1 : p < m.1 3) : F_X8_isRelieved p x = F_X9_isRelieved p m := by
  unfold F_X8_isRelieved F_X4_relieve F_X9_isRelieved
  obtain ⟨f1, f2, f3, f4, f5⟩ := q_factat h hm h0 h1
  rw [f1, f2, f3, h.2.2.2.2.2.1.1]
  exact q_relieve h hm h0 h1 _ 0 (by omega)
theorem q_latest6 {x m : fS} (h : Rel x m) (hm : mOk m) (p k : Int) : ∀ (n : Nat) (v5 v6 : Int), (-1 ≤ v5 ∧ v5 < m.1 14) → 0 ≤ v6 → v6 ≤ m.1 14 ∧ m.1 14 - v6 < n → F_X0_latest_6 (m.2 6 p) k n v5 v6 x = F_X9_editionOf_6 p k n v5 v6 m ∧ -1 ≤ F_X9_editionOf_6 p k n v5 v6 m ∧ F_X9_editionOf_6 p k n v5 v6 m < m.1 14 := by
  have k1 : m.1 14 ≤ 6 := (hm.1 14).2
  obtain ⟨e1, ha, hb, hc, hd⟩ := h.2.2.2.2.1
  intro n
  induction n with
  | zero => intro v5 v6 h5 h6 h7; omega
  | succ n ih =>
    intro v5 v6 h5 h6 h7
    rw [F_X0_latest_6, F_X9_editionOf_6, e1]
    by_cases c : m.1 14 ≤ v6
    · rw [if_pos c, if_pos c]; exact ⟨rfl, h5.1, h5.2⟩
    have b1 := ih v5 (v6 + 1) h5 (by omega) (by omega)
    have b2 := ih v6 (v6 + 1) (by omega) (by omega) (by omega)
    rw [if_neg c, if_neg c, ha.get 6 (by omega) h6 (by omega), hb.get 6 (by omega) h6 (by omega)]
    by_cases c1 : k < m.2 16 v6
    · rw [if_pos c1, if_pos c1]; exact b1
    rw [if_neg c1, if_neg c1]
    by_cases c2 : m.2 6 p < m.2 15 v6
    · rw [if_pos c2, if_neg (show ¬ m.2 15 v6 ≤ m.2 6 p by omega)]; exact b1
    rw [if_neg c2, if_pos (show m.2 15 v6 ≤ m.2 6 p by omega)]
    by_cases c3 : v5 = -1
    · rw [if_pos c3, if_pos (show v5 < 0 by omega)]; exact b2
    rw [if_neg c3, if_neg (show ¬ v5 < 0 by omega), ha.get 6 (by omega) (show 0 ≤ v5 by omega) (by omega)]
    by_cases c4 : m.2 15 v6 < m.2 15 v5
    · rw [if_pos c4, if_pos c4]; exact b1
    rw [if_neg c4, if_neg c4]; exact b2
theorem q_latest {x m : fS} (h : Rel x m) (hm : mOk m) (p k : Int) : F_X0_latest (m.2 6 p) k x = F_X9_editionOf p k m ∧ -1 ≤ F_X9_editionOf p k m ∧ F_X9_editionOf p k m < m.1 14 := by
  have k0 : 0 ≤ m.1 14 := (hm.1 14).1
  unfold F_X0_latest F_X9_editionOf
  rw [h.2.2.2.2.1.1]
  exact q_latest6 h hm p k _ (-1) 0 ⟨by omega, by omega⟩ (by omega) ⟨by omega, by omega⟩
def fin9 (c t : Int) (m : fS) : Int := if m.2 20 c < 0 then t / m.2 18 c else (if t / m.2 18 c ≤ m.2 20 c then t / m.2 18 c else m.2 20 c)
theorem q_price39 {x m : fS} (c fst cnt v2 : Int) (hf : 0 ≤ fst) (hfc : fst + cnt ≤ 396) (hc66 : cnt ≤ 66) (hcnt : m.2 21 c = cnt) (hss : ∀ i : Int, 0 ≤ i → i < cnt → x.2 17 (fst + i) = m.2 22 (100 * c + i) ∧ x.2 18 (fst + i) = m.2 23 (100 * c + i)) (hst : ∀ i : Int, 0 ≤ i → i < cnt → 0 < m.2 22 (100 * c + i) ∧ (0 < i → m.2 22 (100 * c + i - 1) < m.2 22 (100 * c + i))) (v1 : Int) :
    ∀ (n nx : Nat) (v3 v5 v6 v7 : Int), 0 ≤ v7 → v7 ≤ cnt → cnt - v7 < n → 66 - v7 < nx → v5 ≤ v2 → ((v7 = 0 ∧ v5 = 0) ∨ (0 < v7 ∧ v5 = m.2 22 (100 * c + v7 - 1))) → F_X9_feeOf_16 c v2 n v3 v5 v6 v7 m = fin9 c (F_X0_priceOf_39 v1 v2 fst cnt nx v3 v5 v6 v7 x) m := by
  intro n
  have stop : ∀ (n : Nat) (v3 v5 v6 v7 : Int), v2 ≤ v5 → F_X9_feeOf_16 c v2 (n + 1) v3 v5 v6 v7 m = fin9 c (v3 + (v2 - v5) * v6) m := by
    intro n v3 v5 v6 v7 h
    rw [F_X9_feeOf_16, if_pos h]
    unfold fin9
    split <;> rfl
  induction n with
  | zero => intro nx v3 v5 v6 v7 h7 h8 h9; omega
  | succ n ih =>
    intro nx v3 v5 v6 v7 h7 h8 h9 h10 h5 hv
    match nx, h10 with
    | 0, h10 => omega
    | nx + 1, h10 =>
      rw [F_X0_priceOf_39]
      by_cases c1 : cnt ≤ v7
      · rw [F_X9_feeOf_16, if_pos (show m.2 21 c ≤ v7 by omega)]
        have : (if 66 ≤ v7 then v3 + ((v2 - v5) * v6) else (if cnt ≤ v7 then v3 + ((v2 - v5) * v6) else (if (rget 396 (x.2 17) (fst + v7)) < v2 then F_X0_priceOf_39 v1 v2 fst cnt nx (v3 + (((rget 396 (x.2 17) (fst + v7)) - v5) * v6)) (rget 396 (x.2 17) (fst + v7)) (rget 396 (x.2 18) (fst + v7)) (v7 + 1) x else v3 + ((v2 - v5) * v6)))) = v3 + ((v2 - v5) * v6) := by
          split
          · rfl
          · first
            | rfl
            | rw [if_pos c1]
        rw [this]
        rfl
      · have hg := hss v7 h7 (by omega)
        have hst7 := hst v7 h7 (by omega)
        have r1 : rget 396 (x.2 17) (fst + v7) = m.2 22 (100 * c + v7) := (rget_in ⟨by omega, by omega⟩).trans hg.1
        have r2 : rget 396 (x.2 18) (fst + v7) = m.2 23 (100 * c + v7) := (rget_in ⟨by omega, by omega⟩).trans hg.2
        have hlt : v5 < m.2 22 (100 * c + v7) := by
          rcases hv with ⟨a, b⟩ | ⟨a, b⟩
          · have := hst7.1; omega
          · have := hst7.2 a; omega
        rw [if_neg (show ¬ 66 ≤ v7 by omega), if_neg c1, r1, r2]
        by_cases c2 : m.2 22 (100 * c + v7) < v2
        · rw [if_pos c2, F_X9_feeOf_16, if_neg (show ¬ m.2 21 c ≤ v7 by omega), if_neg (show ¬ v2 ≤ v5 by omega), if_neg (show ¬ v2 ≤ m.2 22 (100 * c + v7) by omega)]
          exact ih nx _ _ _ _ (by omega) (by omega) (by omega) (by omega) (by omega) (Or.inr ⟨by omega, by rw [show 100 * c + (v7 + 1) - 1 = 100 * c + v7 by omega]⟩)
        · rw [if_neg c2]
          by_cases c3 : v2 ≤ v5
          · exact stop n v3 v5 v6 v7 c3
          rw [F_X9_feeOf_16, if_neg (show ¬ m.2 21 c ≤ v7 by omega), if_neg c3, if_pos (show v2 ≤ m.2 22 (100 * c + v7) by omega)]
          match n, h9 with
          | 0, h9 => omega
          | n + 1, _ =>
            rw [stop n _ v2 _ _ (Int.le_refl _), show v2 - v2 = 0 by omega, Int.zero_mul, Int.add_zero]
/-- the reference's line for a fact: edition, lack, cents -/
def ME (i k : Int) (m : fS) : Int := if F_X9_isRelieved i m = 0 then F_X9_editionOf i k m else -1
def ML (i k : Int) (m : fS) : Int := if F_X9_isRelieved i m = 0 then (if 0 ≤ F_X9_editionOf i k m then (if m.2 17 (6 * F_X9_editionOf i k m + m.2 5 i) = 0 then 1 else (if m.2 18 (6 * F_X9_editionOf i k m + m.2 5 i) = 0 then 2 else 0)) else 1) else 0
def MC (i k : Int) (m : fS) : Int := if F_X9_isRelieved i m = 0 then (if 0 ≤ F_X9_editionOf i k m then (if m.2 17 (6 * F_X9_editionOf i k m + m.2 5 i) = 0 then -1 else (if m.2 18 (6 * F_X9_editionOf i k m + m.2 5 i) = 0 then -1 else F_X9_feeOf (6 * F_X9_editionOf i k m + m.2 5 i) (m.2 7 i) m)) else -1) else 0
theorem q_fee {x m : fS} (h : Rel x m) (hx : xOk x) (hm : mOk m) {e k v : Int} (he : 0 ≤ e ∧ e < m.1 14) (hk : 0 ≤ k ∧ k ≤ 5) (hv : 0 ≤ v ∧ v ≤ 1000000) :
    (m.2 17 (6 * e + k) = 0 → F_X0_feeOf e k v x = -1 ∧ F_X0_hasRule e k x = 0) ∧ (¬ m.2 17 (6 * e + k) = 0 → F_X0_hasRule e k x = 1 ∧ (m.2 18 (6 * e + k) = 0 → F_X0_feeOf e k v x = -1) ∧ (¬ m.2 18 (6 * e + k) = 0 → F_X0_feeOf e k v x = F_X9_feeOf (6 * e + k) v m ∧ 0 ≤ F_X0_feeOf e k v x ∧ F_X0_feeOf e k v x ≤ 999999000000)) := by
  have k1 : m.1 14 ≤ 6 := (hm.1 14).2
  obtain ⟨e1, ha, hb, hc, hd⟩ := h.2.2.2.2.1
  have hrule := hd (6 * e + k) (by omega) (by omega)
  have hhas : F_X0_has e x = 1 := by
    unfold F_X0_has
    rw [if_neg (by omega), if_neg (by omega)]
  have hper : rget 36 (x.2 12) (F_X0_cellOf e k x) = x.2 12 (6 * e + k) := by
    unfold F_X0_cellOf
    rw [show e * 6 + k = 6 * e + k by omega]
    exact rget_in ⟨by omega, by omega⟩
  have hr : F_X0_hasRule e k x = if x.2 12 (6 * e + k) = -1 then 0 else 1 := by
    unfold F_X0_hasRule
    rw [hhas, if_neg (by decide), hper]
  rcases hrule with ⟨a1, a2⟩ | ⟨a1, a2, a3, a4, a5, a6, a7⟩
  · refine ⟨fun _ => ?_, fun h9 => absurd a1 h9⟩
    have : F_X0_hasRule e k x = 0 := by rw [hr, if_pos a2]
    refine ⟨?_, this⟩
    unfold F_X0_feeOf
    rw [if_pos this]
  · have hr1 : F_X0_hasRule e k x = 1 := by rw [hr, if_neg (by omega)]
    refine ⟨fun h9 => by omega, fun _ => ⟨hr1, fun h9 => ?_, fun h9 => ?_⟩⟩
    · unfold F_X0_feeOf
      rw [if_neg (by omega), hper, if_neg (by omega)]
    have hxs := h.2.2.2.2.2.2.2.2.2.1
    have hms := h.2.2.2.2.2.2.2.2.2.2.1
    have hpb := xprice_b hx hxs (e := e) (k := k) (v := v) (by omega) hk hv
    obtain ⟨⟨s1, s2, s3, s4⟩, s5⟩ := hxs (6 * e + k) (by omega) (by omega) (by omega)
    obtain ⟨_, t2⟩ := hms (6 * e + k) (by omega) (by omega) (by omega)
    have hcell : F_X0_cellOf e k x = 6 * e + k := by unfold F_X0_cellOf; omega
    have hpr : fin9 (6 * e + k) (F_X0_priceOf (F_X0_cellOf e k x) v x) m = F_X9_feeOf (6 * e + k) v m := by
      unfold F_X0_priceOf F_X9_feeOf
      rw [hcell, rget_in (f := x.2 15) ⟨by omega, by omega⟩, rget_in (f := x.2 16) ⟨by omega, by omega⟩, rget_in (f := x.2 13) ⟨by omega, by omega⟩, a4]
      refine (q_price39 (6 * e + k) _ _ v s3 s4 s2 a6.symm (fun i h0 h1 => a7 i h0 (by omega)) (fun i h0 h1 => t2 i h0 (by omega)) (6 * e + k) _ _ 0 0 _ 0 (by omega) s1 (by omega) (by omega) hv.1 (Or.inl ⟨rfl, rfl⟩)).symm
    have hcap : rget 36 (x.2 14) (F_X0_cellOf e k x) = m.2 20 (6 * e + k) := by rw [hcell]; exact (rget_in ⟨by omega, by omega⟩).trans a5
    have hcr : -1 ≤ m.2 20 (6 * e + k) ∧ m.2 20 (6 * e + k) ≤ 999999 := hm.2 20 (6 * e + k)
    have hfee : F_X0_feeOf e k v x = fin9 (6 * e + k) (F_X0_priceOf (F_X0_cellOf e k x) v x) m := by
      unfold F_X0_feeOf fin9
      rw [if_neg (by omega), hper, if_pos (by omega), hcap, a2]
      by_cases c1 : m.2 20 (6 * e + k) = -1
      · rw [if_pos c1, if_pos (show m.2 20 (6 * e + k) < 0 by omega)]
      · rw [if_neg c1, if_neg (show ¬ m.2 20 (6 * e + k) < 0 by omega)]
    refine ⟨hfee.trans hpr, ?_⟩
    rw [hfee]
    have hd0 : 0 ≤ F_X0_priceOf (F_X0_cellOf e k x) v x / m.2 18 (6 * e + k) := Int.ediv_nonneg hpb.1 a3
    have hd1 : F_X0_priceOf (F_X0_cellOf e k x) v x / m.2 18 (6 * e + k) ≤ F_X0_priceOf (F_X0_cellOf e k x) v x := Int.ediv_le_self _ hpb.1
    unfold fin9
    split
    · omega
    · split <;> omega
theorem q_vals {x m : fS} (h : Rel x m) (hx : xOk x) (hm : mOk m) {i k : Int} (h0 : 0 ≤ i) (h1 : i < m.1 3) : F_X8_editionOf i k x = ME i k m ∧ F_X8_centsOf i (ME i k m) x = MC i k m ∧ F_X8_lackOf i (ME i k m) (MC i k m) x = ML i k m ∧ ((ML i k m ≤ 0 ∧ 0 ≤ MC i k m ∧ MC i k m ≤ 999999000000) ∨ (0 < ML i k m ∧ MC i k m = -1)) := by
  obtain ⟨f1, f2, f3, f4, f5⟩ := q_factat h hm h0 h1
  have kk : 0 ≤ m.2 5 i ∧ m.2 5 i ≤ 5 := hm.2 5 i
  have kv : 0 ≤ m.2 7 i ∧ m.2 7 i ≤ 1000000 := hm.2 7 i
  have hl := q_latest h hm i k
  unfold F_X8_editionOf F_X8_centsOf F_X8_lackOf
  rw [q_isRelieved h hm h0 h1, f2, f3, f4, hl.1]
  by_cases c : F_X9_isRelieved i m = 0
  · rw [if_pos c, if_pos c]
    by_cases c1 : 0 ≤ F_X9_editionOf i k m
    · have hf := q_fee h hx hm (e := F_X9_editionOf i k m) (k := m.2 5 i) (v := m.2 7 i) ⟨c1, hl.2.2⟩ kk kv
      by_cases c2 : m.2 17 (6 * F_X9_editionOf i k m + m.2 5 i) = 0
      · have g := hf.1 c2
        have e1 : ME i k m = F_X9_editionOf i k m := by rw [ME, if_pos c]
        have e2 : MC i k m = -1 := by rw [MC, if_pos c, if_pos c1, if_pos c2]
        have e3 : ML i k m = 1 := by rw [ML, if_pos c, if_pos c1, if_pos c2]
        rw [e1, e2, e3, if_pos rfl, if_pos g.2]
        exact ⟨rfl, g.1, rfl, Or.inr ⟨by omega, rfl⟩⟩
      · have g := hf.2 c2
        have e1 : ME i k m = F_X9_editionOf i k m := by rw [ME, if_pos c]
        by_cases c3 : m.2 18 (6 * F_X9_editionOf i k m + m.2 5 i) = 0
        · have e2 : MC i k m = -1 := by rw [MC, if_pos c, if_pos c1, if_neg c2, if_pos c3]
          have e3 : ML i k m = 2 := by rw [ML, if_pos c, if_pos c1, if_neg c2, if_pos c3]
          rw [e1, e2, e3, if_pos rfl, if_neg (by omega)]
          exact ⟨rfl, g.2.1 c3, rfl, Or.inr ⟨by omega, rfl⟩⟩
        · have g3 := g.2.2 c3
          have e2 : MC i k m = F_X9_feeOf (6 * F_X9_editionOf i k m + m.2 5 i) (m.2 7 i) m := by rw [MC, if_pos c, if_pos c1, if_neg c2, if_neg c3]
          have e3 : ML i k m = 0 := by rw [ML, if_pos c, if_pos c1, if_neg c2, if_neg c3]
          rw [e1, e2, e3, if_neg (by omega)]
          exact ⟨rfl, g3.1, rfl, Or.inl ⟨by omega, by omega, by omega⟩⟩
    · have e1 : ME i k m = F_X9_editionOf i k m := by rw [ME, if_pos c]
      have e2 : MC i k m = -1 := by rw [MC, if_pos c, if_neg c1]
      have e3 : ML i k m = 1 := by rw [ML, if_pos c, if_neg c1]
      have hh : F_X0_hasRule (F_X9_editionOf i k m) (m.2 5 i) x = 0 := by
        unfold F_X0_hasRule F_X0_has
        rw [if_pos (show F_X9_editionOf i k m < 0 by omega), if_pos rfl]
      have hf : F_X0_feeOf (F_X9_editionOf i k m) (m.2 5 i) (m.2 7 i) x = -1 := by unfold F_X0_feeOf; rw [if_pos hh]
      rw [e1, e2, e3, if_pos rfl, if_pos hh]
      exact ⟨rfl, hf, rfl, Or.inr ⟨by omega, rfl⟩⟩
  · have e1 : ME i k m = -1 := by rw [ME, if_neg c]
    have e2 : MC i k m = 0 := by rw [MC, if_neg c]
    have e3 : ML i k m = 0 := by rw [ML, if_neg c]
    rw [e1, e2, e3, if_neg c, if_neg c, if_neg (by decide)]
    exact ⟨rfl, rfl, rfl, Or.inl ⟨by omega, by omega, by omega⟩⟩
