/-! ===== PART 63: bills and issues ===== -/
/-- what a line asks of the reference's state -/
def mKq (m u : fS) : Prop := (u.1 3 = m.1 3 ∧ u.1 14 = m.1 14 ∧ u.1 25 = m.1 25) ∧ ∀ r, r < 30 → u.2 r = m.2 r
theorem mKq.tr {a b c : fS} (h : mKq a b) (g : mKq b c) : mKq a c := ⟨⟨g.1.1.trans h.1.1, g.1.2.1.trans h.1.2.1, g.1.2.2.trans h.1.2.2⟩, fun r hr => (g.2 r hr).trans (h.2 r hr)⟩
theorem kq_rel {m u : fS} (h : mKq m u) (p : Int) : ∀ (n : Nat) (v : Int), F_X9_isRelieved_2 p n v u = F_X9_isRelieved_2 p n v m := by
  intro n
  induction n with
  | zero => intro v; rfl
  | succ n ih =>
    intro v
    rw [F_X9_isRelieved_2, F_X9_isRelieved_2, ih, h.1.2.2, h.2 26 (by decide), h.2 27 (by decide), h.2 28 (by decide), h.2 29 (by decide), h.2 4 (by decide), h.2 5 (by decide), h.2 6 (by decide)]
theorem kq_rel0 {m u : fS} (h : mKq m u) (p : Int) : F_X9_isRelieved p u = F_X9_isRelieved p m := by
  unfold F_X9_isRelieved
  rw [kq_rel h, h.1.2.2]
theorem kq_ed {m u : fS} (h : mKq m u) (p k : Int) : ∀ (n : Nat) (v w : Int), F_X9_editionOf_6 p k n v w u = F_X9_editionOf_6 p k n v w m := by
  intro n
  induction n with
  | zero => intro v w; rfl
  | succ n ih =>
    intro v w
    rw [F_X9_editionOf_6, F_X9_editionOf_6, ih, ih, h.1.2.1, h.2 15 (by decide), h.2 16 (by decide), h.2 6 (by decide)]
theorem kq_ed0 {m u : fS} (h : mKq m u) (p k : Int) : F_X9_editionOf p k u = F_X9_editionOf p k m := by
  unfold F_X9_editionOf
  rw [kq_ed h, h.1.2.1]
theorem kq_fee {m u : fS} (h : mKq m u) (p k : Int) : ∀ (n : Nat) (v3 v5 v6 v7 : Int), F_X9_feeOf_16 p k n v3 v5 v6 v7 u = F_X9_feeOf_16 p k n v3 v5 v6 v7 m := by
  intro n
  induction n with
  | zero => intro v3 v5 v6 v7; rfl
  | succ n ih =>
    intro v3 v5 v6 v7
    rw [F_X9_feeOf_16, F_X9_feeOf_16, h.2 21 (by decide), h.2 20 (by decide), h.2 18 (by decide), h.2 22 (by decide), h.2 23 (by decide), ih, ih]
theorem kq_fee0 {m u : fS} (h : mKq m u) (p k : Int) : F_X9_feeOf p k u = F_X9_feeOf p k m := by
  unfold F_X9_feeOf
  rw [kq_fee h, h.2 21 (by decide), h.2 19 (by decide)]
theorem kq_ME {m u : fS} (h : mKq m u) (i k : Int) : ME i k u = ME i k m := by
  unfold ME
  rw [kq_rel0 h, kq_ed0 h]
theorem kq_ML {m u : fS} (h : mKq m u) (i k : Int) : ML i k u = ML i k m := by
  unfold ML
  rw [kq_rel0 h, kq_ed0 h, h.2 5 (by decide), h.2 17 (by decide), h.2 18 (by decide)]
theorem kq_MC {m u : fS} (h : mKq m u) (i k : Int) : MC i k u = MC i k m := by
  unfold MC
  rw [kq_rel0 h, kq_ed0 h, kq_fee0 h, h.2 5 (by decide), h.2 7 (by decide), h.2 17 (by decide), h.2 18 (by decide)]
abbrev selM (v1 v2 v3 i : Int) (m : fS) : Prop := m.2 4 i = v1 ∧ m.2 6 i / 30 = v2 ∧ m.2 8 i ≤ v3
def mApp (i e l c : Int) (st : fS) : fS := sN (sR (sR (sR (sR st 32 (f_up (st.2 32) (st.1 31) i)) 34 (f_up (st.2 34) (st.1 31) e)) 35 (f_up (st.2 35) (st.1 31) l)) 33 (f_up (st.2 33) (st.1 31) c)) 31 (st.1 31 + 1)
theorem findLines_step (v1 v2 v3 : Int) (n : Nat) (v5 : Int) (st : fS) : F_X9_findLines_8 v1 v2 v3 (n + 1) v5 st = if st.1 3 ≤ v5 then st else (if selM v1 v2 v3 v5 st then F_X9_findLines_8 v1 v2 v3 n (v5 + 1) (mApp v5 (ME v5 v3 st) (ML v5 v3 st) (MC v5 v3 st) st) else F_X9_findLines_8 v1 v2 v3 n (v5 + 1) st) := by
  rw [F_X9_findLines_8]
  by_cases c0 : st.1 3 ≤ v5
  · rw [if_pos c0, if_pos c0]
  rw [if_neg c0, if_neg c0]
  by_cases c1 : st.2 4 v5 = v1
  case neg => rw [if_neg c1, if_neg (fun h => c1 h.1)]
  by_cases c2 : st.2 6 v5 / 30 = v2
  case neg => rw [if_pos c1, if_neg c2, if_neg (fun h => c2 h.2.1)]
  by_cases c3 : st.2 8 v5 ≤ v3
  case neg => rw [if_pos c1, if_pos c2, if_neg c3, if_neg (fun h => c3 h.2.2)]
  rw [if_pos c1, if_pos c2, if_pos c3, if_pos (show selM v1 v2 v3 v5 st from ⟨c1, c2, c3⟩)]
  unfold ME ML MC
  by_cases c4 : F_X9_isRelieved v5 st = 0
  case neg => rw [if_neg c4, if_neg c4, if_neg c4, if_neg c4]; rfl
  rw [if_pos c4, if_pos c4, if_pos c4, if_pos c4]
  by_cases c5 : 0 ≤ F_X9_editionOf v5 v3 st
  case neg =>
    have : F_X9_editionOf v5 v3 st = F_X9_editionOf v5 v3 st := rfl
    rw [if_neg c5, if_neg c5, if_neg c5]; rfl
  rw [if_pos c5, if_pos c5, if_pos c5]
  by_cases c6 : st.2 17 (6 * F_X9_editionOf v5 v3 st + st.2 5 v5) = 0
  · rw [if_pos c6, if_pos c6, if_pos c6]; rfl
  rw [if_neg c6, if_neg c6, if_neg c6]
  by_cases c7 : st.2 18 (6 * F_X9_editionOf v5 v3 st + st.2 5 v5) = 0
  · rw [if_pos c7, if_pos c7, if_pos c7]; rfl
  rw [if_neg c7, if_neg c7, if_neg c7]
  rw [kq_fee0 (m := st) (u := sR (sR (sR st 32 (f_up (st.2 32) (st.1 31) v5)) 34 (f_up (st.2 34) (st.1 31) (F_X9_editionOf v5 v3 st))) 35 (f_up (st.2 35) (st.1 31) 0)) ⟨⟨rfl, rfl, rfl⟩, fun r hr => by rw [sR_2n _ _ (show r ≠ 35 by omega), sR_2n _ _ (show r ≠ 34 by omega), sR_2n _ _ (show r ≠ 32 by omega)]⟩]
  rfl
def lns (v1 v2 v3 : Int) (m : fS) : Nat → Int → List Int
  | 0, _ => []
  | n + 1, i => if m.1 3 ≤ i then [] else (if selM v1 v2 v3 i m then i :: lns v1 v2 v3 m n (i + 1) else lns v1 v2 v3 m n (i + 1))
theorem lns_b (v1 v2 v3 : Int) (m : fS) : ∀ (n : Nat) (i : Int), 0 ≤ i → ∀ j ∈ lns v1 v2 v3 m n i, i ≤ j ∧ j < m.1 3 := by
  intro n
  induction n with
  | zero => intro i h j hj; rw [lns] at hj; cases hj
  | succ n ih =>
    intro i h j hj
    rw [lns] at hj
    by_cases c : m.1 3 ≤ i
    · rw [if_pos c] at hj; cases hj
    rw [if_neg c] at hj
    by_cases c1 : selM v1 v2 v3 i m
    · rw [if_pos c1] at hj
      rcases List.mem_cons.mp hj with e | e
      · subst e; omega
      · have := ih (i + 1) (by omega) j e; omega
    · rw [if_neg c1] at hj
      have := ih (i + 1) (by omega) j hj; omega
theorem lns_len (v1 v2 v3 : Int) (m : fS) : ∀ (n : Nat) (i : Int), i ≤ m.1 3 → ((lns v1 v2 v3 m n i).length : Int) ≤ m.1 3 - i := by
  intro n
  induction n with
  | zero => intro i h; rw [lns]; show (0 : Int) ≤ _; omega
  | succ n ih =>
    intro i h
    rw [lns]
    by_cases c : m.1 3 ≤ i
    · rw [if_pos c]; show (0 : Int) ≤ _; omega
    rw [if_neg c]
    have := ih (i + 1) (by omega)
    by_cases c1 : selM v1 v2 v3 i m
    · rw [if_pos c1, List.length_cons]; omega
    · rw [if_neg c1]; omega
/-- the reference's rows of lines from p on are these -/
def LAt (k : Int) (m w : fS) : Int → List Int → Prop
  | p, [] => w.1 31 = p
  | p, i :: t => w.2 32 p = i ∧ w.2 34 p = ME i k m ∧ w.2 35 p = ML i k m ∧ w.2 33 p = MC i k m ∧ LAt k m w (p + 1) t
theorem LAt.len {k : Int} {m w : fS} : ∀ {ls : List Int} {p : Int}, LAt k m w p ls → w.1 31 = p + ls.length := by
  intro ls
  induction ls with
  | nil => intro p h; rw [LAt] at h; rw [h]; show p = p + 0; omega
  | cons i t ih =>
    intro p h
    rw [LAt] at h
    rw [ih h.2.2.2.2, List.length_cons]
    omega
def mKl (m u : fS) : Prop := (∀ k, k ≠ 31 → u.1 k = m.1 k) ∧ ∀ r, r < 32 ∨ 35 < r → u.2 r = m.2 r
theorem mKl.q {m u : fS} (h : mKl m u) : mKq m u := ⟨⟨h.1 3 (by decide), h.1 14 (by decide), h.1 25 (by decide)⟩, fun r hr => h.2 r (Or.inl (by omega))⟩
theorem mKl_app {m u : fS} (h : mKl m u) (i e l c : Int) : mKl m (mApp i e l c u) := by
  unfold mApp
  refine ⟨fun k hk => ?_, fun r hr => ?_⟩
  · rw [sN_1n _ _ hk]; exact h.1 k hk
  · rw [sN_2, sR_2n _ _ (by omega), sR_2n _ _ (by omega), sR_2n _ _ (by omega), sR_2n _ _ (by omega)]; exact h.2 r hr
theorem findLines_at (v1 v2 v3 : Int) (m : fS) : ∀ (n : Nat) (v5 : Int) (st : fS), mKl m st → m.1 3 - v5 < n → mKl m (F_X9_findLines_8 v1 v2 v3 n v5 st) ∧ (∀ j : Int, j < st.1 31 → (F_X9_findLines_8 v1 v2 v3 n v5 st).2 32 j = st.2 32 j ∧ (F_X9_findLines_8 v1 v2 v3 n v5 st).2 33 j = st.2 33 j ∧ (F_X9_findLines_8 v1 v2 v3 n v5 st).2 34 j = st.2 34 j ∧ (F_X9_findLines_8 v1 v2 v3 n v5 st).2 35 j = st.2 35 j) ∧ LAt v3 m (F_X9_findLines_8 v1 v2 v3 n v5 st) (st.1 31) (lns v1 v2 v3 m n v5) := by
  intro n
  induction n with
  | zero => intro v5 st hk h; exact ⟨hk, fun j hj => ⟨rfl, rfl, rfl, rfl⟩, rfl⟩
  | succ n ih =>
    intro v5 st hk h
    have e3 : st.1 3 = m.1 3 := hk.1 3 (by decide)
    have hsel : selM v1 v2 v3 v5 st ↔ selM v1 v2 v3 v5 m := by
      unfold selM
      rw [hk.2 4 (by omega), hk.2 6 (by omega), hk.2 8 (by omega)]
    rw [findLines_step, lns]
    by_cases c0 : m.1 3 ≤ v5
    · rw [if_pos (show st.1 3 ≤ v5 by omega), if_pos c0]
      exact ⟨hk, fun j hj => ⟨rfl, rfl, rfl, rfl⟩, rfl⟩
    rw [if_neg (show ¬ st.1 3 ≤ v5 by omega), if_neg c0]
    by_cases c1 : selM v1 v2 v3 v5 m
    · rw [if_pos (hsel.mpr c1), if_pos c1, kq_ME hk.q, kq_ML hk.q, kq_MC hk.q]
      have b := ih (v5 + 1) (mApp v5 (ME v5 v3 m) (ML v5 v3 m) (MC v5 v3 m) st) (mKl_app hk _ _ _ _) (by omega)
      have e31 : (mApp v5 (ME v5 v3 m) (ML v5 v3 m) (MC v5 v3 m) st).1 31 = st.1 31 + 1 := rfl
      refine ⟨b.1, fun j hj => ?_, ?_⟩
      · have bj := b.2.1 j (by omega)
        rw [bj.1, bj.2.1, bj.2.2.1, bj.2.2.2]
        exact ⟨f_up_n _ _ (by omega), f_up_n _ _ (by omega), f_up_n _ _ (by omega), f_up_n _ _ (by omega)⟩
      · have bj := b.2.1 (st.1 31) (by omega)
        rw [LAt, bj.1, bj.2.1, bj.2.2.1, bj.2.2.2]
        exact ⟨f_up_s _ _ _, f_up_s _ _ _, f_up_s _ _ _, f_up_s _ _ _, b.2.2⟩
    · rw [if_neg (fun h9 => c1 (hsel.mp h9)), if_neg c1]
      exact ih (v5 + 1) st hk (by omega)
def sumL (k cap : Int) (m : fS) : List Int → Int → Int
  | [], v => if cap = -1 then v else (if v ≤ cap then v else cap)
  | i :: t, v => if MC i k m = -1 then -9223372036854775808 else sumL k cap m t (v + MC i k m)
theorem q_isOf {x m : fS} (h : Rel x m) (hm : mOk m) {i : Int} (h0 : 0 ≤ i) (h1 : i < m.1 3) (v1 v2 v3 : Int) : F_X1_isOf i v1 v2 v3 x = 0 ↔ ¬ selM v1 v2 v3 i m := by
  obtain ⟨f1, f2, f3, f4, f5⟩ := q_factat h hm h0 h1
  unfold F_X1_isOf
  rw [show rget 24 (x.2 3) i = m.2 4 i from f1, show rget 24 (x.2 5) i = m.2 6 i from f3, f5]
  constructor
  · intro h9 h8
    rw [if_pos h8.1, if_pos h8.2.1, if_neg (by omega)] at h9
    exact absurd h9 (by decide)
  · intro h9
    by_cases c1 : m.2 4 i = v1
    · rw [if_pos c1]
      by_cases c2 : m.2 6 i / 30 = v2
      · rw [if_pos c2]
        by_cases c3 : v3 < m.2 8 i
        · rw [if_pos c3]
        · exact absurd ⟨c1, c2, by omega⟩ h9
      · rw [if_neg c2]
    · rw [if_neg c1]
theorem q_bill20 {x m : fS} (h : Rel x m) (hx : xOk x) (hm : mOk m) (v1 v2 v3 : Int) (h2 : 0 ≤ v2 ∧ v2 < 120) : ∀ (n : Nat) (v5 v7 : Int), 0 ≤ v7 → m.1 3 - v7 < n → v7 ≤ m.1 3 → F_X8_billOf_20 v1 v2 v3 n v5 v7 x = sumL v3 (m.2 24 v2) m (lns v1 v2 v3 m n v7) v5 := by
  have e1 : x.1 1 = m.1 3 := h.2.2.1.1
  have ec : rget 120 (x.2 23) v2 = m.2 24 v2 := h.2.2.2.2.2.2.1.get 120 (by omega) h2.1 h2.2
  intro n
  induction n with
  | zero => intro v5 v7 h7 hn h8; omega
  | succ n ih =>
    intro v5 v7 h7 hn h8
    rw [F_X8_billOf_20, lns, show F_X1_count x = m.1 3 from e1, ec]
    by_cases c0 : m.1 3 ≤ v7
    · rw [if_pos c0, if_pos c0, sumL]
    rw [if_neg c0, if_neg c0]
    have hs := q_isOf h hm h7 (by omega) v1 v2 v3
    have hv := q_vals h hx hm (k := v3) h7 (show v7 < m.1 3 by omega)
    by_cases c1 : selM v1 v2 v3 v7 m
    · rw [if_neg (fun h9 => hs.mp h9 c1), if_pos c1, sumL, hv.1, hv.2.1, ih _ _ (by omega) (by omega) (by omega)]
    · rw [if_pos (hs.mpr c1), if_neg c1]
      exact ih _ _ (by omega) (by omega) (by omega)
theorem q_bill27 {x m w : fS} (h : Rel x m) (hx : xOk x) (hm : mOk m) (v1 v2 v3 : Int) (hw : w.2 24 = m.2 24) : ∀ (ls : List Int) (n : Nat) (v5 v7 : Int), (∀ i ∈ ls, 0 ≤ i ∧ i < m.1 3) → LAt v3 m w v7 ls → ls.length < n → F_X9_bill_27 v1 v2 n v5 v7 w = (sumL v3 (m.2 24 v2) m ls v5, w) := by
  have hcr : -1 ≤ m.2 24 v2 := (hm.2 24 v2).1
  intro ls
  induction ls with
  | nil =>
    intro n v5 v7 hb hl hn
    match n, hn with
    | n + 1, _ =>
      rw [LAt] at hl
      rw [F_X9_bill_27, if_pos (show w.1 31 ≤ v7 by omega), hw, sumL]
      by_cases c : m.2 24 v2 = -1
      · rw [if_pos c, if_pos (show m.2 24 v2 < 0 by omega)]
      · rw [if_neg c, if_neg (show ¬ m.2 24 v2 < 0 by omega)]
        split <;> rfl
  | cons i t ih =>
    intro n v5 v7 hb hl hn
    match n, hn with
    | n + 1, hn =>
      have hlen := hl.len
      rw [List.length_cons] at hlen hn
      rw [LAt] at hl
      have bi := hb i (List.mem_cons_self)
      have hv := q_vals h hx hm (k := v3) bi.1 bi.2
      rw [F_X9_bill_27, if_neg (show ¬ w.1 31 ≤ v7 by omega), hl.2.2.1, hl.2.2.2.1, sumL]
      rcases hv.2.2.2 with ⟨a, b, _⟩ | ⟨a, b⟩
      · rw [if_pos a, if_neg (show ¬ MC i v3 m = -1 by omega)]
        exact ih n _ _ (fun j hj => hb j (List.mem_cons_of_mem _ hj)) hl.2.2.2.2 (by omega)
      · rw [if_neg (show ¬ ML i v3 m ≤ 0 by omega), if_pos b]
theorem sumL_b {x m : fS} (h : Rel x m) (hx : xOk x) (hm : mOk m) (k v2 : Int) : ∀ (ls : List Int) (v : Int), (∀ i ∈ ls, 0 ≤ i ∧ i < m.1 3) → 0 ≤ v → sumL k (m.2 24 v2) m ls v = -9223372036854775808 ∨ 0 ≤ sumL k (m.2 24 v2) m ls v := by
  have hcr : -1 ≤ m.2 24 v2 := (hm.2 24 v2).1
  intro ls
  induction ls with
  | nil =>
    intro v hb hv
    rw [sumL]
    right
    split
    · exact hv
    · split <;> omega
  | cons i t ih =>
    intro v hb hv
    rw [sumL]
    have bi := hb i (List.mem_cons_self)
    have hq := q_vals h hx hm (k := k) bi.1 bi.2
    by_cases c : MC i k m = -1
    · rw [if_pos c]; exact Or.inl rfl
    · rw [if_neg c]
      exact ih _ (fun j hj => hb j (List.mem_cons_of_mem _ hj)) (by omega)
theorem Rel.keepM {x m u : fS} (h : Rel x m) (k : mKl m u) : Rel x u := by
  obtain ⟨hH, hI, hF, hT, hE, hR, hC, hL, hP, hxs, hms, hB⟩ := h
  refine ⟨?_, ?_, ?_, ?_, ?_, ?_, ?_, ?_, ?_, hxs, mSteps_keep hms (k.1 14 (by decide)) (k.2 17 (by omega)) (k.2 18 (by omega)) (k.2 19 (by omega)) (k.2 21 (by omega)) (k.2 22 (by omega)), hB⟩
  · rw [k.1 0 (by decide), k.2 1 (by omega), k.2 2 (by omega)]; exact hH
  · rw [k.2 30 (by omega)]; exact hI
  · rw [k.1 3 (by decide), k.2 4 (by omega), k.2 5 (by omega), k.2 6 (by omega), k.2 7 (by omega), k.2 8 (by omega)]; exact hF
  · rw [k.1 9 (by decide), k.2 10 (by omega)]; exact hT
  · rw [k.1 14 (by decide), k.2 15 (by omega), k.2 16 (by omega), k.2 17 (by omega), k.2 18 (by omega), k.2 19 (by omega), k.2 20 (by omega), k.2 21 (by omega), k.2 22 (by omega), k.2 23 (by omega)]; exact hE
  · rw [k.1 25 (by decide), k.2 26 (by omega), k.2 27 (by omega), k.2 28 (by omega), k.2 29 (by omega)]; exact hR
  · rw [k.2 24 (by omega)]; exact hC
  · rw [k.1 36 (by decide), k.2 37 (by omega), k.2 38 (by omega), k.2 39 (by omega), k.2 40 (by omega)]; exact hL
  · rw [k.1 41 (by decide), k.2 42 (by omega)]; exact hP
theorem q_asked {x m : fS} (h : Rel x m) (p1 p2 p3 : Int) : F_X8_isAskable p1 p2 p3 x = F_X9_isAsked p1 p2 p3 m := by
  unfold F_X8_isAskable F_X9_isAsked
  rw [q_has h]
  rfl
theorem asked_b {m : fS} {p1 p2 p3 : Int} (h : ¬ F_X9_isAsked p1 p2 p3 m = 0) : (0 ≤ p1 ∧ p1 < m.1 0) ∧ 0 ≤ p2 ∧ p2 < 120 := by
  unfold F_X9_isAsked at h
  by_cases c : F_X9_isHouse p1 m = 0
  · rw [if_pos c] at h; exact absurd rfl h
  rw [if_neg c] at h
  by_cases c2 : F_X9_isMonth p2 m = 0
  · rw [if_pos c2] at h; exact absurd rfl h
  have b := isHouse_b c
  have b2 := isMonth_b c2
  exact ⟨b, b2⟩
theorem q_findLines {m : fS} (hm : mOk m) (p1 p2 p3 : Int) : mKl m (F_X9_findLines p1 p2 p3 m) ∧ LAt p3 m (F_X9_findLines p1 p2 p3 m) 0 (lns p1 p2 p3 m (Int.toNat (m.1 3 - 0) + 1) 0) := by
  have k0 : 0 ≤ m.1 3 := (hm.1 3).1
  have hk : mKl m (sN m 31 0) := ⟨fun k hk => sN_1n _ _ hk, fun r hr => rfl⟩
  have b := findLines_at p1 p2 p3 m (Int.toNat (m.1 3 - 0) + 1) 0 (sN m 31 0) hk (by omega)
  exact ⟨b.1, b.2.2⟩
theorem q_billp {x m : fS} (h : Rel x m) (hx : xOk x) (hm : mOk m) (p1 p2 p3 : Int) : F_X8_billOf p1 p2 p3 x = (F_X9_bill p1 p2 p3 m).1 ∧ mKl m (F_X9_bill p1 p2 p3 m).2 ∧ (F_X8_billOf p1 p2 p3 x = -9223372036854775808 ∨ 0 ≤ F_X8_billOf p1 p2 p3 x) ∧ (F_X8_billOf p1 p2 p3 x ≠ -9223372036854775808 → (0 ≤ p1 ∧ p1 < m.1 0) ∧ 0 ≤ p2 ∧ p2 < 120) := by
  have k0 : 0 ≤ m.1 3 := (hm.1 3).1
  have k1 : m.1 3 ≤ 24 := (hm.1 3).2
  unfold F_X8_billOf F_X9_bill
  rw [q_asked h]
  by_cases c : F_X9_isAsked p1 p2 p3 m = 0
  · rw [if_pos c, if_pos c]
    exact ⟨rfl, ⟨fun _ _ => rfl, fun _ _ => rfl⟩, Or.inl rfl, fun h9 => absurd rfl h9⟩
  rw [if_neg c, if_neg c]
  have b := asked_b c
  have hf := q_findLines hm p1 p2 p3
  have hl : ∀ i ∈ lns p1 p2 p3 m (Int.toNat (m.1 3 - 0) + 1) 0, 0 ≤ i ∧ i < m.1 3 := lns_b p1 p2 p3 m _ 0 (by omega)
  have hn := lns_len p1 p2 p3 m (Int.toNat (m.1 3 - 0) + 1) 0 (by omega)
  rw [show x.1 1 = m.1 3 from h.2.2.1.1, q_bill20 h hx hm p1 p2 p3 b.2 _ 0 0 (by omega) (by omega) (by omega), q_bill27 h hx hm p1 p2 p3 (hf.1.2 24 (by omega)) _ (Int.toNat (24 - (0 : Int)) + 1) 0 0 hl hf.2 (by omega)]
  exact ⟨rfl, hf.1, sumL_b h hx hm p3 p2 _ 0 hl (by omega), fun _ => b⟩
theorem q_bill {x m : fS} (h : Rel x m) (hx : xOk x) (hm : mOk m) (p1 p2 p3 : Int) : QQ (F_X8_bill p1 p2 p3 x, x) (F_X9_bill p1 p2 p3 m) := by
  have b := q_billp h hx hm p1 p2 p3
  exact ⟨b.1, h.keepM b.2.1⟩
theorem q_issue {x m : fS} (h : Rel x m) (hx : xOk x) (hm : mOk m) (p1 p2 p3 : Int) : QQ (F_X8_issue p1 p2 p3 x) (F_X9_issue p1 p2 p3 m) := by
  have k1 : m.1 0 ≤ 4 := (hm.1 0).2
  obtain ⟨b1, b2, b3, b4⟩ := q_billp h hx hm p1 p2 p3
  unfold F_X8_issue F_X9_issue F_X3_issuedOf
  rw [← b1]
  by_cases c : F_X8_billOf p1 p2 p3 x = -9223372036854775808
  · rw [if_pos c, if_neg (show ¬ 0 ≤ F_X8_billOf p1 p2 p3 x by omega)]
    exact ⟨c.symm, h.keepM b2⟩
  rw [if_neg c, if_pos (show 0 ≤ F_X8_billOf p1 p2 p3 x by omega)]
  have bb := b4 c
  obtain ⟨hH, hI, hF, hT, hE, hR, hC, hL, hP, hxs, hms, hB⟩ := h.keepM b2
  rw [show p1 * 120 + p2 = 120 * p1 + p2 by omega, hI.get 480 (by omega) (by omega) (by omega)]
  exact ⟨rfl, hH, hI.set (N := 480) (by omega) (by omega) _, hF, hT, hE, hR, hC, hL, hP, hxs, hms, hB⟩
