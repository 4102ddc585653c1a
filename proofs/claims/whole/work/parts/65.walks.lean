/-! ===== PART 65: walks ===== -/
def mSt (p : Int) (st : fS) : fS := sR (sR (sR (sR st 37 (f_up (st.2 37) p (st.2 32 p))) 38 (f_up (st.2 38) p (st.2 33 p))) 39 (f_up (st.2 39) p (st.2 34 p))) 40 (f_up (st.2 40) p (st.2 35 p))
theorem mSt_2 (p : Int) (st : fS) {r : Nat} (h : r < 37 ∨ 40 < r) : (mSt p st).2 r = st.2 r := by
  unfold mSt
  rw [sR_2n _ _ (by omega), sR_2n _ _ (by omega), sR_2n _ _ (by omega), sR_2n _ _ (by omega)]
def mHead (p : Int) (st : fS) : fS := F_X9_put 32 (F_X9_putNumber (st.2 7 (st.2 32 p)) (F_X9_put 32 (F_X9_putNumber (st.2 5 (st.2 32 p)) (mSt p st))))
def mTail (p : Int) (st : fS) : fS := F_X9_put 10 (if st.2 33 p = -1 then F_X9_put 63 (mHead p st) else F_X9_putNumber (st.2 33 p) (mHead p st))
theorem mHead_k (p : Int) (st : fS) : mKeepP (mSt p st) (mHead p st) := (((mkeep_pn _ _).tr (mkeep_put _ _)).tr (mkeep_pn _ _)).tr (mkeep_put _ _)
theorem mTail_k (p : Int) (st : fS) : mKeepP (mSt p st) (mTail p st) := by
  unfold mTail
  by_cases c : st.2 33 p = -1
  · rw [if_pos c]
    exact ((mHead_k p st).tr (mkeep_put _ _)).tr (mkeep_put _ _)
  · rw [if_neg c]
    exact ((mHead_k p st).tr (mkeep_pn _ _)).tr (mkeep_put _ _)
theorem walk35_step (n : Nat) (p : Int) (st : fS) (hl : (st.2 35 p ≤ 0 ∧ ¬ st.2 33 p = -1) ∨ (0 < st.2 35 p ∧ st.2 33 p = -1)) : F_X9_walk_35 (n + 1) p st = if st.1 31 ≤ p then (st.1 36, st) else F_X9_walk_35 n (p + 1) (mTail p st) := by
  rw [F_X9_walk_35]
  by_cases c0 : st.1 31 ≤ p
  · rw [if_pos c0, if_pos c0]
  rw [if_neg c0, if_neg c0]
  have k1 : (F_X9_put 32 (F_X9_putNumber (st.2 5 (st.2 32 p)) (mSt p st))).2 7 = st.2 7 := (((mkeep_pn _ _).tr (mkeep_put _ _)).2 7 (by decide)).trans (mSt_2 p st (by omega))
  have k1' : (F_X9_put 32 (F_X9_putNumber (st.2 5 (st.2 32 p)) (sR (sR (sR (sR st 37 (f_up (st.2 37) p (st.2 32 p))) 38 (f_up (st.2 38) p (st.2 33 p))) 39 (f_up (st.2 39) p (st.2 34 p))) 40 (f_up (st.2 40) p (st.2 35 p))))).2 7 = st.2 7 := k1
  rw [k1']
  have k2 : (mHead p st).2 35 = st.2 35 := ((mHead_k p st).2 35 (by decide)).trans (mSt_2 p st (by omega))
  have k3 : (mHead p st).2 33 = st.2 33 := ((mHead_k p st).2 33 (by decide)).trans (mSt_2 p st (by omega))
  show (if (mHead p st).2 35 p ≤ 0 then F_X9_walk_35 n (p + 1) (F_X9_put 10 (F_X9_putNumber ((mHead p st).2 33 p) (mHead p st))) else F_X9_walk_35 n (p + 1) (F_X9_put 10 (F_X9_put 63 (mHead p st)))) = _
  rw [k2, k3]
  unfold mTail
  rcases hl with ⟨a, b⟩ | ⟨a, b⟩
  · rw [if_pos a, if_neg b]
  · rw [if_neg (show ¬ st.2 35 p ≤ 0 by omega), if_pos b]
def mKw (m u : fS) : Prop := (∀ k, k ≠ 31 → k ≠ 36 → k ≠ 41 → u.1 k = m.1 k) ∧ ∀ r, r < 32 → u.2 r = m.2 r
def LK (x m s u : fS) (p : Int) : Prop := xKeepH x s ∧ mKw m u ∧ 0 ≤ p ∧ s.1 9 = p ∧ (Eqb p (s.2 24) (u.2 37) ∧ Eqb p (s.2 25) (u.2 38) ∧ Eqb p (s.2 26) (u.2 39) ∧ Eqb p (s.2 27) (u.2 40)) ∧ PP s u ∧ s.1 10 ≤ 23 * p
theorem LAt.keep {k : Int} {m w u : fS} (h1 : u.1 31 = w.1 31) (h2 : u.2 32 = w.2 32) (h3 : u.2 33 = w.2 33) (h4 : u.2 34 = w.2 34) (h5 : u.2 35 = w.2 35) : ∀ {ls : List Int} {p : Int}, LAt k m w p ls → LAt k m u p ls := by
  intro ls
  induction ls with
  | nil => intro p h; rw [LAt] at h ⊢; rw [h1]; exact h
  | cons i t ih =>
    intro p h
    rw [LAt] at h ⊢
    rw [h2, h3, h4, h5]
    exact ⟨h.1, h.2.1, h.2.2.1, h.2.2.2.1, ih h.2.2.2.2⟩
theorem LK.step {x m s u : fS} (h : Rel x m) (hx : xOk x) (hm : mOk m) {k p i : Int} (hp : p < 24) (hi : 0 ≤ i ∧ i < m.1 3) (g : LK x m s u p) (l1 : u.2 32 p = i) (l2 : u.2 34 p = ME i k m) (l3 : u.2 35 p = ML i k m) (l4 : u.2 33 p = MC i k m) : LK x m (F_X8_hold i k s) (mTail p u) (p + 1) := by
  obtain ⟨g1, g2, g3, g4, ⟨ga, gb, gc, gd⟩, g5, g6⟩ := g
  have hv := q_vals h hx hm (k := k) hi.1 hi.2
  obtain ⟨f1, f2, f3, f4, f5⟩ := q_factat h hm hi.1 hi.2
  have kt := mTail_k p u
  have hh : F_X8_hold i k s = F_X2_print (m.2 5 i) (m.2 7 i) (MC i k m) (F_X2_add i (MC i k m) (ME i k m) (ML i k m) s) := by
    unfold F_X8_hold
    rw [kh_ed g1, hv.1, kh_cents g1, hv.2.1, kh_lack g1, hv.2.2.1]
    have ka : xKeepH x (F_X2_add i (MC i k m) (ME i k m) (ML i k m) s) := g1.tr (keep_hadd _ _ _ _ _)
    have e1 : F_X1_kindOf i (F_X2_add i (MC i k m) (ME i k m) (ML i k m) s) = m.2 5 i := by
      rw [← f2]; unfold F_X1_kindOf; rw [ka.2 4 (by decide)]
    have e2 : F_X1_measureOf i (F_X2_add i (MC i k m) (ME i k m) (ML i k m) s) = m.2 7 i := by
      rw [← f4]; unfold F_X1_measureOf; rw [ka.2 6 (by decide)]
    rw [e1, e2]
  have kp := keep_print (m.2 5 i) (m.2 7 i) (MC i k m) (F_X2_add i (MC i k m) (ME i k m) (ML i k m) s)
  have kk : 0 ≤ m.2 5 i ∧ m.2 5 i ≤ 5 := hm.2 5 i
  have kv : 0 ≤ m.2 7 i ∧ m.2 7 i ≤ 1000000 := hm.2 7 i
  have hpp : PP (F_X2_add i (MC i k m) (ME i k m) (ML i k m) s) (mSt p u) := keepPP g5 rfl rfl rfl (mSt_2 p u (by omega))
  have e10 : (F_X2_add i (MC i k m) (ME i k m) (ML i k m) s).1 10 = s.1 10 := rfl
  have hl := hpp.line kk kv (c := MC i k m) (by rcases hv.2.2.2 with ⟨_, b, c⟩ | ⟨_, b⟩ <;> omega) (by omega)
  have em : mTail p u = F_X9_put 10 (if MC i k m = -1 then F_X9_put 63 (F_X9_put 32 (F_X9_putNumber (m.2 7 i) (F_X9_put 32 (F_X9_putNumber (m.2 5 i) (mSt p u))))) else F_X9_putNumber (MC i k m) (F_X9_put 32 (F_X9_putNumber (m.2 7 i) (F_X9_put 32 (F_X9_putNumber (m.2 5 i) (mSt p u)))))) := by
    unfold mTail mHead
    rw [l1, l4, g2.2 7 (by decide), g2.2 5 (by decide)]
  refine ⟨g1.tr (keep_hold i k s), ⟨fun k h1 h2 h3 => ?_, fun r hr => ?_⟩, by omega, by rw [hold_9, g4], ⟨?_, ?_, ?_, ?_⟩, ?_, ?_⟩
  · rw [kt.1 k h3]; exact g2.1 k h1 h2 h3
  · rw [kt.2 r (by omega), mSt_2 p u (by omega)]; exact g2.2 r hr
  · rw [hh, kp.2 24 (by decide), kt.2 37 (by decide)]
    show Eqb (p + 1) (rput 24 (s.2 24) (s.1 9) i) (f_up (u.2 37) p (u.2 32 p))
    rw [g4, l1]; exact ga.put g3 hp i
  · rw [hh, kp.2 25 (by decide), kt.2 38 (by decide)]
    show Eqb (p + 1) (rput 24 (s.2 25) (s.1 9) (MC i k m)) (f_up (u.2 38) p (u.2 33 p))
    rw [g4, l4]; exact gb.put g3 hp _
  · rw [hh, kp.2 26 (by decide), kt.2 39 (by decide)]
    show Eqb (p + 1) (rput 24 (s.2 26) (s.1 9) (ME i k m)) (f_up (u.2 39) p (u.2 34 p))
    rw [g4, l2]; exact gc.put g3 hp _
  · rw [hh, kp.2 27 (by decide), kt.2 40 (by decide)]
    show Eqb (p + 1) (rput 24 (s.2 27) (s.1 9) (ML i k m)) (f_up (u.2 40) p (u.2 35 p))
    rw [g4, l3]; exact gd.put g3 hp _
  · rw [hh, em]; exact hl.1
  · rw [hh]; have := hl.2; omega
theorem LK.run {x m : fS} (h : Rel x m) (hx : xOk x) (hm : mOk m) (k : Int) : ∀ (ls : List Int) (n : Nat) (p : Int) (s u : fS), (∀ i ∈ ls, 0 ≤ i ∧ i < m.1 3) → LAt k m u p ls → ls.length < n → p + ls.length ≤ 24 → LK x m s u p → LK x m (foldH k ls s) (F_X9_walk_35 n p u).2 (p + ls.length) ∧ (F_X9_walk_35 n p u).1 = u.1 36 ∧ (F_X9_walk_35 n p u).2.1 36 = u.1 36 := by
  intro ls
  induction ls with
  | nil =>
    intro n p s u hb hl hn h24 g
    match n, hn with
    | n + 1, _ =>
      rw [LAt] at hl
      have : F_X9_walk_35 (n + 1) p u = (u.1 36, u) := by rw [F_X9_walk_35, if_pos (by omega)]
      rw [this]
      exact ⟨by show LK x m s u (p + 0); rw [Int.add_zero]; exact g, rfl, rfl⟩
  | cons i t ih =>
    intro n p s u hb hl hn h24 g
    match n, hn with
    | n + 1, hn =>
      have hlen := hl.len
      rw [List.length_cons] at hlen hn h24
      rw [LAt] at hl
      obtain ⟨l1, l2, l3, l4, l5⟩ := hl
      have bi := hb i (List.mem_cons_self)
      have hv := (q_vals h hx hm (k := k) bi.1 bi.2).2.2.2
      have hl9 : (u.2 35 p ≤ 0 ∧ ¬ u.2 33 p = -1) ∨ (0 < u.2 35 p ∧ u.2 33 p = -1) := by
        rw [l3, l4]
        rcases hv with ⟨a, b, _⟩ | ⟨a, b⟩
        · exact Or.inl ⟨a, by omega⟩
        · exact Or.inr ⟨a, b⟩
      rw [walk35_step n p u hl9, if_neg (show ¬ u.1 31 ≤ p by omega), foldH]
      have kt := mTail_k p u
      have b := ih n (p + 1) (F_X8_hold i k s) (mTail p u) (fun j hj => hb j (List.mem_cons_of_mem _ hj)) (LAt.keep (w := u) (u := mTail p u) (kt.1 31 (by decide)) ((kt.2 32 (by decide)).trans (mSt_2 p u (by omega))) ((kt.2 33 (by decide)).trans (mSt_2 p u (by omega))) ((kt.2 34 (by decide)).trans (mSt_2 p u (by omega))) ((kt.2 35 (by decide)).trans (mSt_2 p u (by omega))) l5) (by omega) (by omega) (LK.step h hx hm (by omega) bi g l1 l2 l3 l4)
      have e36 : (mTail p u).1 36 = u.1 36 := kt.1 36 (by decide)
      rw [e36] at b
      refine ⟨?_, b.2.1, b.2.2⟩
      rw [List.length_cons, show p + ((t.length + 1 : Nat) : Int) = p + 1 + t.length by omega]
      exact b.1
theorem q_walk {x m : fS} (h : Rel x m) (hx : xOk x) (hm : mOk m) (p1 p2 p3 : Int) : QQ (F_X8_walk p1 p2 p3 x) (F_X9_walk p1 p2 p3 m) := by
  have k0 : 0 ≤ m.1 3 := (hm.1 3).1
  have k1 : m.1 3 ≤ 24 := (hm.1 3).2
  unfold F_X8_walk F_X9_walk
  rw [q_asked h]
  by_cases c : F_X9_isAsked p1 p2 p3 m = 0
  · rw [if_pos c, if_pos c]
    exact ⟨rfl, h⟩
  rw [if_neg c, if_neg c, show x.1 1 = m.1 3 from h.2.2.1.1]
  have hf := q_findLines hm p1 p2 p3
  have hl : ∀ i ∈ lns p1 p2 p3 m (Int.toNat (m.1 3 - 0) + 1) 0, 0 ≤ i ∧ i < m.1 3 := lns_b p1 p2 p3 m _ 0 (by omega)
  have hn := lns_len p1 p2 p3 m (Int.toNat (m.1 3 - 0) + 1) 0 (by omega)
  have hlen := hf.2.len
  have hk0 : xKeepH x (sN (sN x 9 0) 10 0) := ⟨fun k h9 h10 => by rw [sN_1n _ _ h10, sN_1n _ _ h9], fun r hr => rfl⟩
  rw [walk22 h hm p1 p2 p3 _ 0 _ hk0 (by omega) (by omega) (by omega)]
  have hl2 : LAt p3 m (sN (sN (F_X9_findLines p1 p2 p3 m) 36 ((F_X9_findLines p1 p2 p3 m).1 31)) 41 0) 0 (lns p1 p2 p3 m (Int.toNat (m.1 3 - 0) + 1) 0) := LAt.keep (w := F_X9_findLines p1 p2 p3 m) (u := sN (sN (F_X9_findLines p1 p2 p3 m) 36 ((F_X9_findLines p1 p2 p3 m).1 31)) 41 0) rfl rfl rfl rfl rfl hf.2
  have r := LK.run h hx hm p3 (lns p1 p2 p3 m (Int.toNat (m.1 3 - 0) + 1) 0) (Int.toNat (24 - (0 : Int)) + 1) 0 (sN (sN x 9 0) 10 0) (sN (sN (F_X9_findLines p1 p2 p3 m) 36 ((F_X9_findLines p1 p2 p3 m).1 31)) 41 0) hl hl2 (by show (lns p1 p2 p3 m (Int.toNat (m.1 3 - 0) + 1) 0).length < 25; omega) (by omega)
    ⟨hk0, ⟨fun k h1 h2 h3 => by rw [sN_1n _ _ h3, sN_1n _ _ h2]; exact hf.1.1 k h1, fun r hr => hf.1.2 r (by omega)⟩, by omega, rfl, ⟨fun i h0 h1 => by omega, fun i h0 h1 => by omega, fun i h0 h1 => by omega, fun i h0 h1 => by omega⟩, ⟨by show (0 : Int) ≤ 0; omega, rfl, fun i h0 h1 => absurd (show i < 0 from h1) (by omega)⟩, by show (0 : Int) ≤ 23 * 0; omega⟩
  have e36 : (sN (sN (F_X9_findLines p1 p2 p3 m) 36 ((F_X9_findLines p1 p2 p3 m).1 31)) 41 0).1 36 = (F_X9_findLines p1 p2 p3 m).1 31 := rfl
  rw [e36] at r
  obtain ⟨⟨r1, r2, r3, r4, r5, r6, r7⟩, ra, rb⟩ := r
  refine ⟨?_, ?_⟩
  · exact (r4.trans hlen.symm).trans ra.symm
  obtain ⟨hH, hI, hF, hT, hE, hR, hC, hL, hP, hxs, hms, hB⟩ := h
  generalize (F_X9_walk_35 (Int.toNat (24 - (0 : Int)) + 1) 0 (sN (sN (F_X9_findLines p1 p2 p3 m) 36 ((F_X9_findLines p1 p2 p3 m).1 31)) 41 0)).2 = w at *
  generalize foldH p3 (lns p1 p2 p3 m (Int.toNat (m.1 3 - 0) + 1) 0) (sN (sN x 9 0) 10 0) = s at *
  refine ⟨?_, ?_, ?_, ?_, ?_, ?_, ?_, ?_, ?_, r1.steps hxs, mSteps_keep hms (r2.1 14 (by decide) (by decide) (by decide)) (r2.2 17 (by decide)) (r2.2 18 (by decide)) (r2.2 19 (by decide)) (r2.2 21 (by decide)) (r2.2 22 (by decide)), ?_⟩
  · rw [r2.1 0 (by decide) (by decide) (by decide), r2.2 1 (by decide), r2.2 2 (by decide), r1.1 0 (by decide) (by decide), r1.2 0 (by decide), r1.2 1 (by decide)]; exact hH
  · rw [r2.2 30 (by decide), r1.2 2 (by decide)]; exact hI
  · rw [r2.1 3 (by decide) (by decide) (by decide), r2.2 4 (by decide), r2.2 5 (by decide), r2.2 6 (by decide), r2.2 7 (by decide), r2.2 8 (by decide), r1.1 1 (by decide) (by decide), r1.2 3 (by decide), r1.2 4 (by decide), r1.2 5 (by decide), r1.2 6 (by decide), r1.2 7 (by decide)]; exact hF
  · rw [r2.1 9 (by decide) (by decide) (by decide), r2.2 10 (by decide), r1.1 2 (by decide) (by decide), r1.2 8 (by decide)]; exact hT
  · rw [r2.1 14 (by decide) (by decide) (by decide), r2.2 15 (by decide), r2.2 16 (by decide), r2.2 17 (by decide), r2.2 18 (by decide), r2.2 19 (by decide), r2.2 20 (by decide), r2.2 21 (by decide), r2.2 22 (by decide), r2.2 23 (by decide), r1.1 6 (by decide) (by decide), r1.2 9 (by decide), r1.2 10 (by decide), r1.2 11 (by decide), r1.2 12 (by decide), r1.2 13 (by decide), r1.2 14 (by decide), r1.2 15 (by decide), r1.2 16 (by decide), r1.2 17 (by decide), r1.2 18 (by decide)]; exact hE
  · rw [r2.1 25 (by decide) (by decide) (by decide), r2.2 26 (by decide), r2.2 27 (by decide), r2.2 28 (by decide), r2.2 29 (by decide), r1.1 8 (by decide) (by decide), r1.2 19 (by decide), r1.2 20 (by decide), r1.2 21 (by decide), r1.2 22 (by decide)]; exact hR
  · rw [r2.2 24 (by decide), r1.2 23 (by decide)]; exact hC
  · exact ⟨(r4.trans hlen.symm).trans rb.symm, r4 ▸ r5.1, r4 ▸ r5.2.1, r4 ▸ r5.2.2.1, r4 ▸ r5.2.2.2⟩
  · exact ⟨r6.2.1, by show s.1 10 ≤ 552; omega, r6.2.2⟩
  · rw [r1.1 5 (by decide) (by decide), r1.1 6 (by decide) (by decide), r1.2 12 (by decide), r1.2 15 (by decide), r1.2 16 (by decide)]; exact hB
