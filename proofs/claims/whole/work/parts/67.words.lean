/-! ===== PART 67: words ===== -/
def bl (c : Int) : Prop := c = 32 ∨ c = 10
theorem isBlank_iff (c : Int) (st : fS) : F_X7_isBlank c st = 0 ↔ ¬ bl c := by
  unfold F_X7_isBlank bl
  by_cases c1 : c = 32
  · rw [if_pos c1]
    exact ⟨fun h => absurd h (by decide), fun h => absurd (Or.inl c1) h⟩
  · rw [if_neg c1]
    by_cases c2 : c = 10
    · rw [if_pos c2]
      exact ⟨fun h => absurd h (by decide), fun h => absurd (Or.inr c2) h⟩
    · rw [if_neg c2]
      exact ⟨fun _ h => h.elim c1 c2, fun _ => rfl⟩
theorem sN_id (st : fS) (k : Nat) : sN st k (st.1 k) = st := by
  unfold sN
  refine Prod.ext ?_ rfl
  funext j
  show (bif Nat.beq j k then st.1 k else st.1 j) = st.1 j
  cases h : Nat.beq j k with
  | true => rw [Nat.eq_of_beq_eq_true h]; rfl
  | false => rfl
def pe (e : Int → Int) (j : Int) : Int := if j ≤ 0 then 0 else e (j - 1)
def WI (T b e : Int → Int) (N v1 v2 : Int) : Prop :=
  0 ≤ N ∧ (∀ j, 0 ≤ j → j < N → b j < e j ∧ e j ≤ v2 ∧ (∀ i, b j ≤ i → i < e j → ¬ bl (T i)) ∧ pe e j ≤ b j ∧ (0 < j → pe e j < b j) ∧ ∀ i, pe e j ≤ i → i < b j → bl (T i)) ∧ (v1 = 0 → pe e N ≤ v2 ∧ (0 < N → pe e N < v2) ∧ ∀ i, pe e N ≤ i → i < v2 → bl (T i)) ∧ (v1 ≠ 0 → 0 < N ∧ pe e N = v2)
theorem pe_pos {e : Int → Int} {j : Int} (h : 0 < j) : pe e j = e (j - 1) := if_neg (by omega)
theorem pe_up {e : Int → Int} {j k v : Int} (h : j ≤ k) : pe (f_up e k v) j = pe e j := by
  unfold pe
  by_cases c : j ≤ 0
  · rw [if_pos c, if_pos c]
  · rw [if_neg c, if_neg c, f_up_n _ _ (by omega)]
theorem WI.blank {T b e : Int → Int} {N v1 v2 : Int} (h : WI T b e N v1 v2) (hb : bl (T v2)) : WI T b e N 0 (v2 + 1) := by
  obtain ⟨h0, h1, h2, h3⟩ := h
  refine ⟨h0, fun j j0 j1 => ?_, fun _ => ?_, fun h9 => absurd rfl h9⟩
  · obtain ⟨a, b1, c, d, e1, f⟩ := h1 j j0 j1
    exact ⟨a, by omega, c, d, e1, f⟩
  · by_cases c : v1 = 0
    · obtain ⟨a, a2, a3⟩ := h2 c
      refine ⟨by omega, fun _ => by omega, fun i i0 i1 => ?_⟩
      by_cases ci : i = v2
      · subst ci; exact hb
      · exact a3 i i0 (by omega)
    · obtain ⟨a, a2⟩ := h3 c
      refine ⟨by omega, fun _ => by omega, fun i i0 i1 => ?_⟩
      have : i = v2 := by omega
      subst this; exact hb
theorem WI.new {T b e : Int → Int} {N v2 : Int} (h : WI T b e N 0 v2) (hb : ¬ bl (T v2)) : WI T (f_up b N v2) (f_up e (N + 1 - 1) (v2 + 1)) (N + 1) 1 (v2 + 1) := by
  obtain ⟨h0, h1, h2, h3⟩ := h
  obtain ⟨a, a2, a3⟩ := h2 rfl
  rw [show N + 1 - 1 = N by omega]
  refine ⟨by omega, fun j j0 j1 => ?_, fun h9 => absurd h9 (by decide), fun _ => ⟨by omega, ?_⟩⟩
  · rw [pe_up (show j ≤ N by omega)]
    by_cases c : j = N
    · subst c
      rw [f_up_s, f_up_s]
      refine ⟨by omega, by omega, fun i i0 i1 => ?_, a, a2, a3⟩
      have : i = v2 := by omega
      subst this; exact hb
    · rw [f_up_n _ _ c, f_up_n _ _ c]
      obtain ⟨q1, q2, q3, q4, q5, q6⟩ := h1 j j0 (by omega)
      exact ⟨q1, by omega, q3, q4, q5, q6⟩
  · rw [pe_pos (by omega), show N + 1 - 1 = N by omega, f_up_s]
theorem WI.ext {T b e : Int → Int} {N v1 v2 : Int} (h : WI T b e N v1 v2) (hv : v1 ≠ 0) (hb : ¬ bl (T v2)) : WI T b (f_up e (N - 1) (v2 + 1)) N 1 (v2 + 1) := by
  obtain ⟨h0, h1, h2, h3⟩ := h
  obtain ⟨a, a2⟩ := h3 hv
  rw [pe_pos a] at a2
  refine ⟨h0, fun j j0 j1 => ?_, fun h9 => absurd h9 (by decide), fun _ => ⟨a, ?_⟩⟩
  · rw [pe_up (show j ≤ N - 1 by omega)]
    obtain ⟨q1, q2, q3, q4, q5, q6⟩ := h1 j j0 j1
    by_cases c : j = N - 1
    · subst c
      rw [f_up_s]
      refine ⟨by omega, by omega, fun i i0 i1 => ?_, q4, q5, q6⟩
      by_cases ci : i = v2
      · subst ci; exact hb
      · exact q3 i i0 (by omega)
    · rw [f_up_n _ _ c]
      exact ⟨q1, by omega, q3, q4, q5, q6⟩
  · rw [pe_pos a, f_up_s]
/-- the words that the reference found -/
def WF (T b e : Int → Int) (N L : Int) : Prop := 0 ≤ N ∧ (∀ j, 0 ≤ j → j < N → b j < e j ∧ e j ≤ L ∧ (∀ i, b j ≤ i → i < e j → ¬ bl (T i)) ∧ (e j = L ∨ bl (T (e j))) ∧ pe e j ≤ b j ∧ (0 < j → pe e j < b j) ∧ ∀ i, pe e j ≤ i → i < b j → bl (T i)) ∧ pe e N ≤ L ∧ ∀ i, pe e N ≤ i → i < L → bl (T i)
theorem WI.fin {T b e : Int → Int} {N v1 L : Int} (h : WI T b e N v1 L) : WF T b e N L := by
  obtain ⟨h0, h1, h2, h3⟩ := h
  refine ⟨h0, fun j j0 j1 => ?_, ?_, ?_⟩
  · obtain ⟨q1, q2, q3, q4, q5, q6⟩ := h1 j j0 j1
    refine ⟨q1, q2, q3, ?_, q4, q5, q6⟩
    by_cases c : j + 1 < N
    · obtain ⟨r1, r2, r3, r4, r5, r6⟩ := h1 (j + 1) (by omega) c
      have e1 : pe e (j + 1) = e j := by rw [pe_pos (by omega), show j + 1 - 1 = j by omega]
      rw [e1] at r5 r6
      exact Or.inr (r6 _ (Int.le_refl _) (r5 (by omega)))
    · have e1 : pe e N = e j := by rw [pe_pos (by omega), show N - 1 = j by omega]
      rw [e1] at h2 h3
      by_cases c1 : v1 = 0
      · obtain ⟨a, a2, a3⟩ := h2 c1
        exact Or.inr (a3 _ (Int.le_refl _) (a2 (by omega)))
      · exact Or.inl (h3 c1).2
  · by_cases c1 : v1 = 0
    · exact (h2 c1).1
    · rw [(h3 c1).2]; exact Int.le_refl _
  · intro i i0 i1
    by_cases c1 : v1 = 0
    · exact (h2 c1).2.2 i i0 i1
    · have := (h3 c1).2; omega
theorem findWords_w (T : Int → Int) (L : Int) : ∀ (n : Nat) (v1 v2 : Int) (st : fS), st.2 10 = T → st.1 9 = L → L - v2 < n → v2 ≤ L → WI T (st.2 12) (st.2 13) (st.1 11) v1 v2 → WF T ((F_X9_findWords_9 n v1 v2 st).2 12) ((F_X9_findWords_9 n v1 v2 st).2 13) ((F_X9_findWords_9 n v1 v2 st).1 11) L ∧ (∀ r, r ≠ 12 → r ≠ 13 → (F_X9_findWords_9 n v1 v2 st).2 r = st.2 r) ∧ (∀ k, k ≠ 11 → (F_X9_findWords_9 n v1 v2 st).1 k = st.1 k) := by
  intro n
  induction n with
  | zero => intro v1 v2 st e1 e2 h1 h2; omega
  | succ n ih =>
    intro v1 v2 st e1 e2 h1 h2 hw
    rw [F_X9_findWords_9, e1, e2]
    by_cases c0 : L ≤ v2
    · rw [if_pos c0]
      have : v2 = L := by omega
      subst this
      exact ⟨hw.fin, fun _ _ _ => rfl, fun _ _ => rfl⟩
    rw [if_neg c0]
    by_cases c1 : T v2 = 32
    · rw [if_pos c1]
      exact ih 0 (v2 + 1) st e1 e2 (by omega) (by omega) (hw.blank (Or.inl c1))
    rw [if_neg c1]
    by_cases c2 : T v2 = 10
    · rw [if_pos c2]
      exact ih 0 (v2 + 1) st e1 e2 (by omega) (by omega) (hw.blank (Or.inr c2))
    rw [if_neg c2]
    have hb : ¬ bl (T v2) := fun h => h.elim c1 c2
    by_cases c3 : v1 = 0
    · rw [if_pos c3]
      subst c3
      have b := ih 1 (v2 + 1) (sR (sN (sR st 12 (f_up (st.2 12) (st.1 11) v2)) 11 (st.1 11 + 1)) 13 (f_up (st.2 13) (st.1 11 + 1 - 1) (v2 + 1))) e1 e2 (by omega) (by omega) (hw.new hb)
      refine ⟨b.1, fun r r1 r2 => (b.2.1 r r1 r2).trans ?_, fun k hk => (b.2.2 k hk).trans ?_⟩
      · rw [sR_2n _ _ r2, sN_2, sR_2n _ _ r1]
      · rw [sR_1, sN_1n _ _ hk, sR_1]
    · rw [if_neg c3]
      have b := ih 1 (v2 + 1) (sR st 13 (f_up (st.2 13) (st.1 11 - 1) (v2 + 1))) e1 e2 (by omega) (by omega) (hw.ext c3 hb)
      refine ⟨b.1, fun r r1 r2 => (b.2.1 r r1 r2).trans ?_, fun k hk => (b.2.2 k hk).trans ?_⟩
      · rw [sR_2n _ _ r2]
      · rw [sR_1]
theorem findWords_ok {m : fS} (hm : mOk m) : WF (m.2 10) ((F_X9_findWords m).2 12) ((F_X9_findWords m).2 13) ((F_X9_findWords m).1 11) (m.1 9) ∧ (∀ r, r ≠ 12 → r ≠ 13 → (F_X9_findWords m).2 r = m.2 r) ∧ (∀ k, k ≠ 11 → (F_X9_findWords m).1 k = m.1 k) := by
  have k0 : 0 ≤ m.1 9 := (hm.1 9).1
  unfold F_X9_findWords
  have b := findWords_w (m.2 10) (m.1 9) (Int.toNat (m.1 9 - 0) + 1) 0 0 (sN m 11 0) rfl rfl (by omega) k0 ⟨Int.le_refl _, fun j j0 j1 => absurd (show j < 0 from j1) (by omega), fun _ => ⟨by show pe _ 0 ≤ 0; rw [pe, if_pos (by decide)]; exact Int.le_refl _, fun h9 => by have h10 : (0 : Int) < 0 := h9; omega, fun i i0 i1 => by rw [show (sN m 11 0).1 11 = 0 from rfl, pe, if_pos (by decide)] at i0; omega⟩, fun h9 => absurd rfl h9⟩
  exact ⟨b.1, b.2.1, fun k hk => (b.2.2 k hk).trans (sN_1n _ _ hk)⟩
/-! the class goes to its next word -/
theorem tnw57_to : ∀ (n : Nat) (st : fS) (q : Int), st.1 4 ≤ q → q ≤ st.1 2 → (∀ i, st.1 4 ≤ i → i < q → ¬ bl (rget 600 (st.2 8) i)) → (q = st.1 2 ∨ bl (rget 600 (st.2 8) q)) → q - st.1 4 < n → F_X7_toNextWord_57 n st = sN (sN st 4 q) 5 (st.1 5 + 1) := by
  intro n
  induction n with
  | zero => intro st q h0 h1 h2 h3 h4; omega
  | succ n ih =>
    intro st q h0 h1 h2 h3 h4
    rw [F_X7_toNextWord_57]
    by_cases c : st.1 4 = q
    · have e : sN st 4 q = st := by rw [← c]; exact sN_id st 4
      rw [e]
      rcases h3 with h3 | h3
      · rw [if_pos (by omega)]
      · rw [c, if_neg (fun h9 => (isBlank_iff _ st).mp h9 h3)]
        split <;> rfl
    · rw [if_neg (show ¬ st.1 2 ≤ st.1 4 by omega), if_pos ((isBlank_iff _ st).mpr (h2 _ (Int.le_refl _) (by omega)))]
      have e4 : (sN st 4 (st.1 4 + 1)).1 4 = st.1 4 + 1 := rfl
      have b := ih (sN st 4 (st.1 4 + 1)) q (by omega) h1 (fun i i0 i1 => h2 i (by omega) i1) h3 (by omega)
      rw [b, sN_N]
      rfl
theorem tnw8_to : ∀ (n : Nat) (st : fS) (q r : Int), st.1 3 ≤ q → q ≤ st.1 2 → st.1 2 ≤ 600 → 0 ≤ q → (∀ i, st.1 3 ≤ i → i < q → bl (rget 600 (st.2 8) i)) → (q = st.1 2 ∨ ¬ bl (rget 600 (st.2 8) q)) → q - st.1 3 < n → q ≤ r → r ≤ st.1 2 → (∀ i, q ≤ i → i < r → ¬ bl (rget 600 (st.2 8) i)) → (r = st.1 2 ∨ bl (rget 600 (st.2 8) r)) → F_X7_toNextWord_8 n st = sN (sN (sN st 3 q) 4 r) 5 (st.1 5 + 1) := by
  intro n
  induction n with
  | zero => intro st q r h0 h1 h600 hq h2 h3 h4; omega
  | succ n ih =>
    intro st q r h0 h1 h600 hq h2 h3 h4 g1 g2 g3 g4
    rw [F_X7_toNextWord_8]
    by_cases c : st.1 3 = q
    · have e : sN st 3 q = st := by rw [← c]; exact sN_id st 3
      have b := tnw57_to (Int.toNat (1200 - st.1 3) + 1) (sN st 4 (st.1 3)) r (by show st.1 3 ≤ r; omega) g2 (fun i i0 i1 => g3 i (by have : st.1 3 ≤ i := i0; omega) i1) g4 (by show r - st.1 3 < _; omega)
      rw [b, sN_N, e]
      have hif : ∀ X : fS, (if st.1 2 ≤ st.1 3 then sN (sN st 4 r) 5 ((sN st 4 (st.1 3)).1 5 + 1) else (if F_X7_isBlank (rget 600 (st.2 8) (st.1 3)) st = 0 then sN (sN st 4 r) 5 ((sN st 4 (st.1 3)).1 5 + 1) else X)) = sN (sN st 4 r) 5 (st.1 5 + 1) := by
        intro X
        rcases h3 with h3 | h3
        · rw [if_pos (by omega)]; rfl
        · rw [← c] at h3
          rw [if_pos ((isBlank_iff _ st).mpr h3)]
          split <;> rfl
      exact hif _
    · rw [if_neg (show ¬ st.1 2 ≤ st.1 3 by omega), if_neg (fun h9 => (isBlank_iff _ st).mp h9 (h2 _ (Int.le_refl _) (by omega)))]
      have e3 : (sN st 3 (st.1 3 + 1)).1 3 = st.1 3 + 1 := rfl
      have b := ih (sN st 3 (st.1 3 + 1)) q r (by omega) h1 h600 hq (fun i i0 i1 => h2 i (by omega) i1) h3 (by omega) g1 g2 g3 g4
      rw [b, sN_N]
      rfl
/-- the class stands at word j -/
def XP (b e : Int → Int) (N L : Int) (s : fS) (j : Int) : Prop := s.1 5 = j ∧ s.1 3 = (if j < N then b j else L) ∧ s.1 4 = (if j < N then e j else L)
theorem tnw_to {T b e : Int → Int} {N L : Int} (hw : WF T b e N L) {s : fS} (hL : s.1 2 = L) (h600 : L ≤ 600) (hT : ∀ i, 0 ≤ i → i < L → rget 600 (s.2 8) i = T i) {j : Int} (h0 : 0 ≤ j) (hj : j ≤ N) (h4 : s.1 4 = pe e j) (hp : 0 ≤ pe e j) : F_X7_toNextWord s = sN (sN (sN s 3 (if j < N then b j else L)) 4 (if j < N then e j else L)) 5 (s.1 5 + 1) := by
  obtain ⟨w0, w1, w2, w3⟩ := hw
  unfold F_X7_toNextWord
  by_cases c : j < N
  · obtain ⟨q1, q2, q3, q4, q5, q6, q7⟩ := w1 j h0 c
    rw [if_pos c, if_pos c]
    have b1 := tnw8_to (Int.toNat (1200 - s.1 4) + 1) (sN s 3 (s.1 4)) (b j) (e j) (by show s.1 4 ≤ b j; omega) (by show b j ≤ s.1 2; omega) (by show s.1 2 ≤ 600; omega) (by omega)
      (fun i i0 i1 => by show bl (rget 600 (s.2 8) i); have : s.1 4 ≤ i := i0; rw [hT i (by omega) (by omega)]; exact q7 i (by omega) i1) (Or.inr (by show ¬ bl (rget 600 (s.2 8) (b j)); rw [hT _ (by omega) (by omega)]; exact q3 _ (Int.le_refl _) q1)) (by show b j - s.1 4 < _; omega) (by omega) (by show e j ≤ s.1 2; omega)
      (fun i i0 i1 => by show ¬ bl (rget 600 (s.2 8) i); rw [hT i (by omega) (by omega)]; exact q3 i i0 i1) (by
        show e j = s.1 2 ∨ bl (rget 600 (s.2 8) (e j))
        by_cases cc : e j = s.1 2
        · exact Or.inl cc
        · rcases q4 with q4 | q4
          · omega
          · rw [hT _ (by omega) (by omega)]; exact Or.inr q4)
    rw [b1, sN_N]
    rfl
  · have : j = N := by omega
    subst this
    rw [if_neg c, if_neg c]
    have b1 := tnw8_to (Int.toNat (1200 - s.1 4) + 1) (sN s 3 (s.1 4)) L L (by show s.1 4 ≤ L; omega) (by show L ≤ s.1 2; omega) (by show s.1 2 ≤ 600; omega) (by omega)
      (fun i i0 i1 => by show bl (rget 600 (s.2 8) i); have : s.1 4 ≤ i := i0; rw [hT i (by omega) (by omega)]; exact w3 i (by omega) i1) (Or.inl hL.symm) (by show L - s.1 4 < _; omega) (by omega) (by show L ≤ s.1 2; omega)
      (fun i i0 i1 => by omega) (Or.inl hL.symm)
    rw [b1, sN_N]
    rfl
theorem pe_nn {T b e : Int → Int} {N L : Int} (hw : WF T b e N L) : ∀ n : Nat, (n : Int) ≤ N → 0 ≤ pe e n := by
  intro n
  induction n with
  | zero => intro h; rw [pe, if_pos (by decide)]; exact Int.le_refl _
  | succ n ih =>
    intro h
    have := ih (by omega)
    obtain ⟨q1, q2, q3, q4, q5, q6, q7⟩ := hw.2.1 n (by omega) (by omega)
    rw [pe_pos (by omega), show ((n + 1 : Nat) : Int) - 1 = n by omega]
    omega
theorem pe_nn' {T b e : Int → Int} {N L : Int} (hw : WF T b e N L) {j : Int} (h0 : 0 ≤ j) (hj : j ≤ N) : 0 ≤ pe e j := by
  have := pe_nn hw j.toNat (by omega)
  rwa [show (j.toNat : Int) = j by omega] at this
theorem XP.next {T b e : Int → Int} {N L : Int} (hw : WF T b e N L) {s : fS} (hL : s.1 2 = L) (h600 : L ≤ 600) (hT : ∀ i, 0 ≤ i → i < L → rget 600 (s.2 8) i = T i) {j : Int} (h0 : 0 ≤ j) (hj : j < N) (h : XP b e N L s j) : XP b e N L (F_X7_toNextWord s) (j + 1) := by
  obtain ⟨a1, a2, a3⟩ := h
  rw [if_pos hj] at a3
  have e1 : pe e (j + 1) = e j := by rw [pe_pos (by omega), show j + 1 - 1 = j by omega]
  rw [tnw_to hw hL h600 hT (j := j + 1) (by omega) (by omega) (by rw [e1]; exact a3) (pe_nn' hw (by omega) (by omega))]
  exact ⟨by show s.1 5 + 1 = j + 1; omega, rfl, rfl⟩
theorem XP.first {T b e : Int → Int} {N L : Int} (hw : WF T b e N L) {s : fS} (hL : s.1 2 = L) (h600 : L ≤ 600) (hT : ∀ i, 0 ≤ i → i < L → rget 600 (s.2 8) i = T i) : XP b e N L (F_X7_toFirstWord s) 0 := by
  unfold F_X7_toFirstWord
  have p0 : pe e 0 = 0 := by rw [pe, if_pos (by decide)]
  rw [tnw_to hw (s := sN s 4 0) hL h600 hT (j := 0) (by omega) hw.1 (by rw [p0]; rfl) (by omega)]
  exact ⟨rfl, rfl, rfl⟩
