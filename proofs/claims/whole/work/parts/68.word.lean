/-! ===== PART 68: one word of the class's is one of the reference's ===== -/
/-- the words lie in the reference's state -/
def WM (T b e : Int → Int) (N : Int) (u : fS) : Prop := u.1 11 = N ∧ u.2 10 = T ∧ u.2 12 = b ∧ u.2 13 = e
/-- the text lies in the class's state -/
def TX (T : Int → Int) (L : Int) (s : fS) : Prop := s.1 2 = L ∧ L ≤ 600 ∧ ∀ i, 0 ≤ i → i < L → rget 600 (s.2 8) i = T i
theorem wf_b {T b e : Int → Int} {N L : Int} (hw : WF T b e N L) {j : Int} (h0 : 0 ≤ j) (hj : j < N) : 0 ≤ b j ∧ b j < e j ∧ e j ≤ L := by
  have := pe_nn' hw h0 (by omega)
  obtain ⟨q1, q2, q3, q4, q5, q6, q7⟩ := hw.2.1 j h0 hj
  omega
theorem wf_n {T b e : Int → Int} {N L : Int} (hw : WF T b e N L) {j : Int} (h0 : 0 ≤ j) (hj : j + 1 < N) : e j < b (j + 1) := by
  obtain ⟨q1, q2, q3, q4, q5, q6, q7⟩ := hw.2.1 (j + 1) (by omega) hj
  have := q6 (by omega)
  rwa [pe_pos (by omega), show j + 1 - 1 = j by omega] at this
theorem isw0_eq (s : fS) : F_X7_isWord_24 0 6 0 s = (if rget 600 (s.2 8) (s.1 3 + 0) = 107 then (if rget 600 (s.2 8) (s.1 3 + 1) = 105 then (if rget 600 (s.2 8) (s.1 3 + 2) = 110 then (if rget 600 (s.2 8) (s.1 3 + 3) = 100 then 1 else 0) else 0) else 0) else 0) := by
  have hl : wLen 0 = 4 := by decide +kernel
  have c0 : wCh 0 0 = 107 := by decide +kernel
  have c1 : wCh 0 1 = 105 := by decide +kernel
  have c2 : wCh 0 2 = 110 := by decide +kernel
  have c3 : wCh 0 3 = 100 := by decide +kernel
  rw [F_X7_isWord_24, hl, if_neg (show ¬ (4 : Int) ≤ 0 by decide), c0]
  rw [F_X7_isWord_24, hl, show (0 + 1 : Int) = 1 from rfl, if_neg (show ¬ (4 : Int) ≤ 1 by decide), c1]
  rw [F_X7_isWord_24, hl, show (1 + 1 : Int) = 2 from rfl, if_neg (show ¬ (4 : Int) ≤ 2 by decide), c2]
  rw [F_X7_isWord_24, hl, show (2 + 1 : Int) = 3 from rfl, if_neg (show ¬ (4 : Int) ≤ 3 by decide), c3]
  rw [F_X7_isWord_24, hl, show (3 + 1 : Int) = 4 from rfl, if_pos (show (4 : Int) ≤ 4 by decide)]
theorem q_isKindWord {T b e : Int → Int} {N L : Int} (hw : WF T b e N L) {s u : fS} (hm : WM T b e N u) (hx : TX T L s) {j : Int} (h0 : 0 ≤ j) (hp : XP b e N L s j) : F_X7_isWord 0 s = F_X9_isKindWord j u := by
  obtain ⟨m1, m2, m3, m4⟩ := hm
  obtain ⟨x1, x2, x3⟩ := hx
  obtain ⟨p1, p2, p3⟩ := hp
  unfold F_X7_isWord F_X9_isKindWord F_X9_is
  rw [m1, m2, m3, m4, show wLen 0 = 4 by decide +kernel, p3]
  by_cases c : j < N
  · have hb := wf_b hw h0 c
    rw [if_pos c, if_pos c, isw0_eq, p2, if_pos c]
    by_cases c1 : e j - b j = 4
    · rw [if_pos c1]
      rw [x3 (b j + 0) (by omega) (by omega)]
      rw [x3 (b j + 1) (by omega) (by omega)]
      rw [x3 (b j + 2) (by omega) (by omega)]
      rw [x3 (b j + 3) (by omega) (by omega)]
      rw [Int.add_zero, if_pos (show (0 : Int) ≤ 0 by decide), if_neg (show ¬ (100 : Int) ≤ 0 by decide), if_pos c1]
    · rw [if_neg c1]
      rw [if_pos (show (0 : Int) ≤ 0 by decide), if_neg (show ¬ (100 : Int) ≤ 0 by decide), if_neg c1]
  · rw [if_neg c, if_neg c, p2, if_neg c, if_neg (by omega)]
theorem isw1_eq (s : fS) : F_X7_isWord_24 1 6 0 s = (if rget 600 (s.2 8) (s.1 3 + 0) = 112 then (if rget 600 (s.2 8) (s.1 3 + 1) = 101 then (if rget 600 (s.2 8) (s.1 3 + 2) = 114 then 1 else 0) else 0) else 0) := by
  have hl : wLen 1 = 3 := by decide +kernel
  have c0 : wCh 1 0 = 112 := by decide +kernel
  have c1 : wCh 1 1 = 101 := by decide +kernel
  have c2 : wCh 1 2 = 114 := by decide +kernel
  rw [F_X7_isWord_24, hl, if_neg (show ¬ (3 : Int) ≤ 0 by decide), c0]
  rw [F_X7_isWord_24, hl, show (0 + 1 : Int) = 1 from rfl, if_neg (show ¬ (3 : Int) ≤ 1 by decide), c1]
  rw [F_X7_isWord_24, hl, show (1 + 1 : Int) = 2 from rfl, if_neg (show ¬ (3 : Int) ≤ 2 by decide), c2]
  rw [F_X7_isWord_24, hl, show (2 + 1 : Int) = 3 from rfl, if_pos (show (3 : Int) ≤ 3 by decide)]
theorem q_isPer {T b e : Int → Int} {N L : Int} (hw : WF T b e N L) {s u : fS} (hm : WM T b e N u) (hx : TX T L s) {j : Int} (h0 : 0 ≤ j) (hp : XP b e N L s j) : F_X7_isWord 1 s = F_X9_isPer j u := by
  obtain ⟨m1, m2, m3, m4⟩ := hm
  obtain ⟨x1, x2, x3⟩ := hx
  obtain ⟨p1, p2, p3⟩ := hp
  unfold F_X7_isWord F_X9_isPer F_X9_is
  rw [m1, m2, m3, m4, show wLen 1 = 3 by decide +kernel, p3]
  by_cases c : j < N
  · have hb := wf_b hw h0 c
    rw [if_pos c, if_pos c, isw1_eq, p2, if_pos c]
    by_cases c1 : e j - b j = 3
    · rw [if_pos c1]
      rw [x3 (b j + 0) (by omega) (by omega)]
      rw [x3 (b j + 1) (by omega) (by omega)]
      rw [x3 (b j + 2) (by omega) (by omega)]
      rw [Int.add_zero, if_pos (show (0 : Int) ≤ 0 by decide), if_pos (show (0 : Int) ≤ 0 by decide), if_pos c1]
    · rw [if_neg c1]
      rw [if_pos (show (0 : Int) ≤ 0 by decide), if_pos (show (0 : Int) ≤ 0 by decide), if_neg c1]
  · rw [if_neg c, if_neg c, p2, if_neg c, if_neg (by omega)]
theorem isw2_eq (s : fS) : F_X7_isWord_24 2 6 0 s = (if rget 600 (s.2 8) (s.1 3 + 0) = 112 then (if rget 600 (s.2 8) (s.1 3 + 1) = 114 then (if rget 600 (s.2 8) (s.1 3 + 2) = 105 then (if rget 600 (s.2 8) (s.1 3 + 3) = 99 then (if rget 600 (s.2 8) (s.1 3 + 4) = 101 then 1 else 0) else 0) else 0) else 0) else 0) := by
  have hl : wLen 2 = 5 := by decide +kernel
  have c0 : wCh 2 0 = 112 := by decide +kernel
  have c1 : wCh 2 1 = 114 := by decide +kernel
  have c2 : wCh 2 2 = 105 := by decide +kernel
  have c3 : wCh 2 3 = 99 := by decide +kernel
  have c4 : wCh 2 4 = 101 := by decide +kernel
  rw [F_X7_isWord_24, hl, if_neg (show ¬ (5 : Int) ≤ 0 by decide), c0]
  rw [F_X7_isWord_24, hl, show (0 + 1 : Int) = 1 from rfl, if_neg (show ¬ (5 : Int) ≤ 1 by decide), c1]
  rw [F_X7_isWord_24, hl, show (1 + 1 : Int) = 2 from rfl, if_neg (show ¬ (5 : Int) ≤ 2 by decide), c2]
  rw [F_X7_isWord_24, hl, show (2 + 1 : Int) = 3 from rfl, if_neg (show ¬ (5 : Int) ≤ 3 by decide), c3]
  rw [F_X7_isWord_24, hl, show (3 + 1 : Int) = 4 from rfl, if_neg (show ¬ (5 : Int) ≤ 4 by decide), c4]
  rw [F_X7_isWord_24, hl, show (4 + 1 : Int) = 5 from rfl, if_pos (show (5 : Int) ≤ 5 by decide)]
theorem q_isPrice {T b e : Int → Int} {N L : Int} (hw : WF T b e N L) {s u : fS} (hm : WM T b e N u) (hx : TX T L s) {j : Int} (h0 : 0 ≤ j) (hp : XP b e N L s j) : F_X7_isWord 2 s = F_X9_isPrice j u := by
  obtain ⟨m1, m2, m3, m4⟩ := hm
  obtain ⟨x1, x2, x3⟩ := hx
  obtain ⟨p1, p2, p3⟩ := hp
  unfold F_X7_isWord F_X9_isPrice F_X9_is
  rw [m1, m2, m3, m4, show wLen 2 = 5 by decide +kernel, p3]
  by_cases c : j < N
  · have hb := wf_b hw h0 c
    rw [if_pos c, if_pos c, isw2_eq, p2, if_pos c]
    by_cases c1 : e j - b j = 5
    · rw [if_pos c1]
      rw [x3 (b j + 0) (by omega) (by omega)]
      rw [x3 (b j + 1) (by omega) (by omega)]
      rw [x3 (b j + 2) (by omega) (by omega)]
      rw [x3 (b j + 3) (by omega) (by omega)]
      rw [x3 (b j + 4) (by omega) (by omega)]
      rw [Int.add_zero, if_neg (show ¬ (101 : Int) ≤ 0 by decide), if_pos c1]
    · rw [if_neg c1]
      rw [if_neg (show ¬ (101 : Int) ≤ 0 by decide), if_neg c1]
  · rw [if_neg c, if_neg c, p2, if_neg c, if_neg (by omega)]
theorem isw3_eq (s : fS) : F_X7_isWord_24 3 6 0 s = (if rget 600 (s.2 8) (s.1 3 + 0) = 115 then (if rget 600 (s.2 8) (s.1 3 + 1) = 116 then (if rget 600 (s.2 8) (s.1 3 + 2) = 101 then (if rget 600 (s.2 8) (s.1 3 + 3) = 112 then 1 else 0) else 0) else 0) else 0) := by
  have hl : wLen 3 = 4 := by decide +kernel
  have c0 : wCh 3 0 = 115 := by decide +kernel
  have c1 : wCh 3 1 = 116 := by decide +kernel
  have c2 : wCh 3 2 = 101 := by decide +kernel
  have c3 : wCh 3 3 = 112 := by decide +kernel
  rw [F_X7_isWord_24, hl, if_neg (show ¬ (4 : Int) ≤ 0 by decide), c0]
  rw [F_X7_isWord_24, hl, show (0 + 1 : Int) = 1 from rfl, if_neg (show ¬ (4 : Int) ≤ 1 by decide), c1]
  rw [F_X7_isWord_24, hl, show (1 + 1 : Int) = 2 from rfl, if_neg (show ¬ (4 : Int) ≤ 2 by decide), c2]
  rw [F_X7_isWord_24, hl, show (2 + 1 : Int) = 3 from rfl, if_neg (show ¬ (4 : Int) ≤ 3 by decide), c3]
  rw [F_X7_isWord_24, hl, show (3 + 1 : Int) = 4 from rfl, if_pos (show (4 : Int) ≤ 4 by decide)]
theorem q_isStep {T b e : Int → Int} {N L : Int} (hw : WF T b e N L) {s u : fS} (hm : WM T b e N u) (hx : TX T L s) {j : Int} (h0 : 0 ≤ j) (hp : XP b e N L s j) : F_X7_isWord 3 s = F_X9_isStep j u := by
  obtain ⟨m1, m2, m3, m4⟩ := hm
  obtain ⟨x1, x2, x3⟩ := hx
  obtain ⟨p1, p2, p3⟩ := hp
  unfold F_X7_isWord F_X9_isStep F_X9_is
  rw [m1, m2, m3, m4, show wLen 3 = 4 by decide +kernel, p3]
  by_cases c : j < N
  · have hb := wf_b hw h0 c
    rw [if_pos c, if_pos c, isw3_eq, p2, if_pos c]
    by_cases c1 : e j - b j = 4
    · rw [if_pos c1]
      rw [x3 (b j + 0) (by omega) (by omega)]
      rw [x3 (b j + 1) (by omega) (by omega)]
      rw [x3 (b j + 2) (by omega) (by omega)]
      rw [x3 (b j + 3) (by omega) (by omega)]
      rw [Int.add_zero, if_pos (show (0 : Int) ≤ 0 by decide), if_neg (show ¬ (112 : Int) ≤ 0 by decide), if_pos c1]
    · rw [if_neg c1]
      rw [if_pos (show (0 : Int) ≤ 0 by decide), if_neg (show ¬ (112 : Int) ≤ 0 by decide), if_neg c1]
  · rw [if_neg c, if_neg c, p2, if_neg c, if_neg (by omega)]
theorem isw4_eq (s : fS) : F_X7_isWord_24 4 6 0 s = (if rget 600 (s.2 8) (s.1 3 + 0) = 99 then (if rget 600 (s.2 8) (s.1 3 + 1) = 97 then (if rget 600 (s.2 8) (s.1 3 + 2) = 112 then 1 else 0) else 0) else 0) := by
  have hl : wLen 4 = 3 := by decide +kernel
  have c0 : wCh 4 0 = 99 := by decide +kernel
  have c1 : wCh 4 1 = 97 := by decide +kernel
  have c2 : wCh 4 2 = 112 := by decide +kernel
  rw [F_X7_isWord_24, hl, if_neg (show ¬ (3 : Int) ≤ 0 by decide), c0]
  rw [F_X7_isWord_24, hl, show (0 + 1 : Int) = 1 from rfl, if_neg (show ¬ (3 : Int) ≤ 1 by decide), c1]
  rw [F_X7_isWord_24, hl, show (1 + 1 : Int) = 2 from rfl, if_neg (show ¬ (3 : Int) ≤ 2 by decide), c2]
  rw [F_X7_isWord_24, hl, show (2 + 1 : Int) = 3 from rfl, if_pos (show (3 : Int) ≤ 3 by decide)]
theorem q_isCap {T b e : Int → Int} {N L : Int} (hw : WF T b e N L) {s u : fS} (hm : WM T b e N u) (hx : TX T L s) {j : Int} (h0 : 0 ≤ j) (hp : XP b e N L s j) : F_X7_isWord 4 s = F_X9_isCap j u := by
  obtain ⟨m1, m2, m3, m4⟩ := hm
  obtain ⟨x1, x2, x3⟩ := hx
  obtain ⟨p1, p2, p3⟩ := hp
  unfold F_X7_isWord F_X9_isCap F_X9_is
  rw [m1, m2, m3, m4, show wLen 4 = 3 by decide +kernel, p3]
  by_cases c : j < N
  · have hb := wf_b hw h0 c
    rw [if_pos c, if_pos c, isw4_eq, p2, if_pos c]
    by_cases c1 : e j - b j = 3
    · rw [if_pos c1]
      rw [x3 (b j + 0) (by omega) (by omega)]
      rw [x3 (b j + 1) (by omega) (by omega)]
      rw [x3 (b j + 2) (by omega) (by omega)]
      rw [Int.add_zero, if_pos (show (0 : Int) ≤ 0 by decide), if_pos (show (0 : Int) ≤ 0 by decide), if_pos c1]
    · rw [if_neg c1]
      rw [if_pos (show (0 : Int) ≤ 0 by decide), if_pos (show (0 : Int) ≤ 0 by decide), if_neg c1]
  · rw [if_neg c, if_neg c, p2, if_neg c, if_neg (by omega)]
theorem number_loop {T b e : Int → Int} {N L : Int} (hw : WF T b e N L) {s u : fS} (hm : WM T b e N u) (hx : TX T L s) {j : Int} (h0 : 0 ≤ j) (hj : j < N) (h4 : s.1 4 = e j) : ∀ (n n' : Nat) (v k : Int), 0 ≤ v → b j ≤ k → k ≤ e j → e j - k < n → e j - k < n' → F_X7_asNumber_32 n v k s = F_X9_number_37 j n' v k u ∧ -1 ≤ F_X9_number_37 j n' v k u := by
  obtain ⟨m1, m2, m3, m4⟩ := hm
  obtain ⟨x1, x2, x3⟩ := hx
  have hb := wf_b hw h0 hj
  intro n
  induction n with
  | zero => intro n' v k h5 h6 h7 h8; omega
  | succ n ih =>
    intro n' v k h5 h6 h7 h8 h9
    match n', h9 with
    | 0, h9 => omega
    | n' + 1, h9 =>
      rw [F_X7_asNumber_32, F_X9_number_37, m2, m4, h4]
      by_cases c : e j ≤ k
      · rw [if_pos c, if_pos c]; exact ⟨rfl, by omega⟩
      rw [if_neg c, if_neg c, x3 k (by omega) (by omega)]
      by_cases c1 : T k < 48
      · rw [if_pos (show T k - 48 < 0 by omega), if_pos c1]; exact ⟨rfl, by decide⟩
      rw [if_neg (show ¬ T k - 48 < 0 by omega), if_neg c1]
      by_cases c2 : T k ≤ 57
      · rw [if_pos (show T k - 48 ≤ 9 by omega), if_pos c2, show v * 10 + (T k - 48) = 10 * v + T k - 48 by omega]
        exact ih n' _ _ (by omega) (by omega) (by omega) (by omega) (by omega)
      rw [if_neg (show ¬ T k - 48 ≤ 9 by omega), if_neg c2]; exact ⟨rfl, by decide⟩
theorem q_number {T b e : Int → Int} {N L : Int} (hw : WF T b e N L) {s u : fS} (hm : WM T b e N u) (hx : TX T L s) {j : Int} (h0 : 0 ≤ j) (hp : XP b e N L s j) : F_X7_asNumber s = F_X9_number j u ∧ -1 ≤ F_X9_number j u ∧ (0 ≤ F_X9_number j u → j < N) := by
  obtain ⟨m1, m2, m3, m4⟩ := id hm
  obtain ⟨x1, x2, x3⟩ := id hx
  obtain ⟨p1, p2, p3⟩ := hp
  unfold F_X7_asNumber F_X7_hasWord F_X9_number
  rw [m1, m3, m4]
  by_cases c : j < N
  · have hb := wf_b hw h0 c
    rw [if_pos c] at p2 p3
    rw [p2, p3, if_neg (show ¬ e j ≤ b j by omega), if_neg (by decide), if_neg (show ¬ N ≤ j by omega)]
    by_cases c1 : e j - b j ≤ 6
    · rw [if_pos c1, if_pos c1]
      have := number_loop hw hm hx h0 c p3 (Int.toNat (e j - b j) + 1) (Int.toNat (606 - b j) + 1) 0 (b j) (by omega) (by omega) (by omega) (by omega) (by omega)
      exact ⟨this.1, this.2, fun _ => c⟩
    · rw [if_neg c1, if_neg c1]; exact ⟨rfl, by decide, fun _ => c⟩
  · rw [if_neg c] at p2 p3
    rw [p2, p3, if_pos (Int.le_refl L), if_pos rfl, if_pos (show N ≤ j by omega)]
    exact ⟨rfl, by decide, fun h9 => absurd h9 (by decide)⟩
theorem number_w {T b e : Int → Int} {N : Int} {u w : fS} (h : WM T b e N u) (g : WM T b e N w) (j : Int) : F_X9_number j u = F_X9_number j w := by
  obtain ⟨m1, m2, m3, m4⟩ := h
  obtain ⟨n1, n2, n3, n4⟩ := g
  have lp : ∀ (n : Nat) (v k : Int), F_X9_number_37 j n v k u = F_X9_number_37 j n v k w := by
    intro n
    induction n with
    | zero => intro v k; rfl
    | succ n ih => intro v k; rw [F_X9_number_37, F_X9_number_37, ih, m2, n2, m4, n4]
  unfold F_X9_number
  rw [lp, m1, n1, m3, n3, m4, n4]
theorem is_w {T b e : Int → Int} {N : Int} {u w : fS} (h : WM T b e N u) (g : WM T b e N w) (j a1 a2 a3 a4 a5 : Int) : F_X9_is j a1 a2 a3 a4 a5 u = F_X9_is j a1 a2 a3 a4 a5 w := by
  obtain ⟨m1, m2, m3, m4⟩ := h
  obtain ⟨n1, n2, n3, n4⟩ := g
  unfold F_X9_is
  rw [m1, n1, m2, n2, m3, n3, m4, n4]
theorem is4_b {T b e : Int → Int} {N : Int} {u : fS} (h : WM T b e N u) {j a1 a2 a3 a4 : Int} (ha : ¬ a4 ≤ 0) (h9 : ¬ F_X9_is j a1 a2 a3 a4 0 u = 0) : j < N ∧ e j - b j = 4 := by
  obtain ⟨m1, m2, m3, m4⟩ := h
  unfold F_X9_is at h9
  rw [m1, m3, m4] at h9
  by_cases c : j < N
  · rw [if_pos c, if_pos (by decide), if_neg ha] at h9
    by_cases c1 : e j - b j = 4
    · exact ⟨c, c1⟩
    · rw [if_neg c1] at h9; exact absurd rfl h9
  · rw [if_neg c] at h9; exact absurd rfl h9
theorem is_b {T b e : Int → Int} {N : Int} {u : fS} (h : WM T b e N u) {j a1 a2 a3 a4 a5 : Int} (h9 : ¬ F_X9_is j a1 a2 a3 a4 a5 u = 0) : j < N := by
  unfold F_X9_is at h9
  rw [h.1] at h9
  by_cases c : j < N
  · exact c
  · rw [if_neg c] at h9; exact absurd rfl h9
