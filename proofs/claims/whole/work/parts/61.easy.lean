/-! ===== PART 61: the methods that are plain ===== -/
theorem rput6 (w : Int → Int) {n : Int} (h0 : 0 ≤ n) (h4 : n < 4) (i : Int) : rput 24 (rput 24 (rput 24 (rput 24 (rput 24 (rput 24 w (n * 6 + 0) 1) (n * 6 + (0 + 1)) 1) (n * 6 + (0 + 1 + 1)) 1) (n * 6 + (0 + 1 + 1 + 1)) 1) (n * 6 + (0 + 1 + 1 + 1 + 1)) 1) (n * 6 + (0 + 1 + 1 + 1 + 1 + 1)) 1 i = if n * 6 ≤ i ∧ i < n * 6 + 6 then 1 else w i := by
  rw [rput_in _ ⟨by omega, by omega⟩, rput_in _ ⟨by omega, by omega⟩, rput_in _ ⟨by omega, by omega⟩, rput_in _ ⟨by omega, by omega⟩, rput_in _ ⟨by omega, by omega⟩, rput_in _ ⟨by omega, by omega⟩]
  unfold f_up
  by_cases c : n * 6 ≤ i ∧ i < n * 6 + 6
  · rw [if_pos c]
    repeat' split
    all_goals first
      | rfl
      | omega
  · rw [if_neg c, if_neg (by omega), if_neg (by omega), if_neg (by omega), if_neg (by omega), if_neg (by omega), if_neg (by omega)]
theorem add27_eq (v : Int) (st : fS) : F_X3_add_27 v 7 0 st = (v, sN (rset (rset (rset (rset (rset (rset st 1 (v * 6 + 0) 1) 1 (v * 6 + (0 + 1)) 1) 1 (v * 6 + (0 + 1 + 1)) 1) 1 (v * 6 + (0 + 1 + 1 + 1)) 1) 1 (v * 6 + (0 + 1 + 1 + 1 + 1)) 1) 1 (v * 6 + (0 + 1 + 1 + 1 + 1 + 1)) 1) 0 (st.1 0 + 1)) := by
  rw [F_X3_add_27, if_neg (by decide), F_X3_add_27, if_neg (by decide), F_X3_add_27, if_neg (by decide), F_X3_add_27, if_neg (by decide), F_X3_add_27, if_neg (by decide), F_X3_add_27, if_neg (by decide), F_X3_add_27, if_pos (by decide)]
  rfl
theorem q_house {x m : fS} (h : Rel x m) (hx : xOk x) (hm : mOk m) (p1 : Int) : QQ (F_X8_house p1 x) (F_X9_house p1 m) := by
  have k1 : m.1 0 ≤ 4 := (hm.1 0).2
  have k0 : 0 ≤ m.1 0 := (hm.1 0).1
  have e1 : x.1 0 = m.1 0 := h.1.1
  unfold F_X8_house F_X9_house F_X3_add
  rw [show Int.toNat (6 - (0 : Int)) + 1 = 7 from rfl, add27_eq]
  obtain ⟨hH, hI, hF, hT, hE, hR, hC, hL, hP, hxs, hms, hB⟩ := h
  repeat' split
  all_goals first
    | exact ⟨rfl, hH, hI, hF, hT, hE, hR, hC, hL, hP, hxs, hms, hB⟩
    | (exfalso; omega)
    | skip
  refine ⟨by show x.1 0 = m.1 0 + 1 - 1; omega, ?_, hI, hF, hT, hE, hR, hC, hL, hP, hxs, hms, hB⟩
  obtain ⟨_, ha, hb, hc⟩ := hH
  refine ⟨by show x.1 0 + 1 = m.1 0 + 1; omega, ?_, ?_, ?_⟩
  · exact e1 ▸ ha.put (N := 4) (by omega) (by omega) p1
  · intro i h0 h6
    refine (rput6 (x.2 1) (n := x.1 0) (by omega) (by omega) i).trans ?_
    replace h6 : i < 6 * (x.1 0 + 1) := h6
    by_cases c : x.1 0 * 6 ≤ i ∧ i < x.1 0 * 6 + 6
    · rw [if_pos c]; exact (hc i (by omega) (by omega)).symm
    · rw [if_neg c]; exact hb i h0 (by omega)
  · intro i h6 h24
    replace h6 : 6 * (x.1 0 + 1) ≤ i := h6
    exact hc i (by omega) h24
theorem q_unit {x m : fS} (h : Rel x m) (hx : xOk x) (hm : mOk m) (p1 : Int) : QQ (F_X8_unit p1 x) (F_X9_unit p1 m) := by
  have k1 : m.1 9 ≤ 600 := (hm.1 9).2
  have k0 : 0 ≤ m.1 9 := (hm.1 9).1
  have e1 : x.1 2 = m.1 9 := h.2.2.2.1.1
  unfold F_X8_unit F_X9_unit F_X7_add
  obtain ⟨hH, hI, hF, hT, hE, hR, hC, hL, hP, hxs, hms, hB⟩ := h
  by_cases c : x.1 2 < 600
  · rw [if_pos c, if_neg (show ¬ (1 : Int) = 0 by decide), if_neg (show ¬ m.1 9 = 600 by omega)]
    repeat' split
    all_goals first
      | exact ⟨rfl, hH, hI, hF, hT, hE, hR, hC, hL, hP, hxs, hms, hB⟩
      | skip
    refine ⟨rfl, hH, hI, hF, ⟨by show x.1 2 + 1 = m.1 9 + 1; omega, ?_⟩, hE, hR, hC, hL, hP, hxs, hms, hB⟩
    exact e1 ▸ hT.2.put (N := 600) (by omega) (by omega) p1
  · rw [if_neg c, if_pos (show (0 : Int) = 0 by decide), if_pos (show m.1 9 = 600 by omega)]
    repeat' split
    all_goals exact ⟨rfl, hH, hI, hF, hT, hE, hR, hC, hL, hP, hxs, hms, hB⟩
theorem q_cap {x m : fS} (h : Rel x m) (p1 p2 : Int) : QQ (F_X8_cap p1 p2 x) (F_X9_cap p1 p2 m) := by
  unfold F_X8_cap F_X9_cap
  rw [show F_X8_isMonth p1 x = F_X9_isMonth p1 m from rfl]
  obtain ⟨hH, hI, hF, hT, hE, hR, hC, hL, hP, hxs, hms, hB⟩ := h
  refine QQ.ite Iff.rfl (fun _ _ => ⟨rfl, hH, hI, hF, hT, hE, hR, hC, hL, hP, hxs, hms, hB⟩) (fun c _ => ?_)
  have b := isMonth_b c
  repeat' split
  all_goals first
    | exact ⟨rfl, hH, hI, hF, hT, hE, hR, hC, hL, hP, hxs, hms, hB⟩
    | skip
  exact ⟨rfl, hH, hI, hF, hT, hE, hR, hC.set (N := 120) b.1 b.2 p2, hL, hP, hxs, hms, hB⟩
theorem q_relief {x m : fS} (h : Rel x m) (hx : xOk x) (hm : mOk m) (p1 p2 p3 p5 : Int) : QQ (F_X8_relief p1 p2 p3 p5 x) (F_X9_relief p1 p2 p3 p5 m) := by
  have k1 : m.1 25 ≤ 8 := (hm.1 25).2
  have k0 : 0 ≤ m.1 25 := (hm.1 25).1
  have e1 : x.1 8 = m.1 25 := h.2.2.2.2.2.1.1
  unfold F_X8_relief F_X9_relief F_X4_add
  rw [q_has h, show F_X8_isKind p2 x = F_X9_isKind p2 m from rfl, show F_X8_isDay p3 x = F_X9_isDay p3 m from rfl, show F_X8_isDay p5 x = F_X9_isDay p5 m from rfl]
  obtain ⟨hH, hI, hF, hT, hE, hR, hC, hL, hP, hxs, hms, hB⟩ := h
  repeat' split
  all_goals first
    | exact ⟨rfl, hH, hI, hF, hT, hE, hR, hC, hL, hP, hxs, hms, hB⟩
    | (exfalso; omega)
    | skip
  refine ⟨rfl, hH, hI, hF, hT, hE, ?_, hC, hL, hP, hxs, hms, hB⟩
  obtain ⟨_, ha, hb, hc, hd⟩ := hR
  have g : ∀ {f f' : Int → Int} (v : Int), Eqb (x.1 8) f f' → Eqb (x.1 8 + 1) (rput 8 f (x.1 8) v) (f_up f' (m.1 25) v) := fun v hf => e1 ▸ hf.put (by omega) (by omega) v
  exact ⟨by show x.1 8 + 1 = m.1 25 + 1; omega, g p1 ha, g p2 hb, g p3 hc, g p5 hd⟩
theorem q_weight {x m : fS} (h : Rel x m) (hx : xOk x) (hm : mOk m) (p1 p2 p3 : Int) : QQ (F_X8_weight p1 p2 p3 x) (F_X9_weight p1 p2 p3 m) := by
  unfold F_X8_weight F_X9_weight
  rw [q_hasFlat h hx]
  have e1 : x.1 0 = m.1 0 := h.1.1
  obtain ⟨hH, hI, hF, hT, hE, hR, hC, hL, hP, hxs, hms, hB⟩ := h
  refine QQ.ite Iff.rfl (fun _ _ => ⟨rfl, hH, hI, hF, hT, hE, hR, hC, hL, hP, hxs, hms, hB⟩) (fun c _ => ?_)
  have b := isFlat_b hm c
  rw [show p1 * 6 + p2 = 6 * p1 + p2 by omega]
  repeat' split
  all_goals first
    | exact ⟨rfl, hH, hI, hF, hT, hE, hR, hC, hL, hP, hxs, hms, hB⟩
    | skip
  refine ⟨rfl, ⟨hH.1, hH.2.1, hH.2.2.1.set (N := 24) (by omega) (by omega) p3, fun i h6 h24 => ?_⟩, hI, hF, hT, hE, hR, hC, hL, hP, hxs, hms, hB⟩
  replace h6 : 6 * x.1 0 ≤ i := h6
  exact (f_up_n _ _ (by omega)).trans (hH.2.2.2 i h6 h24)
theorem q_reverse {x m : fS} (h : Rel x m) (hx : xOk x) (hm : mOk m) (p1 p2 : Int) : QQ (F_X8_reverse p1 p2 x) (F_X9_reverse p1 p2 m) := by
  have k1 : m.1 0 ≤ 4 := (hm.1 0).2
  unfold F_X8_reverse F_X9_reverse F_X3_issuedOf
  rw [q_has h, show F_X8_isMonth p2 x = F_X9_isMonth p2 m from rfl]
  obtain ⟨hH, hI, hF, hT, hE, hR, hC, hL, hP, hxs, hms, hB⟩ := h
  refine QQ.ite Iff.rfl (fun _ _ => ⟨rfl, hH, hI, hF, hT, hE, hR, hC, hL, hP, hxs, hms, hB⟩) (fun c _ => ?_)
  refine QQ.ite Iff.rfl (fun _ _ => ⟨rfl, hH, hI, hF, hT, hE, hR, hC, hL, hP, hxs, hms, hB⟩) (fun c2 _ => ?_)
  have b := isHouse_b c
  have b2 := isMonth_b c2
  rw [show p1 * 120 + p2 = 120 * p1 + p2 by omega, hI.get 480 (by omega) (by omega) (by omega)]
  exact ⟨rfl, hH, hI.set (N := 480) (by omega) (by omega) 0, hF, hT, hE, hR, hC, hL, hP, hxs, hms, hB⟩
theorem q_issued {x m : fS} (h : Rel x m) (hx : xOk x) (hm : mOk m) (p1 p2 : Int) : F_X8_issued p1 p2 x = F_X9_issued p1 p2 m := by
  have k1 : m.1 0 ≤ 4 := (hm.1 0).2
  unfold F_X8_issued F_X9_issued F_X3_issuedOf
  rw [q_has h, show F_X8_isMonth p2 x = F_X9_isMonth p2 m from rfl]
  by_cases c : F_X9_isHouse p1 m = 0
  · rw [if_pos c, if_pos c]
  rw [if_neg c, if_neg c]
  by_cases c2 : F_X9_isMonth p2 m = 0
  · rw [if_pos c2, if_pos c2]
  rw [if_neg c2, if_neg c2]
  have b := isHouse_b c
  have b2 := isMonth_b c2
  rw [show p1 * 120 + p2 = 120 * p1 + p2 by omega, h.2.1.get 480 (by omega) (by omega) (by omega)]
theorem q_write {x m : fS} (h : Rel x m) (p1 : Int) : F_X8_write p1 x = F_X9_write p1 m := by
  unfold F_X8_write F_X2_printedByte F_X9_write
  obtain ⟨e1, e2, e3⟩ := h.2.2.2.2.2.2.2.2.1
  by_cases c : p1 < 0
  · rw [if_pos c, if_pos c]
  rw [if_neg c, if_neg c]
  by_cases c2 : p1 < m.1 41
  · rw [if_neg (by omega), if_pos c2]
    exact e3.get 552 e2 (by omega) (by omega)
  · rw [if_pos (by omega), if_neg c2]
theorem q_line {x m : fS} (h : Rel x m) (hm : mOk m) (p1 p2 : Int) : F_X8_line p1 p2 x = F_X9_line p1 p2 m := by
  have k1 : m.1 36 ≤ 24 := (hm.1 36).2
  unfold F_X8_line F_X9_line F_X2_has F_X2_factOf F_X2_centsOf F_X2_editionOf F_X2_lackOf
  obtain ⟨e1, ha, hb, hc, hd⟩ := h.2.2.2.2.2.2.2.1
  by_cases c : p1 < 0
  · rw [if_pos c, if_pos c]; rfl
  rw [if_neg c, if_neg c]
  by_cases c2 : m.1 36 ≤ p1
  · rw [if_pos (show x.1 9 ≤ p1 by omega), if_pos c2]; rfl
  rw [if_neg (show ¬ x.1 9 ≤ p1 by omega), if_neg c2, if_neg (show ¬ (1 : Int) = 0 by decide)]
  rw [ha.get 24 (by omega) (by omega) (by omega), hb.get 24 (by omega) (by omega) (by omega), hc.get 24 (by omega) (by omega) (by omega), hd.get 24 (by omega) (by omega) (by omega)]
  repeat' split
  all_goals first
    | rfl
    | (exfalso; omega)
theorem ed53 (v1 : Int) (st : fS) : ∀ (n : Nat) (v3 v4 : Int), v4 + n = 6 → F_X9_edition_53 v1 (n + 1) v3 v4 st = v3 + nRul (st.2 17) v1 n v4 := by
  intro n
  induction n with
  | zero => intro v3 v4 hv; rw [F_X9_edition_53, if_pos (by omega), nRul]; omega
  | succ n ih =>
    intro v3 v4 hv
    rw [F_X9_edition_53, if_neg (by omega), nRul, ih (v3 + 0) (v4 + 1) (by omega), ih (v3 + 1) (v4 + 1) (by omega)]
    split <;> omega
theorem q_edition {x m : fS} (h : Rel x m) (hm : mOk m) (p1 p2 : Int) : F_X8_edition p1 p2 x = F_X9_edition p1 p2 m := by
  have k1 : m.1 14 ≤ 6 := (hm.1 14).2
  unfold F_X8_edition F_X9_edition F_X0_has F_X0_actsFrom F_X0_knownFrom F_X0_ruleCount
  obtain ⟨e1, ha, hb, hc, hd⟩ := h.2.2.2.2.1
  by_cases c : p1 < 0
  · rw [if_pos c, if_pos c]; rfl
  rw [if_neg c, if_neg c]
  by_cases c2 : m.1 14 ≤ p1
  · rw [if_pos (show x.1 6 ≤ p1 by omega), if_pos c2]; rfl
  rw [if_neg (show ¬ x.1 6 ≤ p1 by omega), if_neg c2, if_neg (show ¬ (1 : Int) = 0 by decide)]
  have hr : rget 6 (x.2 11) p1 = nRul (m.2 17) p1 6 0 := (rget_in ⟨by omega, by omega⟩).trans (hc p1 (by omega) (by omega))
  rw [ha.get 6 (by omega) (by omega) (by omega), hb.get 6 (by omega) (by omega) (by omega), hr, show Int.toNat (6 - (0 : Int)) + 1 = 6 + 1 from rfl, ed53 p1 m 6 0 0 (by decide)]
  repeat' split
  all_goals first
    | rfl
    | (exfalso; omega)
    | omega
theorem open4 {x m : fS} (h : Rel x m) (hm : mOk m) (v1 : Int) : ∀ (n : Nat) (v2 v3 : Int), 0 ≤ v2 → 0 ≤ v3 → x.1 9 - v3 < n → F_X2_openFact_4 v1 n v2 v3 x = F_X9_open_4 v1 n (v1 - v2) v3 m := by
  have k1 : m.1 36 ≤ 24 := (hm.1 36).2
  obtain ⟨e1, ha, hb, hc, hd⟩ := h.2.2.2.2.2.2.2.1
  intro n
  have neg : v1 < 0 → ∀ (n : Nat) (v2 v3 : Int), 0 ≤ v2 → v3 ≤ x.1 9 ∧ x.1 9 - v3 < n → F_X2_openFact_4 v1 n v2 v3 x = -1 := by
    intro hv n
    induction n with
    | zero => intro v2 v3 h0 h3; omega
    | succ n ih =>
      intro v2 v3 h0 h3
      rw [F_X2_openFact_4]
      split
      · rfl
      · split
        · exact ih _ _ h0 (by omega)
        · rw [if_neg (by omega)]
          exact ih _ _ (by omega) (by omega)
  induction n with
  | zero => intro v2 v3 h0 h3 hn; rfl
  | succ n ih =>
    intro v2 v3 h0 h3 hn
    rw [F_X2_openFact_4, F_X9_open_4]
    by_cases c : x.1 9 ≤ v3
    · rw [if_pos c, if_pos (by omega)]
    rw [if_neg c, if_neg (show ¬ m.1 36 ≤ v3 by omega), ha.get 24 (by omega) h3 (by omega), hd.get 24 (by omega) h3 (by omega)]
    by_cases c1 : v1 < 0
    · rw [if_pos c1]
      split
      · exact neg c1 _ _ _ h0 (by omega)
      · rw [if_neg (by omega)]
        exact neg c1 _ _ _ (by omega) (by omega)
    rw [if_neg c1]
    by_cases c2 : m.2 40 v3 = 0
    · rw [if_pos c2, if_pos c2]; exact ih _ _ h0 (by omega) (by omega)
    rw [if_neg c2, if_neg c2]
    by_cases c3 : v2 = v1
    · rw [if_pos c3, if_pos (by omega)]
    rw [if_neg c3, if_neg (by omega), show v1 - v2 + -1 = v1 - (v2 + 1) by omega]
    exact ih _ _ (by omega) (by omega) (by omega)
theorem q_open {x m : fS} (h : Rel x m) (hm : mOk m) (p1 : Int) : F_X8_open p1 x = F_X9_open p1 m := by
  unfold F_X8_open F_X2_openFact F_X9_open
  have e1 := h.2.2.2.2.2.2.2.1.1
  have k0 : 0 ≤ m.1 36 := (hm.1 36).1
  rw [← e1]
  refine (open4 h hm p1 _ 0 0 (by omega) (by omega) (by omega)).trans ?_
  rw [show p1 - 0 = p1 by omega]
