/-! ===== PART 60: what the class's state and the reference's have in common ===== -/
def Eqb (n : Int) (f g : Int → Int) : Prop := ∀ i : Int, 0 ≤ i → i < n → f i = g i
theorem Eqb.mono {n k : Int} {f g : Int → Int} (h : Eqb n f g) (hk : k ≤ n) : Eqb k f g := fun i h0 h1 => h i h0 (by omega)
theorem Eqb.get {n : Int} {f g : Int → Int} (h : Eqb n f g) (N : Int) (hN : n ≤ N) {i : Int} (h0 : 0 ≤ i) (h1 : i < n) : rget N f i = g i := (rget_in ⟨h0, by omega⟩).trans (h i h0 h1)
theorem Eqb.put {n : Int} {f g : Int → Int} (h : Eqb n f g) {N : Int} (h0 : 0 ≤ n) (hN : n < N) (v : Int) : Eqb (n + 1) (rput N f n v) (f_up g n v) := by
  rw [rput_in v ⟨h0, hN⟩]
  intro i hi0 hi1
  by_cases e : i = n
  · subst e; rw [f_up_s, f_up_s]
  · rw [f_up_n _ _ e, f_up_n _ _ e]; exact h i hi0 (by omega)
theorem Eqb.set {n : Int} {f g : Int → Int} (h : Eqb n f g) {N i : Int} (h0 : 0 ≤ i) (hN : i < N) (v : Int) : Eqb n (rput N f i v) (f_up g i v) := by
  rw [rput_in v ⟨h0, hN⟩]
  intro j hj0 hj1
  by_cases e : j = i
  · subst e; rw [f_up_s, f_up_s]
  · rw [f_up_n _ _ e, f_up_n _ _ e]; exact h j hj0 hj1
def gH (n : Int) (f w : Int → Int) (n' : Int) (f' w' : Int → Int) : Prop := n = n' ∧ Eqb n f f' ∧ Eqb (6 * n) w w' ∧ ∀ i : Int, 6 * n ≤ i → i < 24 → w' i = 1
def gF (n : Int) (a b c d e : Int → Int) (n' : Int) (a' b' c' d' e' : Int → Int) : Prop := n = n' ∧ Eqb n a a' ∧ Eqb n b b' ∧ Eqb n c c' ∧ Eqb n d d' ∧ Eqb n e e'
def gT (n : Int) (f : Int → Int) (n' : Int) (f' : Int → Int) : Prop := n = n' ∧ Eqb n f f'
def gR (n : Int) (a b c d : Int → Int) (n' : Int) (a' b' c' d' : Int → Int) : Prop := n = n' ∧ Eqb n a a' ∧ Eqb n b b' ∧ Eqb n c c' ∧ Eqb n d d'
def gP (n : Int) (f : Int → Int) (n' : Int) (f' : Int → Int) : Prop := n = n' ∧ n ≤ 552 ∧ Eqb n f f'
/-- a rule of a cell -/
def gRule (c : Int) (per price cap fst cnt ss sp : Int → Int) (is per' price' cap' cnt' ss' sp' : Int → Int) : Prop := (is c = 0 ∧ per c = -1) ∨ (is c = 1 ∧ per c = per' c ∧ 0 ≤ per' c ∧ price c = price' c ∧ cap c = cap' c ∧ cnt c = cnt' c ∧ ∀ i : Int, 0 ≤ i → i < cnt' c → ss (fst c + i) = ss' (100 * c + i) ∧ sp (fst c + i) = sp' (100 * c + i))
/-- how many rules a row of flags has, from k on -/
def nRul (is : Int → Int) (e : Int) : Nat → Int → Int
  | 0, _ => 0
  | n + 1, k => (if is (6 * e + k) = 0 then 0 else 1) + nRul is e n (k + 1)
def gE (n : Int) (fr kn rc per price cap fst cnt ss sp : Int → Int) (n' : Int) (fr' kn' is per' price' cap' cnt' ss' sp' : Int → Int) : Prop := n = n' ∧ Eqb n fr fr' ∧ Eqb n kn kn' ∧ (∀ e : Int, 0 ≤ e → e < n → rc e = nRul is e 6 0) ∧ ∀ c : Int, 0 ≤ c → c < 6 * n → gRule c per price cap fst cnt ss sp is per' price' cap' cnt' ss' sp'
/-- the steps of what is kept lie below the drafts' -/
def gS (n : Int) (per fst cnt : Int → Int) : Prop := ∀ c : Int, 0 ≤ c → c < 6 * n → per c ≠ -1 → fst c + cnt c ≤ 66 * n
def Rel (x m : fS) : Prop := gH (x.1 0) (x.2 0) (x.2 1) (m.1 0) (m.2 1) (m.2 2) ∧ Eqb 480 (x.2 2) (m.2 30) ∧ gF (x.1 1) (x.2 3) (x.2 4) (x.2 5) (x.2 6) (x.2 7) (m.1 3) (m.2 4) (m.2 5) (m.2 6) (m.2 7) (m.2 8) ∧ gT (x.1 2) (x.2 8) (m.1 9) (m.2 10) ∧ gE (x.1 6) (x.2 9) (x.2 10) (x.2 11) (x.2 12) (x.2 13) (x.2 14) (x.2 15) (x.2 16) (x.2 17) (x.2 18) (m.1 14) (m.2 15) (m.2 16) (m.2 17) (m.2 18) (m.2 19) (m.2 20) (m.2 21) (m.2 22) (m.2 23) ∧ gR (x.1 8) (x.2 19) (x.2 20) (x.2 21) (x.2 22) (m.1 25) (m.2 26) (m.2 27) (m.2 28) (m.2 29) ∧ Eqb 120 (x.2 23) (m.2 24) ∧ gR (x.1 9) (x.2 24) (x.2 25) (x.2 26) (x.2 27) (m.1 36) (m.2 37) (m.2 38) (m.2 39) (m.2 40) ∧ gP (x.1 10) (x.2 28) (m.1 41) (m.2 42) ∧ xSteps x ∧ mSteps m ∧ (0 ≤ x.1 5 ∧ x.1 5 ≤ 10000) ∧ gS (x.1 6) (x.2 12) (x.2 15) (x.2 16)
/-- one answer, and states that go together -/
def QQ (z w : Int × fS) : Prop := z.1 = w.1 ∧ Rel z.2 w.2
theorem QQ.ite {c d : Prop} [Decidable c] [Decidable d] {a a' b b' : Int × fS} (hcd : c ↔ d) (h1 : c → d → QQ a b) (h2 : ¬ c → ¬ d → QQ a' b') : QQ (if c then a else a') (if d then b else b') := by
  by_cases h : c
  · rw [if_pos h, if_pos (hcd.mp h)]; exact h1 h (hcd.mp h)
  · have : ¬ d := fun hd => h (hcd.mpr hd)
    rw [if_neg h, if_neg this]; exact h2 h this
theorem q_has {x m : fS} (h : Rel x m) (p1 : Int) : F_X3_has p1 x = F_X9_isHouse p1 m := by
  unfold F_X3_has F_X9_isHouse
  rw [h.1.1]
theorem isHouse_b {m : fS} {p1 : Int} (h : ¬ F_X9_isHouse p1 m = 0) : 0 ≤ p1 ∧ p1 < m.1 0 := by
  unfold F_X9_isHouse at h
  by_cases c1 : p1 < 0
  · rw [if_pos c1] at h; exact absurd rfl h
  · rw [if_neg c1] at h
    by_cases c2 : m.1 0 ≤ p1
    · rw [if_pos c2] at h; exact absurd rfl h
    · omega
theorem q_hasFlat {x m : fS} (h : Rel x m) (hx : xOk x) (p1 p2 : Int) : F_X3_hasFlat p1 p2 x = F_X9_isFlat p1 p2 m := by
  unfold F_X3_hasFlat F_X9_isFlat
  rw [q_has h]
  by_cases c : F_X9_isHouse p1 m = 0
  · rw [if_pos c, if_pos c]
  · have b := isHouse_b c
    have k0 := (hx.1 0).2
    have e0 := h.1.1
    have hg : rget 4 (x.2 0) p1 = m.2 1 p1 := h.1.2.1.get 4 k0 b.1 (by omega)
    rw [if_neg c, if_neg c, hg]
theorem isFlat_b {m : fS} (hm : mOk m) {p1 p2 : Int} (h : ¬ F_X9_isFlat p1 p2 m = 0) : (0 ≤ p1 ∧ p1 < m.1 0) ∧ 0 ≤ p2 ∧ p2 < m.2 1 p1 ∧ p2 < 6 ∧ p1 < 4 := by
  unfold F_X9_isFlat at h
  by_cases c : F_X9_isHouse p1 m = 0
  · rw [if_pos c] at h; exact absurd rfl h
  · have b := isHouse_b c
    rw [if_neg c] at h
    have k1 := hm.2 1 p1
    have k2 := hm.1 0
    have k3 : m.2 1 p1 ≤ 6 := k1.2
    have k4 : m.1 0 ≤ 4 := k2.2
    by_cases c1 : p2 < 0
    · rw [if_pos c1] at h; exact absurd rfl h
    · rw [if_neg c1] at h
      by_cases c2 : m.2 1 p1 ≤ p2
      · rw [if_pos c2] at h; exact absurd rfl h
      · omega
theorem isMonth_b {m : fS} {p : Int} (h : ¬ F_X9_isMonth p m = 0) : 0 ≤ p ∧ p < 120 := by
  unfold F_X9_isMonth at h
  by_cases c1 : p < 0
  · rw [if_pos c1] at h; exact absurd rfl h
  · rw [if_neg c1] at h
    by_cases c2 : 120 ≤ p
    · rw [if_pos c2] at h; exact absurd rfl h
    · omega
theorem q_fact {x m : fS} (h : Rel x m) (hx : xOk x) (hm : mOk m) (p1 p2 p3 p5 p7 : Int) : QQ (F_X8_fact p1 p2 p3 p5 p7 x) (F_X9_fact p1 p2 p3 p5 p7 m) := by
  have k1 : m.1 3 ≤ 24 := (hm.1 3).2
  have k0 : 0 ≤ m.1 3 := (hm.1 3).1
  have e1 := h.2.2.1.1
  unfold F_X8_fact F_X9_fact F_X1_add
  rw [q_has h, show F_X8_isKind p2 x = F_X9_isKind p2 m from rfl, show F_X8_isDay p3 x = F_X9_isDay p3 m from rfl, show F_X8_isDay p7 x = F_X9_isDay p7 m from rfl]
  obtain ⟨hH, hI, hF, hT, hE, hR, hC, hL, hP, hxs, hms, hB⟩ := h
  repeat' split
  all_goals first
    | exact ⟨rfl, hH, hI, hF, hT, hE, hR, hC, hL, hP, hxs, hms, hB⟩
    | (exfalso; omega)
    | skip
  refine ⟨by show x.1 1 = m.1 3 + 1 - 1; omega, hH, hI, ?_, hT, hE, hR, hC, hL, hP, hxs, hms, hB⟩
  obtain ⟨_, ha, hb, hc, hd, he⟩ := hF
  have g : ∀ {f f' : Int → Int} (v : Int), Eqb (x.1 1) f f' → Eqb (x.1 1 + 1) (rput 24 f (x.1 1) v) (f_up f' (m.1 3) v) := fun v hf => e1 ▸ hf.put (by omega) (by omega) v
  exact ⟨by show x.1 1 + 1 = m.1 3 + 1; omega, g p1 ha, g p2 hb, g p3 hc, g p5 hd, g p7 he⟩
