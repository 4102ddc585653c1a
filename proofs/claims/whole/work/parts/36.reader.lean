/-! ===== PART 36: the reader (laid by program) ===== -/
theorem tnw57_k : ∀ (n : Nat) (st : fS), (∀ k, k ≠ 4 → k ≠ 5 → (F_X7_toNextWord_57 n st).1 k = st.1 k) ∧ (F_X7_toNextWord_57 n st).2 = st.2 ∧ (F_X7_toNextWord_57 n st).1 5 ≤ st.1 5 + 1 ∧ st.1 5 ≤ (F_X7_toNextWord_57 n st).1 5 := by
  intro n
  induction n with
  | zero => intro st; rw [F_X7_toNextWord_57]; exact ⟨fun _ _ _ => rfl, rfl, by omega, by omega⟩
  | succ n ih =>
    intro st
    rw [F_X7_toNextWord_57]
    have fin : (∀ k, k ≠ 4 → k ≠ 5 → (sN st 5 ((st.1 5) + 1)).1 k = st.1 k) ∧ (sN st 5 ((st.1 5) + 1)).2 = st.2 ∧ (sN st 5 ((st.1 5) + 1)).1 5 ≤ st.1 5 + 1 ∧ st.1 5 ≤ (sN st 5 ((st.1 5) + 1)).1 5 := ⟨fun k _ h => sN_1n _ _ h, rfl, by rw [sN_1s]; omega, by rw [sN_1s]; omega⟩
    by_cases c1 : st.1 2 ≤ st.1 4
    · rw [if_pos c1]; exact fin
    rw [if_neg c1]
    by_cases c2 : F_X7_isBlank (rget 600 (st.2 8) (st.1 4)) st = 0
    · rw [if_pos c2]
      obtain ⟨i1, i2, i3, i4⟩ := ih (sN st 4 ((st.1 4) + 1))
      have e5 : (sN st 4 ((st.1 4) + 1)).1 5 = st.1 5 := sN_1n _ _ (by decide)
      exact ⟨fun k h4 h5 => (i1 k h4 h5).trans (sN_1n _ _ h4), i2, by omega, by omega⟩
    · rw [if_neg c2]; exact fin
theorem tnw8_k : ∀ (n : Nat) (st : fS), (∀ k, k ≠ 3 → k ≠ 4 → k ≠ 5 → (F_X7_toNextWord_8 n st).1 k = st.1 k) ∧ (F_X7_toNextWord_8 n st).2 = st.2 ∧ (F_X7_toNextWord_8 n st).1 5 ≤ st.1 5 + 1 ∧ st.1 5 ≤ (F_X7_toNextWord_8 n st).1 5 := by
  intro n
  induction n with
  | zero => intro st; rw [F_X7_toNextWord_8]; exact ⟨fun _ _ _ _ => rfl, rfl, by omega, by omega⟩
  | succ n ih =>
    intro st
    rw [F_X7_toNextWord_8]
    have fin : ∀ (f : Nat) (v : Int), (∀ k, k ≠ 3 → k ≠ 4 → k ≠ 5 → (F_X7_toNextWord_57 f (sN st 4 v)).1 k = st.1 k) ∧ (F_X7_toNextWord_57 f (sN st 4 v)).2 = st.2 ∧ (F_X7_toNextWord_57 f (sN st 4 v)).1 5 ≤ st.1 5 + 1 ∧ st.1 5 ≤ (F_X7_toNextWord_57 f (sN st 4 v)).1 5 := by
      intro f v
      obtain ⟨i1, i2, i3, i4⟩ := tnw57_k f (sN st 4 v)
      have e5 : (sN st 4 v).1 5 = st.1 5 := sN_1n _ _ (by decide)
      exact ⟨fun k _ h4 h5 => (i1 k h4 h5).trans (sN_1n _ _ h4), i2, by omega, by omega⟩
    by_cases c1 : st.1 2 ≤ st.1 3
    · rw [if_pos c1]; exact fin _ _
    rw [if_neg c1]
    by_cases c2 : F_X7_isBlank (rget 600 (st.2 8) (st.1 3)) st = 0
    · rw [if_pos c2]; exact fin _ _
    · rw [if_neg c2]
      obtain ⟨i1, i2, i3, i4⟩ := ih (sN st 3 ((st.1 3) + 1))
      have e5 : (sN st 3 ((st.1 3) + 1)).1 5 = st.1 5 := sN_1n _ _ (by decide)
      exact ⟨fun k h3 h4 h5 => (i1 k h3 h4 h5).trans (sN_1n _ _ h3), i2, by omega, by omega⟩
/-- what a step of the mark leaves as it was; how far it counts -/
def tKeep (j : Int) (st u : fS) : Prop := (∀ k, k ≠ 3 → k ≠ 4 → k ≠ 5 → u.1 k = st.1 k) ∧ u.2 = st.2 ∧ u.1 5 ≤ st.1 5 + j ∧ st.1 5 ≤ u.1 5
theorem tnw_k (st : fS) : tKeep 1 st (F_X7_toNextWord st) := by
  rw [F_X7_toNextWord]
  obtain ⟨i1, i2, i3, i4⟩ := tnw8_k (Int.toNat (1200 - (st.1 4)) + 1) (sN st 3 (st.1 4))
  have e5 : (sN st 3 (st.1 4)).1 5 = st.1 5 := sN_1n _ _ (by decide)
  exact ⟨fun k h3 h4 h5 => (i1 k h3 h4 h5).trans (sN_1n _ _ h3), i2, by omega, by omega⟩
theorem tkw_k (i : Nat) (st : fS) : True := trivial

def F_X6_takeWord (p1 : Nat) (st : fS) : Int × fS := if (F_X7_isWord p1 st) = 0 then (0, st) else (1, F_X7_toNextWord st)
abbrev rm_X6_takeWord : Room := { frames := 5, cells := 0, slots := 0, locals := 107 }
set_option maxRecDepth 100000 in
set_option maxHeartbeats 8000000 in
theorem c_X6_takeWord {l : Launch} {D : va_G} {cI cJ cZ cB : ClassId} {a : Nat → Nat} {E : State → Prop} (hX : xHyp a E) {adK adV : Nat → Nat} {fv : Option Nat} (hES : ∀ U, E U → xE adK adV fv (xA a) U) (p1 : Nat) (h1 : p1 < 5) (st : fS) (q5 : 0 ≤ st.1 5 ∧ st.1 5 ≤ 900000) : xMi l D cI cJ cZ cB a E yX6_takeWord wsX6_takeWord rm_X6_takeWord [.ref (a 5), .ref (adK p1)] st (fun z u => z = (F_X6_takeWord p1 st).1 ∧ u = (F_X6_takeWord p1 st).2 ∧ ((z = 1 ∧ st.1 3 < st.1 4) ∨ z = 0)) := by
  refine fB_open (cc := cX6_takeWord) (maxL := 2) (ret := (some .boolean)) (by decide) rfl (Nat.le_of_ble_eq_true rfl) hX.2 ?_
  intro p e s m below meth c C hret hlk
  have hin6 : ∀ w ∈ u_ws RX6 TX6 2, w ∈ wsX6_takeWord := by decide +kernel
  have hp : ∀ (z : Int) (u : fS), z = (F_X6_takeWord p1 st).1 → u = (F_X6_takeWord p1 st).2 → ((z = 1 ∧ st.1 3 < st.1 4) ∨ z = 0) → z = (F_X6_takeWord p1 st).1 ∧ u = (F_X6_takeWord p1 st).2 ∧ ((z = 1 ∧ st.1 3 < st.1 4) ∨ z = 0) := fun z u h1 h2 r1 => ⟨h1, h2, r1⟩
  refine f_aload_n C 0 dX6_takeWord_0 rfl rfl ?_
  refine f_get C hin6 5 0 rfl rfl (Nat.le_of_ble_eq_true rfl) (by decide +kernel) rfl rfl dX6_takeWord_1 ?_
  refine f_aload_n C 1 dX6_takeWord_4 rfl rfl ?_
  refine f_calli C (c_X7_isWord hX hES p1 (by assumption) st) (cwV 1 C.1.2.2.2.2 gX6_takeWord_X7_isWord rfl rfl rfl (by decide +kernel) ⟨Nat.le_of_ble_eq_true rfl, Nat.le_of_ble_eq_true rfl⟩) 3 rfl rfl rfl rfl rfl (Nat.le_of_ble_eq_true rfl) ⟨Nat.zero_le _, Nat.zero_le _⟩ dX6_takeWord_5 (fun z u hz1 hu => ?_)
  obtain ⟨qz1, hu, rz1⟩ := hu; replace hu := hu.symm; subst hu; subst qz1
  refine f_if_ne C 13 ⟨by omega, by omega⟩ dX6_takeWord_8 (by decide) (fun c2 => ?_) (fun c2 => ?_)
  · refine f_aload_n C 0 dX6_takeWord_13 rfl rfl ?_
    refine f_get C hin6 5 0 rfl rfl (Nat.le_of_ble_eq_true rfl) (by decide +kernel) rfl rfl dX6_takeWord_14 ?_
    refine f_ok (fun hO3 => ?_)
    have k4 : (-1000000000) ≤ st.1 5 ∧ st.1 5 ≤ 1000000000 := hO3.1 5
    refine f_callv C (c_X7_toNextWord hX st (show 0 ≤ (st.1 5) ∧ (st.1 5) ≤ 1000000 by omega)) (cwV 0 C.1.2.2.2.2 gX6_takeWord_X7_toNextWord rfl rfl rfl (by decide +kernel) ⟨Nat.le_of_ble_eq_true rfl, Nat.le_of_ble_eq_true rfl⟩) 3 rfl rfl rfl rfl rfl (Nat.le_of_ble_eq_true rfl) ⟨Nat.zero_le _, Nat.zero_le _⟩ dX6_takeWord_17 (fun u hu => ?_)
    replace hu := hu.symm; subst hu
    have k6 : (F_X7_toNextWord st).1 5 ≤ st.1 5 + 1 ∧ st.1 5 ≤ (F_X7_toNextWord st).1 5 := (tnw_k st).2.2
    refine f_iconst C dX6_takeWord_20 ?_
    exact f_zret C hret hlk dX6_takeWord_21 (by decide) (hp _ _ (by rw [F_X6_takeWord, if_neg c2]) (by rw [F_X6_takeWord, if_neg c2]) (by omega))
  refine f_iconst C dX6_takeWord_11 ?_
  exact f_zret C hret hlk dX6_takeWord_12 (by decide) (hp _ _ (by rw [F_X6_takeWord, if_pos c2]) (by rw [F_X6_takeWord, if_pos c2]) (by omega))

theorem tKeep.rf (st : fS) : tKeep 1 st st := ⟨fun _ _ _ _ => rfl, rfl, by omega, by omega⟩
theorem tkw_k2 (i : Nat) (st : fS) : tKeep 1 st (F_X6_takeWord i st).2 := by
  rw [F_X6_takeWord]
  by_cases c : F_X7_isWord i st = 0
  · rw [if_pos c]; exact tKeep.rf st
  · rw [if_neg c]; exact tnw_k st
theorem xSC_eq {k : Int} {st u : fS} (h6 : u.1 6 = st.1 6) (h16 : u.2 16 = st.2 16) : xSC k u = xSC k st := by
  show rget 36 (u.2 16) (u.1 6 * 6 + k) = rget 36 (st.2 16) (st.1 6 * 6 + k)
  rw [h6, h16]
theorem xSC_k {j : Int} {st u : fS} (h : tKeep j st u) (k : Int) : xSC k u = xSC k st := xSC_eq (h.1 6 (by decide) (by decide) (by decide)) (by rw [h.2.1])
theorem xSC_step (k s p : Int) (st : fS) : xSC k (F_X0_tellStep k s p st) ≤ xSC k st + 1 := by
  have e : xSC k (F_X0_tellStep k s p st) = rget 36 (rput 36 (st.2 16) (st.1 6 * 6 + k) (rget 36 (st.2 16) (st.1 6 * 6 + k) + 1)) (st.1 6 * 6 + k) := rfl
  have e2 : xSC k st = rget 36 (st.2 16) (st.1 6 * 6 + k) := rfl
  rw [e, e2]
  by_cases h : 0 ≤ st.1 6 * 6 + k ∧ st.1 6 * 6 + k < 36
  · rw [rget_in h, rget_in h, rput_in _ h, f_up_s]; omega
  · rw [rget_out h, rget_out h]; omega
theorem xSC_rule (k s p : Int) (st : fS) : xSC k (F_X0_tellRule k s p st) ≤ 0 := by
  have e : xSC k (F_X0_tellRule k s p st) = rget 36 (rput 36 (st.2 16) (st.1 6 * 6 + k) 0) (st.1 6 * 6 + k) := rfl
  rw [e]
  by_cases h : 0 ≤ st.1 6 * 6 + k ∧ st.1 6 * 6 + k < 36
  · rw [rget_in h, rput_in _ h, f_up_s]; omega
  · rw [rget_out h]; omega

def F_X6_takeNumberAbove (p1 : Int) (st : fS) : Int × fS := if p1 < (F_X7_asNumber st) then (F_X7_asNumber st, F_X7_toNextWord st) else ((-1), st)
abbrev rm_X6_takeNumberAbove : Room := { frames := 2, cells := 0, slots := 0, locals := 46 }
set_option maxRecDepth 100000 in
set_option maxHeartbeats 8000000 in
theorem c_X6_takeNumberAbove {l : Launch} {D : va_G} {cI cJ cZ cB : ClassId} {a : Nat → Nat} {E : State → Prop} (hX : xHyp a E) (p1 : Int) (h1 : in64 p1) (st : fS) (q5 : 0 ≤ st.1 5 ∧ st.1 5 ≤ 900000) : xMl l D cI cJ cZ cB a E yX6_takeNumberAbove wsX6_takeNumberAbove rm_X6_takeNumberAbove [.ref (a 5), .long (zJ p1)] st (fun z u => z = (F_X6_takeNumberAbove p1 st).1 ∧ u = (F_X6_takeNumberAbove p1 st).2 ∧ (z = -1 ∨ (p1 < z ∧ z ≤ 999999))) := by
  refine fB_open (cc := cX6_takeNumberAbove) (maxL := 5) (ret := (some .long)) (by decide) rfl (Nat.le_of_ble_eq_true rfl) hX.2 ?_
  intro p e s m below meth c C hret hlk
  have hin6 : ∀ w ∈ u_ws RX6 TX6 2, w ∈ wsX6_takeNumberAbove := by decide +kernel
  have hp : ∀ (z : Int) (u : fS), z = (F_X6_takeNumberAbove p1 st).1 → u = (F_X6_takeNumberAbove p1 st).2 → (z = -1 ∨ (p1 < z ∧ z ≤ 999999)) → z = (F_X6_takeNumberAbove p1 st).1 ∧ u = (F_X6_takeNumberAbove p1 st).2 ∧ (z = -1 ∨ (p1 < z ∧ z ≤ 999999)) := fun z u h1 h2 r1 => ⟨h1, h2, r1⟩
  refine f_aload_n C 0 dX6_takeNumberAbove_0 rfl rfl ?_
  refine f_get C hin6 5 0 rfl rfl (Nat.le_of_ble_eq_true rfl) (by decide +kernel) rfl rfl dX6_takeNumberAbove_1 ?_
  refine f_calll C (c_X7_asNumber hX st) (cwV 0 C.1.2.2.2.2 gX6_takeNumberAbove_X7_asNumber rfl rfl rfl (by decide +kernel) ⟨Nat.le_of_ble_eq_true rfl, Nat.le_of_ble_eq_true rfl⟩) 3 rfl rfl rfl rfl rfl (Nat.le_of_ble_eq_true rfl) ⟨Nat.zero_le _, Nat.zero_le _⟩ dX6_takeNumberAbove_4 (fun z u hz1 hu => ?_)
  obtain ⟨qz1, hu, rz1⟩ := hu; replace hu := hu.symm; subst hu; subst qz1
  refine f_lstore_n C 3 (lv' := [(3, .long (zJ (F_X7_asNumber st))), (0, .ref (a 5)), (1, .long (zJ p1))]) dX6_takeNumberAbove_7 rfl (Nat.le_of_ble_eq_true rfl) rfl ?_
  refine f_lload_n C 3 dX6_takeNumberAbove_8 rfl rfl ?_
  refine f_lload_n C 1 dX6_takeNumberAbove_9 rfl rfl ?_
  refine f_lc_if_gt C 18 ⟨by omega, by omega⟩ ⟨by omega, by omega⟩ dX6_takeNumberAbove_10 dX6_takeNumberAbove_11 (by decide) (fun c2 => ?_) (fun c2 => ?_)
  · refine f_aload_n C 0 dX6_takeNumberAbove_18 rfl rfl ?_
    refine f_get C hin6 5 0 rfl rfl (Nat.le_of_ble_eq_true rfl) (by decide +kernel) rfl rfl dX6_takeNumberAbove_19 ?_
    refine f_ok (fun hO3 => ?_)
    have k4 : (-1000000000) ≤ st.1 5 ∧ st.1 5 ≤ 1000000000 := hO3.1 5
    refine f_callv C (c_X7_toNextWord hX st (show 0 ≤ (st.1 5) ∧ (st.1 5) ≤ 1000000 by omega)) (cwV 0 C.1.2.2.2.2 gX6_takeNumberAbove_X7_toNextWord rfl rfl rfl (by decide +kernel) ⟨Nat.le_of_ble_eq_true rfl, Nat.le_of_ble_eq_true rfl⟩) 3 rfl rfl rfl rfl rfl (Nat.le_of_ble_eq_true rfl) ⟨Nat.zero_le _, Nat.zero_le _⟩ dX6_takeNumberAbove_22 (fun u hu => ?_)
    replace hu := hu.symm; subst hu
    have k6 : (F_X7_toNextWord st).1 5 ≤ st.1 5 + 1 ∧ st.1 5 ≤ (F_X7_toNextWord st).1 5 := (tnw_k st).2.2
    have k7 : (F_X7_toNextWord st).1 7 = st.1 7 := (tnw_k st).1 7 (by decide) (by decide) (by decide)
    have k8 : (F_X7_toNextWord st).1 6 = st.1 6 := (tnw_k st).1 6 (by decide) (by decide) (by decide)
    refine f_lload_n C 3 dX6_takeNumberAbove_25 rfl rfl ?_
    exact f_lret C hret hlk dX6_takeNumberAbove_26 ⟨by omega, by omega⟩ (hp _ _ (by rw [F_X6_takeNumberAbove, if_pos c2]) (by rw [F_X6_takeNumberAbove, if_pos c2]) (by omega))
  refine f_ldc2 C (v := (-1)) (z := (-1)) (by decide +kernel) (by decide) dX6_takeNumberAbove_14 ?_
  exact f_lret C hret hlk dX6_takeNumberAbove_17 ⟨by decide, by decide⟩ (hp _ _ (by rw [F_X6_takeNumberAbove, if_neg c2]) (by rw [F_X6_takeNumberAbove, if_neg c2]) (by omega))

theorem tna_k (v : Int) (st : fS) : tKeep 1 st (F_X6_takeNumberAbove v st).2 := by
  rw [F_X6_takeNumberAbove]
  by_cases c : v < F_X7_asNumber st
  · rw [if_pos c]; exact tnw_k st
  · rw [if_neg c]; exact tKeep.rf st

def F_X6_takePrice (p1 : Int) (st : fS) : Int × fS := if ((F_X6_takeWord 1 st).1) = 0 then (0, (F_X6_takeWord 1 st).2) else (if ((F_X6_takeNumberAbove (-1) ((F_X6_takeWord 1 st).2)).1) = (-1) then (0, (F_X6_takeNumberAbove (-1) ((F_X6_takeWord 1 st).2)).2) else (if ((F_X6_takeWord 2 ((F_X6_takeNumberAbove (-1) ((F_X6_takeWord 1 st).2)).2)).1) = 0 then (0, (F_X6_takeWord 2 ((F_X6_takeNumberAbove (-1) ((F_X6_takeWord 1 st).2)).2)).2) else (if ((F_X6_takeNumberAbove (-1) ((F_X6_takeWord 2 ((F_X6_takeNumberAbove (-1) ((F_X6_takeWord 1 st).2)).2)).2)).1) = (-1) then (0, (F_X6_takeNumberAbove (-1) ((F_X6_takeWord 2 ((F_X6_takeNumberAbove (-1) ((F_X6_takeWord 1 st).2)).2)).2)).2) else (1, F_X0_tellRule p1 ((F_X6_takeNumberAbove (-1) ((F_X6_takeWord 1 st).2)).1) ((F_X6_takeNumberAbove (-1) ((F_X6_takeWord 2 ((F_X6_takeNumberAbove (-1) ((F_X6_takeWord 1 st).2)).2)).2)).1) ((F_X6_takeNumberAbove (-1) ((F_X6_takeWord 2 ((F_X6_takeNumberAbove (-1) ((F_X6_takeWord 1 st).2)).2)).2)).2)))))
abbrev rm_X6_takePrice : Room := { frames := 6, cells := 0, slots := 0, locals := 128 }
set_option maxRecDepth 100000 in
set_option maxHeartbeats 8000000 in
theorem c_X6_takePrice {l : Launch} {D : va_G} {cI cJ cZ cB : ClassId} {a : Nat → Nat} {E : State → Prop} (hX : xHyp a E) {adK adV : Nat → Nat} {fv : Option Nat} (hES : ∀ U, E U → xE adK adV fv (xA a) U) (p1 : Int) (h1 : in32 p1) (st : fS) (q1 : 0 ≤ p1 ∧ p1 ≤ 5) (q5 : 0 ≤ st.1 5 ∧ st.1 5 ≤ 800000) (q7 : 0 ≤ st.1 7 ∧ st.1 7 ≤ 100000) : xMi l D cI cJ cZ cB a E yX6_takePrice wsX6_takePrice rm_X6_takePrice [.ref (a 5), .int (zI p1)] st (fun z u => z = (F_X6_takePrice p1 st).1 ∧ u = (F_X6_takePrice p1 st).2 ∧ (z = 0 ∨ z = 1)) := by
  refine fB_open (cc := cX6_takePrice) (maxL := 6) (ret := (some .boolean)) (by decide) rfl (Nat.le_of_ble_eq_true rfl) hX.2 ?_
  intro p e s m below meth c C hret hlk
  have hin6 : ∀ w ∈ u_ws RX6 TX6 2, w ∈ wsX6_takePrice := by decide +kernel
  have hp : ∀ (z : Int) (u : fS), z = (F_X6_takePrice p1 st).1 → u = (F_X6_takePrice p1 st).2 → (z = 0 ∨ z = 1) → z = (F_X6_takePrice p1 st).1 ∧ u = (F_X6_takePrice p1 st).2 ∧ (z = 0 ∨ z = 1) := fun z u h1 h2 r1 => ⟨h1, h2, r1⟩
  refine f_aload_n C 0 dX6_takePrice_0 rfl rfl ?_
  refine f_ldcS C (hES s C.2.2.1).2.1.2.1 dX6_takePrice_1 ?_
  refine f_ok (fun hO1 => ?_)
  have k2 : (-1000000000) ≤ st.1 5 ∧ st.1 5 ≤ 1000000000 := hO1.1 5
  refine f_calli C (c_X6_takeWord hX hES 1 (by decide) st (show 0 ≤ (st.1 5) ∧ (st.1 5) ≤ 900000 by omega)) (cwV 1 C.1.2.2.2.2 gX6_takePrice_X6_takeWord rfl rfl rfl (by decide +kernel) ⟨Nat.le_of_ble_eq_true rfl, Nat.le_of_ble_eq_true rfl⟩) 5 rfl rfl rfl rfl rfl (Nat.le_of_ble_eq_true rfl) ⟨Nat.zero_le _, Nat.zero_le _⟩ dX6_takePrice_3 (fun z u hz3 hu => ?_)
  obtain ⟨qz3, hu, rz3⟩ := hu; replace hu := hu.symm; subst hu; subst qz3
  have k4 : ((F_X6_takeWord 1 st).2).1 5 ≤ st.1 5 + 1 ∧ st.1 5 ≤ ((F_X6_takeWord 1 st).2).1 5 := (tkw_k2 1 st).2.2
  have k5 : ((F_X6_takeWord 1 st).2).1 7 = st.1 7 := (tkw_k2 1 st).1 7 (by decide) (by decide) (by decide)
  have k6 : ((F_X6_takeWord 1 st).2).1 6 = st.1 6 := (tkw_k2 1 st).1 6 (by decide) (by decide) (by decide)
  have k7 : xSC p1 ((F_X6_takeWord 1 st).2) = xSC p1 st := xSC_k (tkw_k2 1 st) p1
  refine f_if_ne C 11 ⟨by omega, by omega⟩ dX6_takePrice_6 (by decide) (fun c8 => ?_) (fun c8 => ?_)
  · refine f_aload_n C 0 dX6_takePrice_11 rfl rfl ?_
    refine f_ldc2 C (v := (-1)) (z := (-1)) (by decide +kernel) (by decide) dX6_takePrice_12 ?_
    refine f_ok (fun hO9 => ?_)
    have k10 : (-1000000000) ≤ ((F_X6_takeWord 1 st).2).1 5 ∧ ((F_X6_takeWord 1 st).2).1 5 ≤ 1000000000 := hO9.1 5
    refine f_calll C (c_X6_takeNumberAbove hX (-1) ⟨by decide, by decide⟩ ((F_X6_takeWord 1 st).2) (show 0 ≤ (((F_X6_takeWord 1 st).2).1 5) ∧ (((F_X6_takeWord 1 st).2).1 5) ≤ 900000 by omega)) (cwV 1 C.1.2.2.2.2 gX6_takePrice_X6_takeNumberAbove rfl rfl rfl (by decide +kernel) ⟨Nat.le_of_ble_eq_true rfl, Nat.le_of_ble_eq_true rfl⟩) 5 rfl rfl rfl rfl rfl (Nat.le_of_ble_eq_true rfl) ⟨Nat.zero_le _, Nat.zero_le _⟩ dX6_takePrice_15 (fun z u hz11 hu => ?_)
    obtain ⟨qz11, hu, rz11⟩ := hu; replace hu := hu.symm; subst hu; subst qz11
    have k12 : ((F_X6_takeNumberAbove (-1) ((F_X6_takeWord 1 st).2)).2).1 5 ≤ ((F_X6_takeWord 1 st).2).1 5 + 1 ∧ ((F_X6_takeWord 1 st).2).1 5 ≤ ((F_X6_takeNumberAbove (-1) ((F_X6_takeWord 1 st).2)).2).1 5 := (tna_k (-1) ((F_X6_takeWord 1 st).2)).2.2
    have k13 : ((F_X6_takeNumberAbove (-1) ((F_X6_takeWord 1 st).2)).2).1 7 = ((F_X6_takeWord 1 st).2).1 7 := (tna_k (-1) ((F_X6_takeWord 1 st).2)).1 7 (by decide) (by decide) (by decide)
    have k14 : ((F_X6_takeNumberAbove (-1) ((F_X6_takeWord 1 st).2)).2).1 6 = ((F_X6_takeWord 1 st).2).1 6 := (tna_k (-1) ((F_X6_takeWord 1 st).2)).1 6 (by decide) (by decide) (by decide)
    have k15 : xSC p1 ((F_X6_takeNumberAbove (-1) ((F_X6_takeWord 1 st).2)).2) = xSC p1 ((F_X6_takeWord 1 st).2) := xSC_k (tna_k (-1) ((F_X6_takeWord 1 st).2)) p1
    refine f_lstore_n C 2 (lv' := [(2, .long (zJ ((F_X6_takeNumberAbove (-1) ((F_X6_takeWord 1 st).2)).1))), (0, .ref (a 5)), (1, .int (zI p1))]) dX6_takePrice_18 rfl (Nat.le_of_ble_eq_true rfl) rfl ?_
    refine f_lload_n C 2 dX6_takePrice_19 rfl rfl ?_
    refine f_ldc2 C (v := (-1)) (z := (-1)) (by decide +kernel) (by decide) dX6_takePrice_20 ?_
    refine f_lc_if_eq C 36 ⟨by omega, by omega⟩ ⟨by decide, by decide⟩ dX6_takePrice_23 dX6_takePrice_24 (by decide) (fun c16 => ?_) (fun c16 => ?_)
    · refine f_iconst C dX6_takePrice_36 ?_
      exact f_zret C hret hlk dX6_takePrice_37 (by decide) (hp _ _ (by rw [F_X6_takePrice, if_neg c8, if_pos c16]) (by rw [F_X6_takePrice, if_neg c8, if_pos c16]) (by omega))
    refine f_aload_n C 0 dX6_takePrice_27 rfl rfl ?_
    refine f_ldcS C (hES s C.2.2.1).2.1.2.2.1 dX6_takePrice_28 ?_
    refine f_ok (fun hO17 => ?_)
    have k18 : (-1000000000) ≤ ((F_X6_takeNumberAbove (-1) ((F_X6_takeWord 1 st).2)).2).1 5 ∧ ((F_X6_takeNumberAbove (-1) ((F_X6_takeWord 1 st).2)).2).1 5 ≤ 1000000000 := hO17.1 5
    refine f_calli C (c_X6_takeWord hX hES 2 (by decide) ((F_X6_takeNumberAbove (-1) ((F_X6_takeWord 1 st).2)).2) (show 0 ≤ (((F_X6_takeNumberAbove (-1) ((F_X6_takeWord 1 st).2)).2).1 5) ∧ (((F_X6_takeNumberAbove (-1) ((F_X6_takeWord 1 st).2)).2).1 5) ≤ 900000 by omega)) (cwV 1 C.1.2.2.2.2 gX6_takePrice_X6_takeWord rfl rfl rfl (by decide +kernel) ⟨Nat.le_of_ble_eq_true rfl, Nat.le_of_ble_eq_true rfl⟩) 5 rfl rfl rfl rfl rfl (Nat.le_of_ble_eq_true rfl) ⟨Nat.zero_le _, Nat.zero_le _⟩ dX6_takePrice_30 (fun z u hz19 hu => ?_)
    obtain ⟨qz19, hu, rz19⟩ := hu; replace hu := hu.symm; subst hu; subst qz19
    have k20 : 0 ≤ ((F_X6_takeNumberAbove (-1) ((F_X6_takeWord 1 st).2)).2).1 3 ∧ ((F_X6_takeNumberAbove (-1) ((F_X6_takeWord 1 st).2)).2).1 3 ≤ 600 := hO17.1 3
    have k21 : 0 ≤ ((F_X6_takeNumberAbove (-1) ((F_X6_takeWord 1 st).2)).2).1 4 ∧ ((F_X6_takeNumberAbove (-1) ((F_X6_takeWord 1 st).2)).2).1 4 ≤ 600 := hO17.1 4
    have k22 : (((F_X6_takeWord 2 ((F_X6_takeNumberAbove (-1) ((F_X6_takeWord 1 st).2)).2)).1) = 1 ∧ (((F_X6_takeNumberAbove (-1) ((F_X6_takeWord 1 st).2)).2).1 3) < (((F_X6_takeNumberAbove (-1) ((F_X6_takeWord 1 st).2)).2).1 4)) ∨ ((F_X6_takeWord 2 ((F_X6_takeNumberAbove (-1) ((F_X6_takeWord 1 st).2)).2)).1) = 0 := rz19
    have k23 : ((F_X6_takeWord 2 ((F_X6_takeNumberAbove (-1) ((F_X6_takeWord 1 st).2)).2)).2).1 5 ≤ ((F_X6_takeNumberAbove (-1) ((F_X6_takeWord 1 st).2)).2).1 5 + 1 ∧ ((F_X6_takeNumberAbove (-1) ((F_X6_takeWord 1 st).2)).2).1 5 ≤ ((F_X6_takeWord 2 ((F_X6_takeNumberAbove (-1) ((F_X6_takeWord 1 st).2)).2)).2).1 5 := (tkw_k2 2 ((F_X6_takeNumberAbove (-1) ((F_X6_takeWord 1 st).2)).2)).2.2
    have k24 : ((F_X6_takeWord 2 ((F_X6_takeNumberAbove (-1) ((F_X6_takeWord 1 st).2)).2)).2).1 7 = ((F_X6_takeNumberAbove (-1) ((F_X6_takeWord 1 st).2)).2).1 7 := (tkw_k2 2 ((F_X6_takeNumberAbove (-1) ((F_X6_takeWord 1 st).2)).2)).1 7 (by decide) (by decide) (by decide)
    have k25 : ((F_X6_takeWord 2 ((F_X6_takeNumberAbove (-1) ((F_X6_takeWord 1 st).2)).2)).2).1 6 = ((F_X6_takeNumberAbove (-1) ((F_X6_takeWord 1 st).2)).2).1 6 := (tkw_k2 2 ((F_X6_takeNumberAbove (-1) ((F_X6_takeWord 1 st).2)).2)).1 6 (by decide) (by decide) (by decide)
    have k26 : xSC p1 ((F_X6_takeWord 2 ((F_X6_takeNumberAbove (-1) ((F_X6_takeWord 1 st).2)).2)).2) = xSC p1 ((F_X6_takeNumberAbove (-1) ((F_X6_takeWord 1 st).2)).2) := xSC_k (tkw_k2 2 ((F_X6_takeNumberAbove (-1) ((F_X6_takeWord 1 st).2)).2)) p1
    refine f_if_ne C 38 ⟨by omega, by omega⟩ dX6_takePrice_33 (by decide) (fun c27 => ?_) (fun c27 => ?_)
    · refine f_aload_n C 0 dX6_takePrice_38 rfl rfl ?_
      refine f_ldc2 C (v := (-1)) (z := (-1)) (by decide +kernel) (by decide) dX6_takePrice_39 ?_
      refine f_ok (fun hO28 => ?_)
      have k29 : (-1000000000) ≤ ((F_X6_takeWord 2 ((F_X6_takeNumberAbove (-1) ((F_X6_takeWord 1 st).2)).2)).2).1 5 ∧ ((F_X6_takeWord 2 ((F_X6_takeNumberAbove (-1) ((F_X6_takeWord 1 st).2)).2)).2).1 5 ≤ 1000000000 := hO28.1 5
      refine f_calll C (c_X6_takeNumberAbove hX (-1) ⟨by decide, by decide⟩ ((F_X6_takeWord 2 ((F_X6_takeNumberAbove (-1) ((F_X6_takeWord 1 st).2)).2)).2) (show 0 ≤ (((F_X6_takeWord 2 ((F_X6_takeNumberAbove (-1) ((F_X6_takeWord 1 st).2)).2)).2).1 5) ∧ (((F_X6_takeWord 2 ((F_X6_takeNumberAbove (-1) ((F_X6_takeWord 1 st).2)).2)).2).1 5) ≤ 900000 by omega)) (cwV 1 C.1.2.2.2.2 gX6_takePrice_X6_takeNumberAbove rfl rfl rfl (by decide +kernel) ⟨Nat.le_of_ble_eq_true rfl, Nat.le_of_ble_eq_true rfl⟩) 5 rfl rfl rfl rfl rfl (Nat.le_of_ble_eq_true rfl) ⟨Nat.zero_le _, Nat.zero_le _⟩ dX6_takePrice_42 (fun z u hz30 hu => ?_)
      obtain ⟨qz30, hu, rz30⟩ := hu; replace hu := hu.symm; subst hu; subst qz30
      have k31 : ((F_X6_takeNumberAbove (-1) ((F_X6_takeWord 2 ((F_X6_takeNumberAbove (-1) ((F_X6_takeWord 1 st).2)).2)).2)).2).1 5 ≤ ((F_X6_takeWord 2 ((F_X6_takeNumberAbove (-1) ((F_X6_takeWord 1 st).2)).2)).2).1 5 + 1 ∧ ((F_X6_takeWord 2 ((F_X6_takeNumberAbove (-1) ((F_X6_takeWord 1 st).2)).2)).2).1 5 ≤ ((F_X6_takeNumberAbove (-1) ((F_X6_takeWord 2 ((F_X6_takeNumberAbove (-1) ((F_X6_takeWord 1 st).2)).2)).2)).2).1 5 := (tna_k (-1) ((F_X6_takeWord 2 ((F_X6_takeNumberAbove (-1) ((F_X6_takeWord 1 st).2)).2)).2)).2.2
      have k32 : ((F_X6_takeNumberAbove (-1) ((F_X6_takeWord 2 ((F_X6_takeNumberAbove (-1) ((F_X6_takeWord 1 st).2)).2)).2)).2).1 7 = ((F_X6_takeWord 2 ((F_X6_takeNumberAbove (-1) ((F_X6_takeWord 1 st).2)).2)).2).1 7 := (tna_k (-1) ((F_X6_takeWord 2 ((F_X6_takeNumberAbove (-1) ((F_X6_takeWord 1 st).2)).2)).2)).1 7 (by decide) (by decide) (by decide)
      have k33 : ((F_X6_takeNumberAbove (-1) ((F_X6_takeWord 2 ((F_X6_takeNumberAbove (-1) ((F_X6_takeWord 1 st).2)).2)).2)).2).1 6 = ((F_X6_takeWord 2 ((F_X6_takeNumberAbove (-1) ((F_X6_takeWord 1 st).2)).2)).2).1 6 := (tna_k (-1) ((F_X6_takeWord 2 ((F_X6_takeNumberAbove (-1) ((F_X6_takeWord 1 st).2)).2)).2)).1 6 (by decide) (by decide) (by decide)
      have k34 : xSC p1 ((F_X6_takeNumberAbove (-1) ((F_X6_takeWord 2 ((F_X6_takeNumberAbove (-1) ((F_X6_takeWord 1 st).2)).2)).2)).2) = xSC p1 ((F_X6_takeWord 2 ((F_X6_takeNumberAbove (-1) ((F_X6_takeWord 1 st).2)).2)).2) := xSC_k (tna_k (-1) ((F_X6_takeWord 2 ((F_X6_takeNumberAbove (-1) ((F_X6_takeWord 1 st).2)).2)).2)) p1
      refine f_lstore C (lv' := [(4, .long (zJ ((F_X6_takeNumberAbove (-1) ((F_X6_takeWord 2 ((F_X6_takeNumberAbove (-1) ((F_X6_takeWord 1 st).2)).2)).2)).1))), (2, .long (zJ ((F_X6_takeNumberAbove (-1) ((F_X6_takeWord 1 st).2)).1))), (0, .ref (a 5)), (1, .int (zI p1))]) dX6_takePrice_45 (Nat.le_of_ble_eq_true rfl) rfl ?_
      refine f_lload C 4 dX6_takePrice_47 rfl ?_
      refine f_ldc2 C (v := (-1)) (z := (-1)) (by decide +kernel) (by decide) dX6_takePrice_49 ?_
      refine f_lc_if_ne C 58 ⟨by omega, by omega⟩ ⟨by decide, by decide⟩ dX6_takePrice_52 dX6_takePrice_53 (by decide) (fun c35 => ?_) (fun c35 => ?_)
      · refine f_aload_n C 0 dX6_takePrice_58 rfl rfl ?_
        refine f_get C hin6 5 1 rfl rfl (Nat.le_of_ble_eq_true rfl) (by decide +kernel) rfl rfl dX6_takePrice_59 ?_
        refine f_iload_n C 1 dX6_takePrice_62 rfl rfl ?_
        refine f_lload_n C 2 dX6_takePrice_63 rfl rfl ?_
        refine f_lload C 4 dX6_takePrice_64 rfl ?_
        refine f_ok (fun hO36 => ?_)
        have k37 : (-1000000000) ≤ ((F_X6_takeNumberAbove (-1) ((F_X6_takeWord 2 ((F_X6_takeNumberAbove (-1) ((F_X6_takeWord 1 st).2)).2)).2)).2).1 7 ∧ ((F_X6_takeNumberAbove (-1) ((F_X6_takeWord 2 ((F_X6_takeNumberAbove (-1) ((F_X6_takeWord 1 st).2)).2)).2)).2).1 7 ≤ 1000000000 := hO36.1 7
        refine f_callv C (c_X0_tellRule hX p1 ((F_X6_takeNumberAbove (-1) ((F_X6_takeWord 1 st).2)).1) ((F_X6_takeNumberAbove (-1) ((F_X6_takeWord 2 ((F_X6_takeNumberAbove (-1) ((F_X6_takeWord 1 st).2)).2)).2)).1) ⟨by omega, by omega⟩ ⟨by omega, by omega⟩ ⟨by omega, by omega⟩ ((F_X6_takeNumberAbove (-1) ((F_X6_takeWord 2 ((F_X6_takeNumberAbove (-1) ((F_X6_takeWord 1 st).2)).2)).2)).2) (show (-1000000) ≤ p1 ∧ p1 ≤ 1000000 by omega) (show 0 ≤ ((F_X6_takeNumberAbove (-1) ((F_X6_takeWord 1 st).2)).1) ∧ ((F_X6_takeNumberAbove (-1) ((F_X6_takeWord 1 st).2)).1) ≤ 999999 by omega) (show 0 ≤ ((F_X6_takeNumberAbove (-1) ((F_X6_takeWord 2 ((F_X6_takeNumberAbove (-1) ((F_X6_takeWord 1 st).2)).2)).2)).1) ∧ ((F_X6_takeNumberAbove (-1) ((F_X6_takeWord 2 ((F_X6_takeNumberAbove (-1) ((F_X6_takeWord 1 st).2)).2)).2)).1) ≤ 999999 by omega) (show 0 ≤ (((F_X6_takeNumberAbove (-1) ((F_X6_takeWord 2 ((F_X6_takeNumberAbove (-1) ((F_X6_takeWord 1 st).2)).2)).2)).2).1 7) ∧ (((F_X6_takeNumberAbove (-1) ((F_X6_takeWord 2 ((F_X6_takeNumberAbove (-1) ((F_X6_takeWord 1 st).2)).2)).2)).2).1 7) ≤ 100000 by omega)) (cwV 3 C.1.2.2.2.2 gX6_takePrice_X0_tellRule rfl rfl rfl (by decide +kernel) ⟨Nat.le_of_ble_eq_true rfl, Nat.le_of_ble_eq_true rfl⟩) 4 rfl rfl rfl rfl rfl (Nat.le_of_ble_eq_true rfl) ⟨Nat.zero_le _, Nat.zero_le _⟩ dX6_takePrice_66 (fun u hu => ?_)
        replace hu := hu.symm; subst hu
        have k39 : (F_X0_tellRule p1 ((F_X6_takeNumberAbove (-1) ((F_X6_takeWord 1 st).2)).1) ((F_X6_takeNumberAbove (-1) ((F_X6_takeWord 2 ((F_X6_takeNumberAbove (-1) ((F_X6_takeWord 1 st).2)).2)).2)).1) ((F_X6_takeNumberAbove (-1) ((F_X6_takeWord 2 ((F_X6_takeNumberAbove (-1) ((F_X6_takeWord 1 st).2)).2)).2)).2)).1 5 = ((F_X6_takeNumberAbove (-1) ((F_X6_takeWord 2 ((F_X6_takeNumberAbove (-1) ((F_X6_takeWord 1 st).2)).2)).2)).2).1 5 := rfl
        have k40 : (F_X0_tellRule p1 ((F_X6_takeNumberAbove (-1) ((F_X6_takeWord 1 st).2)).1) ((F_X6_takeNumberAbove (-1) ((F_X6_takeWord 2 ((F_X6_takeNumberAbove (-1) ((F_X6_takeWord 1 st).2)).2)).2)).1) ((F_X6_takeNumberAbove (-1) ((F_X6_takeWord 2 ((F_X6_takeNumberAbove (-1) ((F_X6_takeWord 1 st).2)).2)).2)).2)).1 7 = ((F_X6_takeNumberAbove (-1) ((F_X6_takeWord 2 ((F_X6_takeNumberAbove (-1) ((F_X6_takeWord 1 st).2)).2)).2)).2).1 7 := rfl
        have k41 : (F_X0_tellRule p1 ((F_X6_takeNumberAbove (-1) ((F_X6_takeWord 1 st).2)).1) ((F_X6_takeNumberAbove (-1) ((F_X6_takeWord 2 ((F_X6_takeNumberAbove (-1) ((F_X6_takeWord 1 st).2)).2)).2)).1) ((F_X6_takeNumberAbove (-1) ((F_X6_takeWord 2 ((F_X6_takeNumberAbove (-1) ((F_X6_takeWord 1 st).2)).2)).2)).2)).1 6 = ((F_X6_takeNumberAbove (-1) ((F_X6_takeWord 2 ((F_X6_takeNumberAbove (-1) ((F_X6_takeWord 1 st).2)).2)).2)).2).1 6 := rfl
        have k42 : xSC p1 (F_X0_tellRule p1 ((F_X6_takeNumberAbove (-1) ((F_X6_takeWord 1 st).2)).1) ((F_X6_takeNumberAbove (-1) ((F_X6_takeWord 2 ((F_X6_takeNumberAbove (-1) ((F_X6_takeWord 1 st).2)).2)).2)).1) ((F_X6_takeNumberAbove (-1) ((F_X6_takeWord 2 ((F_X6_takeNumberAbove (-1) ((F_X6_takeWord 1 st).2)).2)).2)).2)) ≤ 0 := xSC_rule p1 ((F_X6_takeNumberAbove (-1) ((F_X6_takeWord 1 st).2)).1) ((F_X6_takeNumberAbove (-1) ((F_X6_takeWord 2 ((F_X6_takeNumberAbove (-1) ((F_X6_takeWord 1 st).2)).2)).2)).1) ((F_X6_takeNumberAbove (-1) ((F_X6_takeWord 2 ((F_X6_takeNumberAbove (-1) ((F_X6_takeWord 1 st).2)).2)).2)).2)
        refine f_iconst C dX6_takePrice_69 ?_
        exact f_zret C hret hlk dX6_takePrice_70 (by decide) (hp _ _ (by rw [F_X6_takePrice, if_neg c8, if_neg c16, if_neg c27, if_neg c35]) (by rw [F_X6_takePrice, if_neg c8, if_neg c16, if_neg c27, if_neg c35]) (by omega))
      refine f_iconst C dX6_takePrice_56 ?_
      exact f_zret C hret hlk dX6_takePrice_57 (by decide) (hp _ _ (by rw [F_X6_takePrice, if_neg c8, if_neg c16, if_neg c27, if_pos c35]) (by rw [F_X6_takePrice, if_neg c8, if_neg c16, if_neg c27, if_pos c35]) (by omega))
    refine f_iconst C dX6_takePrice_36 ?_
    exact f_zret C hret hlk dX6_takePrice_37 (by decide) (hp _ _ (by rw [F_X6_takePrice, if_neg c8, if_neg c16, if_pos c27]) (by rw [F_X6_takePrice, if_neg c8, if_neg c16, if_pos c27]) (by omega))
  refine f_iconst C dX6_takePrice_9 ?_
  exact f_zret C hret hlk dX6_takePrice_10 (by decide) (hp _ _ (by rw [F_X6_takePrice, if_pos c8]) (by rw [F_X6_takePrice, if_pos c8]) (by omega))

def F_X6_takeSteps_5 (v1 : Int) : Nat → Int → Int → fS → Int × fS
  | 0, _, _, st => (0, st)
  | n + 1, v2, v4, st => if 66 ≤ v4 then (1, st) else (if ((F_X6_takeWord 3 st).1) = 0 then (1, (F_X6_takeWord 3 st).2) else (if ((F_X6_takeNumberAbove v2 ((F_X6_takeWord 3 st).2)).1) = (-1) then (0, (F_X6_takeNumberAbove v2 ((F_X6_takeWord 3 st).2)).2) else (if ((F_X6_takeNumberAbove (-1) ((F_X6_takeNumberAbove v2 ((F_X6_takeWord 3 st).2)).2)).1) = (-1) then (0, (F_X6_takeNumberAbove (-1) ((F_X6_takeNumberAbove v2 ((F_X6_takeWord 3 st).2)).2)).2) else F_X6_takeSteps_5 v1 (n) ((F_X6_takeNumberAbove v2 ((F_X6_takeWord 3 st).2)).1) (v4 + 1) (F_X0_tellStep v1 ((F_X6_takeNumberAbove v2 ((F_X6_takeWord 3 st).2)).1) ((F_X6_takeNumberAbove (-1) ((F_X6_takeNumberAbove v2 ((F_X6_takeWord 3 st).2)).2)).1) ((F_X6_takeNumberAbove (-1) ((F_X6_takeNumberAbove v2 ((F_X6_takeWord 3 st).2)).2)).2)))))

def F_X6_takeSteps (p1 : Int) (st : fS) : Int × fS := F_X6_takeSteps_5 p1 (Int.toNat (66 - (0 : Int)) + 1) 0 0 st
abbrev rm_X6_takeSteps : Room := { frames := 6, cells := 0, slots := 0, locals := 128 }
set_option maxRecDepth 100000 in
set_option maxHeartbeats 8000000 in
theorem v_X6_takeSteps_5 {l : Launch} {D : va_G} {cI cJ cZ cB : ClassId} {a : Nat → Nat} {E : State → Prop} (hX : xHyp a E) {adK adV : Nat → Nat} {fv : Option Nat} (hES : ∀ U, E U → xE adK adV fv (xA a) U) (v1 : Int) (hv1 : in32 v1) {p : Program} {e : Env} {s : State} {m : MethodId} {args : Array Value} {below : List Frame} {meth : Method} {c : Code} (C : fC p m c cX6_takeSteps 9 s args wsX6_takeSteps yX6_takeSteps.cls D (fTys cI cJ cZ cB) E (xA a)) (hret : meth.sig.returnType = (some .boolean)) (hlk : meth.locks = false) {post : Int → fS → Prop} : ∀ (n : Nat) (v2 v4 : Int) (st : fS), in64 v2 → in32 v4 → (0 ≤ v1 ∧ v1 ≤ 5) → (0 ≤ v2 ∧ v2 ≤ 999999) → (0 ≤ v4 ∧ v4 ≤ 66) → (0 ≤ st.1 5 ∧ st.1 5 ≤ 800000 + 3 * v4) → (0 ≤ st.1 7 ∧ st.1 7 ≤ 90000 + v4) → (xSC v1 st ≤ v4) → 66 - v4 < n → (∀ (z : Int) (u : fS), z = (F_X6_takeSteps_5 v1 n v2 v4 st).1 → u = (F_X6_takeSteps_5 v1 n v2 v4 st).2 → (z = 0 ∨ z = 1) → post z u) → fV D (wX cJ a) xOk (xA a) 9 p l e rm_X6_takeSteps s m args below meth c 0 0 (fMQ below (fQi D (wX cJ a) xOk (xA a) post) args s (xA a)) st 5 [(0, .ref (a 5)), (1, .int (zI v1)), (2, .long (zJ v2)), (4, .int (zI v4))] [] := by
  have hin6 : ∀ w ∈ u_ws RX6 TX6 2, w ∈ wsX6_takeSteps := by decide +kernel
  intro n
  induction n with
  | zero =>
    intro v2 v4 st hv2 hv4 i0 i1 i2 i3 i4 i5 hm hp
    omega
  | succ n ih =>
    intro v2 v4 st hv2 hv4 i0 i1 i2 i3 i4 i5 hm hp
    refine f_iload C 4 dX6_takeSteps_5 rfl ?_
    refine f_bipush C dX6_takeSteps_7 (by decide) ?_
    refine f_icmp_ge C 80 ⟨by omega, by omega⟩ ⟨by decide, by decide⟩ dX6_takeSteps_9 (by decide) (fun c1 => ?_) (fun c1 => ?_)
    · refine f_iconst C dX6_takeSteps_80 ?_
      exact f_zret C hret hlk dX6_takeSteps_81 (by decide) (hp _ _ (by rw [F_X6_takeSteps_5, if_pos c1]) (by rw [F_X6_takeSteps_5, if_pos c1]) (by omega))
    refine f_aload_n C 0 dX6_takeSteps_12 rfl rfl ?_
    refine f_ldcS C (hES s C.2.2.1).2.1.2.2.2.1 dX6_takeSteps_13 ?_
    refine f_ok (fun hO2 => ?_)
    have k3 : (-1000000000) ≤ st.1 5 ∧ st.1 5 ≤ 1000000000 := hO2.1 5
    refine f_calli C (c_X6_takeWord hX hES 3 (by decide) st (show 0 ≤ (st.1 5) ∧ (st.1 5) ≤ 900000 by omega)) (cwV 1 C.1.2.2.2.2 gX6_takeSteps_X6_takeWord rfl rfl rfl (by decide +kernel) ⟨Nat.le_of_ble_eq_true rfl, Nat.le_of_ble_eq_true rfl⟩) 5 rfl rfl rfl rfl rfl (Nat.le_of_ble_eq_true rfl) ⟨Nat.zero_le _, Nat.zero_le _⟩ dX6_takeSteps_15 (fun z u hz4 hu => ?_)
    obtain ⟨qz4, hu, rz4⟩ := hu; replace hu := hu.symm; subst hu; subst qz4
    have k5 : ((F_X6_takeWord 3 st).2).1 5 ≤ st.1 5 + 1 ∧ st.1 5 ≤ ((F_X6_takeWord 3 st).2).1 5 := (tkw_k2 3 st).2.2
    have k6 : ((F_X6_takeWord 3 st).2).1 7 = st.1 7 := (tkw_k2 3 st).1 7 (by decide) (by decide) (by decide)
    have k7 : ((F_X6_takeWord 3 st).2).1 6 = st.1 6 := (tkw_k2 3 st).1 6 (by decide) (by decide) (by decide)
    have k8 : xSC v1 ((F_X6_takeWord 3 st).2) = xSC v1 st := xSC_k (tkw_k2 3 st) v1
    refine f_if_eq C 80 ⟨by omega, by omega⟩ dX6_takeSteps_18 (by decide) (fun c9 => ?_) (fun c9 => ?_)
    · refine f_iconst C dX6_takeSteps_80 ?_
      exact f_zret C hret hlk dX6_takeSteps_81 (by decide) (hp _ _ (by rw [F_X6_takeSteps_5, if_neg c1, if_pos c9]) (by rw [F_X6_takeSteps_5, if_neg c1, if_pos c9]) (by omega))
    refine f_aload_n C 0 dX6_takeSteps_21 rfl rfl ?_
    refine f_lload_n C 2 dX6_takeSteps_22 rfl rfl ?_
    refine f_ok (fun hO10 => ?_)
    have k11 : (-1000000000) ≤ ((F_X6_takeWord 3 st).2).1 5 ∧ ((F_X6_takeWord 3 st).2).1 5 ≤ 1000000000 := hO10.1 5
    refine f_calll C (c_X6_takeNumberAbove hX v2 ⟨by omega, by omega⟩ ((F_X6_takeWord 3 st).2) (show 0 ≤ (((F_X6_takeWord 3 st).2).1 5) ∧ (((F_X6_takeWord 3 st).2).1 5) ≤ 900000 by omega)) (cwV 1 C.1.2.2.2.2 gX6_takeSteps_X6_takeNumberAbove rfl rfl rfl (by decide +kernel) ⟨Nat.le_of_ble_eq_true rfl, Nat.le_of_ble_eq_true rfl⟩) 5 rfl rfl rfl rfl rfl (Nat.le_of_ble_eq_true rfl) ⟨Nat.zero_le _, Nat.zero_le _⟩ dX6_takeSteps_23 (fun z u hz12 hu => ?_)
    obtain ⟨qz12, hu, rz12⟩ := hu; replace hu := hu.symm; subst hu; subst qz12
    have k13 : ((F_X6_takeNumberAbove v2 ((F_X6_takeWord 3 st).2)).2).1 5 ≤ ((F_X6_takeWord 3 st).2).1 5 + 1 ∧ ((F_X6_takeWord 3 st).2).1 5 ≤ ((F_X6_takeNumberAbove v2 ((F_X6_takeWord 3 st).2)).2).1 5 := (tna_k v2 ((F_X6_takeWord 3 st).2)).2.2
    have k14 : ((F_X6_takeNumberAbove v2 ((F_X6_takeWord 3 st).2)).2).1 7 = ((F_X6_takeWord 3 st).2).1 7 := (tna_k v2 ((F_X6_takeWord 3 st).2)).1 7 (by decide) (by decide) (by decide)
    have k15 : ((F_X6_takeNumberAbove v2 ((F_X6_takeWord 3 st).2)).2).1 6 = ((F_X6_takeWord 3 st).2).1 6 := (tna_k v2 ((F_X6_takeWord 3 st).2)).1 6 (by decide) (by decide) (by decide)
    have k16 : xSC v1 ((F_X6_takeNumberAbove v2 ((F_X6_takeWord 3 st).2)).2) = xSC v1 ((F_X6_takeWord 3 st).2) := xSC_k (tna_k v2 ((F_X6_takeWord 3 st).2)) v1
    refine f_lstore C (lv' := [(5, .long (zJ ((F_X6_takeNumberAbove v2 ((F_X6_takeWord 3 st).2)).1))), (0, .ref (a 5)), (1, .int (zI v1)), (2, .long (zJ v2)), (4, .int (zI v4))]) dX6_takeSteps_26 (Nat.le_of_ble_eq_true rfl) rfl ?_
    refine f_lload C 5 dX6_takeSteps_28 rfl ?_
    refine f_ldc2 C (v := (-1)) (z := (-1)) (by decide +kernel) (by decide) dX6_takeSteps_30 ?_
    refine f_lc_if_ne C 39 ⟨by omega, by omega⟩ ⟨by decide, by decide⟩ dX6_takeSteps_33 dX6_takeSteps_34 (by decide) (fun c17 => ?_) (fun c17 => ?_)
    · refine f_aload_n C 0 dX6_takeSteps_39 rfl rfl ?_
      refine f_ldc2 C (v := (-1)) (z := (-1)) (by decide +kernel) (by decide) dX6_takeSteps_40 ?_
      refine f_ok (fun hO18 => ?_)
      have k19 : (-1000000000) ≤ ((F_X6_takeNumberAbove v2 ((F_X6_takeWord 3 st).2)).2).1 5 ∧ ((F_X6_takeNumberAbove v2 ((F_X6_takeWord 3 st).2)).2).1 5 ≤ 1000000000 := hO18.1 5
      refine f_calll C (c_X6_takeNumberAbove hX (-1) ⟨by decide, by decide⟩ ((F_X6_takeNumberAbove v2 ((F_X6_takeWord 3 st).2)).2) (show 0 ≤ (((F_X6_takeNumberAbove v2 ((F_X6_takeWord 3 st).2)).2).1 5) ∧ (((F_X6_takeNumberAbove v2 ((F_X6_takeWord 3 st).2)).2).1 5) ≤ 900000 by omega)) (cwV 1 C.1.2.2.2.2 gX6_takeSteps_X6_takeNumberAbove rfl rfl rfl (by decide +kernel) ⟨Nat.le_of_ble_eq_true rfl, Nat.le_of_ble_eq_true rfl⟩) 5 rfl rfl rfl rfl rfl (Nat.le_of_ble_eq_true rfl) ⟨Nat.zero_le _, Nat.zero_le _⟩ dX6_takeSteps_43 (fun z u hz20 hu => ?_)
      obtain ⟨qz20, hu, rz20⟩ := hu; replace hu := hu.symm; subst hu; subst qz20
      have k21 : ((F_X6_takeNumberAbove (-1) ((F_X6_takeNumberAbove v2 ((F_X6_takeWord 3 st).2)).2)).2).1 5 ≤ ((F_X6_takeNumberAbove v2 ((F_X6_takeWord 3 st).2)).2).1 5 + 1 ∧ ((F_X6_takeNumberAbove v2 ((F_X6_takeWord 3 st).2)).2).1 5 ≤ ((F_X6_takeNumberAbove (-1) ((F_X6_takeNumberAbove v2 ((F_X6_takeWord 3 st).2)).2)).2).1 5 := (tna_k (-1) ((F_X6_takeNumberAbove v2 ((F_X6_takeWord 3 st).2)).2)).2.2
      have k22 : ((F_X6_takeNumberAbove (-1) ((F_X6_takeNumberAbove v2 ((F_X6_takeWord 3 st).2)).2)).2).1 7 = ((F_X6_takeNumberAbove v2 ((F_X6_takeWord 3 st).2)).2).1 7 := (tna_k (-1) ((F_X6_takeNumberAbove v2 ((F_X6_takeWord 3 st).2)).2)).1 7 (by decide) (by decide) (by decide)
      have k23 : ((F_X6_takeNumberAbove (-1) ((F_X6_takeNumberAbove v2 ((F_X6_takeWord 3 st).2)).2)).2).1 6 = ((F_X6_takeNumberAbove v2 ((F_X6_takeWord 3 st).2)).2).1 6 := (tna_k (-1) ((F_X6_takeNumberAbove v2 ((F_X6_takeWord 3 st).2)).2)).1 6 (by decide) (by decide) (by decide)
      have k24 : xSC v1 ((F_X6_takeNumberAbove (-1) ((F_X6_takeNumberAbove v2 ((F_X6_takeWord 3 st).2)).2)).2) = xSC v1 ((F_X6_takeNumberAbove v2 ((F_X6_takeWord 3 st).2)).2) := xSC_k (tna_k (-1) ((F_X6_takeNumberAbove v2 ((F_X6_takeWord 3 st).2)).2)) v1
      refine f_lstore C (lv' := [(7, .long (zJ ((F_X6_takeNumberAbove (-1) ((F_X6_takeNumberAbove v2 ((F_X6_takeWord 3 st).2)).2)).1))), (5, .long (zJ ((F_X6_takeNumberAbove v2 ((F_X6_takeWord 3 st).2)).1))), (0, .ref (a 5)), (1, .int (zI v1)), (2, .long (zJ v2)), (4, .int (zI v4))]) dX6_takeSteps_46 (Nat.le_of_ble_eq_true rfl) rfl ?_
      refine f_lload C 7 dX6_takeSteps_48 rfl ?_
      refine f_ldc2 C (v := (-1)) (z := (-1)) (by decide +kernel) (by decide) dX6_takeSteps_50 ?_
      refine f_lc_if_ne C 59 ⟨by omega, by omega⟩ ⟨by decide, by decide⟩ dX6_takeSteps_53 dX6_takeSteps_54 (by decide) (fun c25 => ?_) (fun c25 => ?_)
      · refine f_aload_n C 0 dX6_takeSteps_59 rfl rfl ?_
        refine f_get C hin6 5 1 rfl rfl (Nat.le_of_ble_eq_true rfl) (by decide +kernel) rfl rfl dX6_takeSteps_60 ?_
        refine f_iload_n C 1 dX6_takeSteps_63 rfl rfl ?_
        refine f_lload C 5 dX6_takeSteps_64 rfl ?_
        refine f_lload C 7 dX6_takeSteps_66 rfl ?_
        refine f_ok (fun hO26 => ?_)
        have k27 : (-1000000000) ≤ ((F_X6_takeNumberAbove (-1) ((F_X6_takeNumberAbove v2 ((F_X6_takeWord 3 st).2)).2)).2).1 7 ∧ ((F_X6_takeNumberAbove (-1) ((F_X6_takeNumberAbove v2 ((F_X6_takeWord 3 st).2)).2)).2).1 7 ≤ 1000000000 := hO26.1 7
        refine f_callv C (c_X0_tellStep hX v1 ((F_X6_takeNumberAbove v2 ((F_X6_takeWord 3 st).2)).1) ((F_X6_takeNumberAbove (-1) ((F_X6_takeNumberAbove v2 ((F_X6_takeWord 3 st).2)).2)).1) ⟨by omega, by omega⟩ ⟨by omega, by omega⟩ ⟨by omega, by omega⟩ ((F_X6_takeNumberAbove (-1) ((F_X6_takeNumberAbove v2 ((F_X6_takeWord 3 st).2)).2)).2) (show (-1000000) ≤ v1 ∧ v1 ≤ 1000000 by omega) (show 0 ≤ ((F_X6_takeNumberAbove v2 ((F_X6_takeWord 3 st).2)).1) ∧ ((F_X6_takeNumberAbove v2 ((F_X6_takeWord 3 st).2)).1) ≤ 999999 by omega) (show 0 ≤ ((F_X6_takeNumberAbove (-1) ((F_X6_takeNumberAbove v2 ((F_X6_takeWord 3 st).2)).2)).1) ∧ ((F_X6_takeNumberAbove (-1) ((F_X6_takeNumberAbove v2 ((F_X6_takeWord 3 st).2)).2)).1) ≤ 999999 by omega) (show 0 ≤ (((F_X6_takeNumberAbove (-1) ((F_X6_takeNumberAbove v2 ((F_X6_takeWord 3 st).2)).2)).2).1 7) ∧ (((F_X6_takeNumberAbove (-1) ((F_X6_takeNumberAbove v2 ((F_X6_takeWord 3 st).2)).2)).2).1 7) ≤ 100000 by omega) (show xSC v1 ((F_X6_takeNumberAbove (-1) ((F_X6_takeNumberAbove v2 ((F_X6_takeWord 3 st).2)).2)).2) ≤ 999999 by omega)) (cwV 3 C.1.2.2.2.2 gX6_takeSteps_X0_tellStep rfl rfl rfl (by decide +kernel) ⟨Nat.le_of_ble_eq_true rfl, Nat.le_of_ble_eq_true rfl⟩) 4 rfl rfl rfl rfl rfl (Nat.le_of_ble_eq_true rfl) ⟨Nat.zero_le _, Nat.zero_le _⟩ dX6_takeSteps_68 (fun u hu => ?_)
        replace hu := hu.symm; subst hu
        have k29 : (F_X0_tellStep v1 ((F_X6_takeNumberAbove v2 ((F_X6_takeWord 3 st).2)).1) ((F_X6_takeNumberAbove (-1) ((F_X6_takeNumberAbove v2 ((F_X6_takeWord 3 st).2)).2)).1) ((F_X6_takeNumberAbove (-1) ((F_X6_takeNumberAbove v2 ((F_X6_takeWord 3 st).2)).2)).2)).1 5 = ((F_X6_takeNumberAbove (-1) ((F_X6_takeNumberAbove v2 ((F_X6_takeWord 3 st).2)).2)).2).1 5 := rfl
        have k30 : (F_X0_tellStep v1 ((F_X6_takeNumberAbove v2 ((F_X6_takeWord 3 st).2)).1) ((F_X6_takeNumberAbove (-1) ((F_X6_takeNumberAbove v2 ((F_X6_takeWord 3 st).2)).2)).1) ((F_X6_takeNumberAbove (-1) ((F_X6_takeNumberAbove v2 ((F_X6_takeWord 3 st).2)).2)).2)).1 7 = ((F_X6_takeNumberAbove (-1) ((F_X6_takeNumberAbove v2 ((F_X6_takeWord 3 st).2)).2)).2).1 7 + 1 := rfl
        have k31 : (F_X0_tellStep v1 ((F_X6_takeNumberAbove v2 ((F_X6_takeWord 3 st).2)).1) ((F_X6_takeNumberAbove (-1) ((F_X6_takeNumberAbove v2 ((F_X6_takeWord 3 st).2)).2)).1) ((F_X6_takeNumberAbove (-1) ((F_X6_takeNumberAbove v2 ((F_X6_takeWord 3 st).2)).2)).2)).1 6 = ((F_X6_takeNumberAbove (-1) ((F_X6_takeNumberAbove v2 ((F_X6_takeWord 3 st).2)).2)).2).1 6 := rfl
        have k32 : xSC v1 (F_X0_tellStep v1 ((F_X6_takeNumberAbove v2 ((F_X6_takeWord 3 st).2)).1) ((F_X6_takeNumberAbove (-1) ((F_X6_takeNumberAbove v2 ((F_X6_takeWord 3 st).2)).2)).1) ((F_X6_takeNumberAbove (-1) ((F_X6_takeNumberAbove v2 ((F_X6_takeWord 3 st).2)).2)).2)) ≤ xSC v1 ((F_X6_takeNumberAbove (-1) ((F_X6_takeNumberAbove v2 ((F_X6_takeWord 3 st).2)).2)).2) + 1 := xSC_step v1 ((F_X6_takeNumberAbove v2 ((F_X6_takeWord 3 st).2)).1) ((F_X6_takeNumberAbove (-1) ((F_X6_takeNumberAbove v2 ((F_X6_takeWord 3 st).2)).2)).1) ((F_X6_takeNumberAbove (-1) ((F_X6_takeNumberAbove v2 ((F_X6_takeWord 3 st).2)).2)).2)
        refine f_lload C 5 dX6_takeSteps_71 rfl ?_
        refine f_lstore_n C 2 (lv' := [(2, .long (zJ ((F_X6_takeNumberAbove v2 ((F_X6_takeWord 3 st).2)).1))), (7, .long (zJ ((F_X6_takeNumberAbove (-1) ((F_X6_takeNumberAbove v2 ((F_X6_takeWord 3 st).2)).2)).1))), (5, .long (zJ ((F_X6_takeNumberAbove v2 ((F_X6_takeWord 3 st).2)).1))), (0, .ref (a 5)), (1, .int (zI v1)), (4, .int (zI v4))]) dX6_takeSteps_73 rfl (Nat.le_of_ble_eq_true rfl) rfl ?_
        refine f_iinc C (lv' := [(4, .int (zI (v4 + 1))), (2, .long (zJ ((F_X6_takeNumberAbove v2 ((F_X6_takeWord 3 st).2)).1))), (7, .long (zJ ((F_X6_takeNumberAbove (-1) ((F_X6_takeNumberAbove v2 ((F_X6_takeWord 3 st).2)).2)).1))), (5, .long (zJ ((F_X6_takeNumberAbove v2 ((F_X6_takeWord 3 st).2)).1))), (0, .ref (a 5)), (1, .int (zI v1))]) 5 dX6_takeSteps_74 rfl (Nat.le_of_ble_eq_true rfl) rfl ?_
        refine f_goto C 5 dX6_takeSteps_77 (by decide) ?_
        refine f_re (lv' := [(0, .ref (a 5)), (1, .int (zI v1)), (2, .long (zJ ((F_X6_takeNumberAbove v2 ((F_X6_takeWord 3 st).2)).1))), (4, .int (zI (v4 + 1)))]) [4, 5, 1, 0] rfl ?_
        refine f_ok (fun hO33 => ?_)
        have k34 : (-1000000000) ≤ (F_X0_tellStep v1 ((F_X6_takeNumberAbove v2 ((F_X6_takeWord 3 st).2)).1) ((F_X6_takeNumberAbove (-1) ((F_X6_takeNumberAbove v2 ((F_X6_takeWord 3 st).2)).2)).1) ((F_X6_takeNumberAbove (-1) ((F_X6_takeNumberAbove v2 ((F_X6_takeWord 3 st).2)).2)).2)).1 5 ∧ (F_X0_tellStep v1 ((F_X6_takeNumberAbove v2 ((F_X6_takeWord 3 st).2)).1) ((F_X6_takeNumberAbove (-1) ((F_X6_takeNumberAbove v2 ((F_X6_takeWord 3 st).2)).2)).1) ((F_X6_takeNumberAbove (-1) ((F_X6_takeNumberAbove v2 ((F_X6_takeWord 3 st).2)).2)).2)).1 5 ≤ 1000000000 := hO33.1 5
        have k35 : (-1000000000) ≤ (F_X0_tellStep v1 ((F_X6_takeNumberAbove v2 ((F_X6_takeWord 3 st).2)).1) ((F_X6_takeNumberAbove (-1) ((F_X6_takeNumberAbove v2 ((F_X6_takeWord 3 st).2)).2)).1) ((F_X6_takeNumberAbove (-1) ((F_X6_takeNumberAbove v2 ((F_X6_takeWord 3 st).2)).2)).2)).1 7 ∧ (F_X0_tellStep v1 ((F_X6_takeNumberAbove v2 ((F_X6_takeWord 3 st).2)).1) ((F_X6_takeNumberAbove (-1) ((F_X6_takeNumberAbove v2 ((F_X6_takeWord 3 st).2)).2)).1) ((F_X6_takeNumberAbove (-1) ((F_X6_takeNumberAbove v2 ((F_X6_takeWord 3 st).2)).2)).2)).1 7 ≤ 1000000000 := hO33.1 7
        exact ih ((F_X6_takeNumberAbove v2 ((F_X6_takeWord 3 st).2)).1) (v4 + 1) (F_X0_tellStep v1 ((F_X6_takeNumberAbove v2 ((F_X6_takeWord 3 st).2)).1) ((F_X6_takeNumberAbove (-1) ((F_X6_takeNumberAbove v2 ((F_X6_takeWord 3 st).2)).2)).1) ((F_X6_takeNumberAbove (-1) ((F_X6_takeNumberAbove v2 ((F_X6_takeWord 3 st).2)).2)).2)) ⟨by omega, by omega⟩ ⟨by omega, by omega⟩ (show 0 ≤ v1 ∧ v1 ≤ 5 by omega) (show 0 ≤ ((F_X6_takeNumberAbove v2 ((F_X6_takeWord 3 st).2)).1) ∧ ((F_X6_takeNumberAbove v2 ((F_X6_takeWord 3 st).2)).1) ≤ 999999 by omega) (show 0 ≤ (v4 + 1) ∧ (v4 + 1) ≤ 66 by omega) (show 0 ≤ ((F_X0_tellStep v1 ((F_X6_takeNumberAbove v2 ((F_X6_takeWord 3 st).2)).1) ((F_X6_takeNumberAbove (-1) ((F_X6_takeNumberAbove v2 ((F_X6_takeWord 3 st).2)).2)).1) ((F_X6_takeNumberAbove (-1) ((F_X6_takeNumberAbove v2 ((F_X6_takeWord 3 st).2)).2)).2)).1 5) ∧ ((F_X0_tellStep v1 ((F_X6_takeNumberAbove v2 ((F_X6_takeWord 3 st).2)).1) ((F_X6_takeNumberAbove (-1) ((F_X6_takeNumberAbove v2 ((F_X6_takeWord 3 st).2)).2)).1) ((F_X6_takeNumberAbove (-1) ((F_X6_takeNumberAbove v2 ((F_X6_takeWord 3 st).2)).2)).2)).1 5) ≤ 800000 + 3 * (v4 + 1) by omega) (show 0 ≤ ((F_X0_tellStep v1 ((F_X6_takeNumberAbove v2 ((F_X6_takeWord 3 st).2)).1) ((F_X6_takeNumberAbove (-1) ((F_X6_takeNumberAbove v2 ((F_X6_takeWord 3 st).2)).2)).1) ((F_X6_takeNumberAbove (-1) ((F_X6_takeNumberAbove v2 ((F_X6_takeWord 3 st).2)).2)).2)).1 7) ∧ ((F_X0_tellStep v1 ((F_X6_takeNumberAbove v2 ((F_X6_takeWord 3 st).2)).1) ((F_X6_takeNumberAbove (-1) ((F_X6_takeNumberAbove v2 ((F_X6_takeWord 3 st).2)).2)).1) ((F_X6_takeNumberAbove (-1) ((F_X6_takeNumberAbove v2 ((F_X6_takeWord 3 st).2)).2)).2)).1 7) ≤ 90000 + (v4 + 1) by omega) (show xSC v1 (F_X0_tellStep v1 ((F_X6_takeNumberAbove v2 ((F_X6_takeWord 3 st).2)).1) ((F_X6_takeNumberAbove (-1) ((F_X6_takeNumberAbove v2 ((F_X6_takeWord 3 st).2)).2)).1) ((F_X6_takeNumberAbove (-1) ((F_X6_takeNumberAbove v2 ((F_X6_takeWord 3 st).2)).2)).2)) ≤ (v4 + 1) by omega) (show 66 - (v4 + 1) < ((n : Nat) : Int) by omega) (fun z u e1 e2 r1 => hp z u (by rw [F_X6_takeSteps_5, if_neg c1, if_neg c9, if_neg c17, if_neg c25]; exact e1) (by rw [F_X6_takeSteps_5, if_neg c1, if_neg c9, if_neg c17, if_neg c25]; exact e2) r1)
      refine f_iconst C dX6_takeSteps_57 ?_
      exact f_zret C hret hlk dX6_takeSteps_58 (by decide) (hp _ _ (by rw [F_X6_takeSteps_5, if_neg c1, if_neg c9, if_neg c17, if_pos c25]) (by rw [F_X6_takeSteps_5, if_neg c1, if_neg c9, if_neg c17, if_pos c25]) (by omega))
    refine f_iconst C dX6_takeSteps_37 ?_
    exact f_zret C hret hlk dX6_takeSteps_38 (by decide) (hp _ _ (by rw [F_X6_takeSteps_5, if_neg c1, if_neg c9, if_pos c17]) (by rw [F_X6_takeSteps_5, if_neg c1, if_neg c9, if_pos c17]) (by omega))
set_option maxRecDepth 100000 in
set_option maxHeartbeats 8000000 in
theorem c_X6_takeSteps {l : Launch} {D : va_G} {cI cJ cZ cB : ClassId} {a : Nat → Nat} {E : State → Prop} (hX : xHyp a E) {adK adV : Nat → Nat} {fv : Option Nat} (hES : ∀ U, E U → xE adK adV fv (xA a) U) (p1 : Int) (h1 : in32 p1) (st : fS) (q1 : 0 ≤ p1 ∧ p1 ≤ 5) (q5 : 0 ≤ st.1 5 ∧ st.1 5 ≤ 800000) (q7 : 0 ≤ st.1 7 ∧ st.1 7 ≤ 90000) (q8 : xSC p1 st ≤ 0) : xMi l D cI cJ cZ cB a E yX6_takeSteps wsX6_takeSteps rm_X6_takeSteps [.ref (a 5), .int (zI p1)] st (fun z u => z = (F_X6_takeSteps p1 st).1 ∧ u = (F_X6_takeSteps p1 st).2 ∧ (z = 0 ∨ z = 1)) := by
  refine fB_open (cc := cX6_takeSteps) (maxL := 9) (ret := (some .boolean)) (by decide) rfl (Nat.le_of_ble_eq_true rfl) hX.2 ?_
  intro p e s m below meth c C hret hlk
  have hp : ∀ (z : Int) (u : fS), z = (F_X6_takeSteps p1 st).1 → u = (F_X6_takeSteps p1 st).2 → (z = 0 ∨ z = 1) → z = (F_X6_takeSteps p1 st).1 ∧ u = (F_X6_takeSteps p1 st).2 ∧ (z = 0 ∨ z = 1) := fun z u h1 h2 r1 => ⟨h1, h2, r1⟩
  refine f_lconst C (z := 0) dX6_takeSteps_0 rfl ?_
  refine f_lstore_n C 2 (lv' := [(2, .long (zJ 0)), (0, .ref (a 5)), (1, .int (zI p1))]) dX6_takeSteps_1 rfl (Nat.le_of_ble_eq_true rfl) rfl ?_
  refine f_iconst C dX6_takeSteps_2 ?_
  refine f_istore C (lv' := [(4, .int (zI 0)), (2, .long (zJ 0)), (0, .ref (a 5)), (1, .int (zI p1))]) dX6_takeSteps_3 (Nat.le_of_ble_eq_true rfl) rfl ?_
  refine f_re (lv' := [(0, .ref (a 5)), (1, .int (zI p1)), (2, .long (zJ 0)), (4, .int (zI 0))]) [2, 3, 1, 0] rfl ?_
  refine f_ok (fun hO36 => ?_)
  have k37 : (-1000000000) ≤ st.1 5 ∧ st.1 5 ≤ 1000000000 := hO36.1 5
  have k38 : (-1000000000) ≤ st.1 7 ∧ st.1 7 ≤ 1000000000 := hO36.1 7
  exact v_X6_takeSteps_5 hX hES p1 ⟨by omega, by omega⟩ C hret hlk (Int.toNat (66 - (0 : Int)) + 1) 0 0 st ⟨by omega, by omega⟩ ⟨by omega, by omega⟩ (show 0 ≤ p1 ∧ p1 ≤ 5 by omega) (show 0 ≤ (0 : Int) ∧ (0 : Int) ≤ 999999 by omega) (show 0 ≤ (0 : Int) ∧ (0 : Int) ≤ 66 by omega) (show 0 ≤ (st.1 5) ∧ (st.1 5) ≤ 800000 + 3 * (0 : Int) by omega) (show 0 ≤ (st.1 7) ∧ (st.1 7) ≤ 90000 + (0 : Int) by omega) (show xSC p1 st ≤ (0 : Int) by omega) (show 66 - (0 : Int) < ((Int.toNat (66 - (0 : Int)) + 1 : Nat) : Int) by omega) (fun z u e1 e2 r1 => hp z u (by rw [F_X6_takeSteps]; exact e1) (by rw [F_X6_takeSteps]; exact e2) r1)

def F_X6_takeCap (p1 : Int) (st : fS) : Int × fS := if ((F_X6_takeWord 4 st).1) = 0 then (1, (F_X6_takeWord 4 st).2) else (if ((F_X6_takeNumberAbove (-1) ((F_X6_takeWord 4 st).2)).1) = (-1) then (0, (F_X6_takeNumberAbove (-1) ((F_X6_takeWord 4 st).2)).2) else (1, F_X0_tellCap p1 ((F_X6_takeNumberAbove (-1) ((F_X6_takeWord 4 st).2)).1) ((F_X6_takeNumberAbove (-1) ((F_X6_takeWord 4 st).2)).2)))
abbrev rm_X6_takeCap : Room := { frames := 6, cells := 0, slots := 0, locals := 128 }
set_option maxRecDepth 100000 in
set_option maxHeartbeats 8000000 in
theorem c_X6_takeCap {l : Launch} {D : va_G} {cI cJ cZ cB : ClassId} {a : Nat → Nat} {E : State → Prop} (hX : xHyp a E) {adK adV : Nat → Nat} {fv : Option Nat} (hES : ∀ U, E U → xE adK adV fv (xA a) U) (p1 : Int) (h1 : in32 p1) (st : fS) (q1 : 0 ≤ p1 ∧ p1 ≤ 5) (q5 : 0 ≤ st.1 5 ∧ st.1 5 ≤ 810000) : xMi l D cI cJ cZ cB a E yX6_takeCap wsX6_takeCap rm_X6_takeCap [.ref (a 5), .int (zI p1)] st (fun z u => z = (F_X6_takeCap p1 st).1 ∧ u = (F_X6_takeCap p1 st).2 ∧ (z = 0 ∨ z = 1)) := by
  refine fB_open (cc := cX6_takeCap) (maxL := 4) (ret := (some .boolean)) (by decide) rfl (Nat.le_of_ble_eq_true rfl) hX.2 ?_
  intro p e s m below meth c C hret hlk
  have hin6 : ∀ w ∈ u_ws RX6 TX6 2, w ∈ wsX6_takeCap := by decide +kernel
  have hp : ∀ (z : Int) (u : fS), z = (F_X6_takeCap p1 st).1 → u = (F_X6_takeCap p1 st).2 → (z = 0 ∨ z = 1) → z = (F_X6_takeCap p1 st).1 ∧ u = (F_X6_takeCap p1 st).2 ∧ (z = 0 ∨ z = 1) := fun z u h1 h2 r1 => ⟨h1, h2, r1⟩
  refine f_aload_n C 0 dX6_takeCap_0 rfl rfl ?_
  refine f_ldcS C (hES s C.2.2.1).2.1.2.2.2.2 dX6_takeCap_1 ?_
  refine f_ok (fun hO1 => ?_)
  have k2 : (-1000000000) ≤ st.1 5 ∧ st.1 5 ≤ 1000000000 := hO1.1 5
  refine f_calli C (c_X6_takeWord hX hES 4 (by decide) st (show 0 ≤ (st.1 5) ∧ (st.1 5) ≤ 900000 by omega)) (cwV 1 C.1.2.2.2.2 gX6_takeCap_X6_takeWord rfl rfl rfl (by decide +kernel) ⟨Nat.le_of_ble_eq_true rfl, Nat.le_of_ble_eq_true rfl⟩) 5 rfl rfl rfl rfl rfl (Nat.le_of_ble_eq_true rfl) ⟨Nat.zero_le _, Nat.zero_le _⟩ dX6_takeCap_3 (fun z u hz3 hu => ?_)
  obtain ⟨qz3, hu, rz3⟩ := hu; replace hu := hu.symm; subst hu; subst qz3
  have k4 : ((F_X6_takeWord 4 st).2).1 5 ≤ st.1 5 + 1 ∧ st.1 5 ≤ ((F_X6_takeWord 4 st).2).1 5 := (tkw_k2 4 st).2.2
  have k5 : ((F_X6_takeWord 4 st).2).1 7 = st.1 7 := (tkw_k2 4 st).1 7 (by decide) (by decide) (by decide)
  have k6 : ((F_X6_takeWord 4 st).2).1 6 = st.1 6 := (tkw_k2 4 st).1 6 (by decide) (by decide) (by decide)
  refine f_if_ne C 11 ⟨by omega, by omega⟩ dX6_takeCap_6 (by decide) (fun c7 => ?_) (fun c7 => ?_)
  · refine f_aload_n C 0 dX6_takeCap_11 rfl rfl ?_
    refine f_ldc2 C (v := (-1)) (z := (-1)) (by decide +kernel) (by decide) dX6_takeCap_12 ?_
    refine f_ok (fun hO8 => ?_)
    have k9 : (-1000000000) ≤ ((F_X6_takeWord 4 st).2).1 5 ∧ ((F_X6_takeWord 4 st).2).1 5 ≤ 1000000000 := hO8.1 5
    refine f_calll C (c_X6_takeNumberAbove hX (-1) ⟨by decide, by decide⟩ ((F_X6_takeWord 4 st).2) (show 0 ≤ (((F_X6_takeWord 4 st).2).1 5) ∧ (((F_X6_takeWord 4 st).2).1 5) ≤ 900000 by omega)) (cwV 1 C.1.2.2.2.2 gX6_takeCap_X6_takeNumberAbove rfl rfl rfl (by decide +kernel) ⟨Nat.le_of_ble_eq_true rfl, Nat.le_of_ble_eq_true rfl⟩) 5 rfl rfl rfl rfl rfl (Nat.le_of_ble_eq_true rfl) ⟨Nat.zero_le _, Nat.zero_le _⟩ dX6_takeCap_15 (fun z u hz10 hu => ?_)
    obtain ⟨qz10, hu, rz10⟩ := hu; replace hu := hu.symm; subst hu; subst qz10
    have k11 : ((F_X6_takeNumberAbove (-1) ((F_X6_takeWord 4 st).2)).2).1 5 ≤ ((F_X6_takeWord 4 st).2).1 5 + 1 ∧ ((F_X6_takeWord 4 st).2).1 5 ≤ ((F_X6_takeNumberAbove (-1) ((F_X6_takeWord 4 st).2)).2).1 5 := (tna_k (-1) ((F_X6_takeWord 4 st).2)).2.2
    have k12 : ((F_X6_takeNumberAbove (-1) ((F_X6_takeWord 4 st).2)).2).1 7 = ((F_X6_takeWord 4 st).2).1 7 := (tna_k (-1) ((F_X6_takeWord 4 st).2)).1 7 (by decide) (by decide) (by decide)
    have k13 : ((F_X6_takeNumberAbove (-1) ((F_X6_takeWord 4 st).2)).2).1 6 = ((F_X6_takeWord 4 st).2).1 6 := (tna_k (-1) ((F_X6_takeWord 4 st).2)).1 6 (by decide) (by decide) (by decide)
    refine f_lstore_n C 2 (lv' := [(2, .long (zJ ((F_X6_takeNumberAbove (-1) ((F_X6_takeWord 4 st).2)).1))), (0, .ref (a 5)), (1, .int (zI p1))]) dX6_takeCap_18 rfl (Nat.le_of_ble_eq_true rfl) rfl ?_
    refine f_lload_n C 2 dX6_takeCap_19 rfl rfl ?_
    refine f_ldc2 C (v := (-1)) (z := (-1)) (by decide +kernel) (by decide) dX6_takeCap_20 ?_
    refine f_lc_if_ne C 29 ⟨by omega, by omega⟩ ⟨by decide, by decide⟩ dX6_takeCap_23 dX6_takeCap_24 (by decide) (fun c14 => ?_) (fun c14 => ?_)
    · refine f_aload_n C 0 dX6_takeCap_29 rfl rfl ?_
      refine f_get C hin6 5 1 rfl rfl (Nat.le_of_ble_eq_true rfl) (by decide +kernel) rfl rfl dX6_takeCap_30 ?_
      refine f_iload_n C 1 dX6_takeCap_33 rfl rfl ?_
      refine f_lload_n C 2 dX6_takeCap_34 rfl rfl ?_
      refine f_callv C (c_X0_tellCap hX p1 ((F_X6_takeNumberAbove (-1) ((F_X6_takeWord 4 st).2)).1) ⟨by omega, by omega⟩ ⟨by omega, by omega⟩ ((F_X6_takeNumberAbove (-1) ((F_X6_takeWord 4 st).2)).2) (show (-1000000) ≤ p1 ∧ p1 ≤ 1000000 by omega) (show 0 ≤ ((F_X6_takeNumberAbove (-1) ((F_X6_takeWord 4 st).2)).1) ∧ ((F_X6_takeNumberAbove (-1) ((F_X6_takeWord 4 st).2)).1) ≤ 999999 by omega)) (cwV 2 C.1.2.2.2.2 gX6_takeCap_X0_tellCap rfl rfl rfl (by decide +kernel) ⟨Nat.le_of_ble_eq_true rfl, Nat.le_of_ble_eq_true rfl⟩) 4 rfl rfl rfl rfl rfl (Nat.le_of_ble_eq_true rfl) ⟨Nat.zero_le _, Nat.zero_le _⟩ dX6_takeCap_35 (fun u hu => ?_)
      replace hu := hu.symm; subst hu
      have k16 : (F_X0_tellCap p1 ((F_X6_takeNumberAbove (-1) ((F_X6_takeWord 4 st).2)).1) ((F_X6_takeNumberAbove (-1) ((F_X6_takeWord 4 st).2)).2)).1 5 = ((F_X6_takeNumberAbove (-1) ((F_X6_takeWord 4 st).2)).2).1 5 := rfl
      have k17 : (F_X0_tellCap p1 ((F_X6_takeNumberAbove (-1) ((F_X6_takeWord 4 st).2)).1) ((F_X6_takeNumberAbove (-1) ((F_X6_takeWord 4 st).2)).2)).1 7 = ((F_X6_takeNumberAbove (-1) ((F_X6_takeWord 4 st).2)).2).1 7 := rfl
      have k18 : (F_X0_tellCap p1 ((F_X6_takeNumberAbove (-1) ((F_X6_takeWord 4 st).2)).1) ((F_X6_takeNumberAbove (-1) ((F_X6_takeWord 4 st).2)).2)).1 6 = ((F_X6_takeNumberAbove (-1) ((F_X6_takeWord 4 st).2)).2).1 6 := rfl
      refine f_iconst C dX6_takeCap_38 ?_
      exact f_zret C hret hlk dX6_takeCap_39 (by decide) (hp _ _ (by rw [F_X6_takeCap, if_neg c7, if_neg c14]) (by rw [F_X6_takeCap, if_neg c7, if_neg c14]) (by omega))
    refine f_iconst C dX6_takeCap_27 ?_
    exact f_zret C hret hlk dX6_takeCap_28 (by decide) (hp _ _ (by rw [F_X6_takeCap, if_neg c7, if_pos c14]) (by rw [F_X6_takeCap, if_neg c7, if_pos c14]) (by omega))
  refine f_iconst C dX6_takeCap_9 ?_
  exact f_zret C hret hlk dX6_takeCap_10 (by decide) (hp _ _ (by rw [F_X6_takeCap, if_pos c7]) (by rw [F_X6_takeCap, if_pos c7]) (by omega))

/-- how far the mark counts, how many steps are told -/
def rK (a b : Int) (st u : fS) : Prop := u.1 6 = st.1 6 ∧ (st.1 5 ≤ u.1 5 ∧ u.1 5 ≤ st.1 5 + a) ∧ (st.1 7 ≤ u.1 7 ∧ u.1 7 ≤ st.1 7 + b)
theorem rK.tr {a b c d : Int} {s t u : fS} (h : rK a b s t) (g : rK c d t u) : rK (a + c) (b + d) s u := by
  obtain ⟨h1, h2, h3⟩ := h
  obtain ⟨g1, g2, g3⟩ := g
  exact ⟨g1.trans h1, ⟨by omega, by omega⟩, ⟨by omega, by omega⟩⟩
theorem rK.w {a b c d : Int} {s u : fS} (h : rK a b s u) (h1 : a ≤ c) (h2 : b ≤ d) : rK c d s u := by
  obtain ⟨g1, g2, g3⟩ := h
  exact ⟨g1, ⟨by omega, by omega⟩, ⟨by omega, by omega⟩⟩
theorem rK.of {j : Int} {s u : fS} (h : tKeep j s u) : rK j 0 s u := by
  have h7 := h.1 7 (by decide) (by decide) (by decide)
  exact ⟨h.1 6 (by decide) (by decide) (by decide), ⟨h.2.2.2, h.2.2.1⟩, ⟨by omega, by omega⟩⟩
theorem rk_tkw (i : Nat) (st : fS) : rK 1 0 st (F_X6_takeWord i st).2 := rK.of (tkw_k2 i st)
theorem rk_tna (v : Int) (st : fS) : rK 1 0 st (F_X6_takeNumberAbove v st).2 := rK.of (tna_k v st)
theorem rk_rule (k s p : Int) (st : fS) : rK 0 0 st (F_X0_tellRule k s p st) := ⟨rfl, ⟨by show st.1 5 ≤ st.1 5; omega, by show st.1 5 ≤ st.1 5 + 0; omega⟩, ⟨by show st.1 7 ≤ st.1 7; omega, by show st.1 7 ≤ st.1 7 + 0; omega⟩⟩
theorem rk_step (k s p : Int) (st : fS) : rK 0 1 st (F_X0_tellStep k s p st) := ⟨rfl, ⟨by show st.1 5 ≤ st.1 5; omega, by show st.1 5 ≤ st.1 5 + 0; omega⟩, ⟨by show st.1 7 ≤ st.1 7 + 1; omega, by show st.1 7 + 1 ≤ st.1 7 + 1; omega⟩⟩
theorem rk_cap (k s : Int) (st : fS) : rK 0 0 st (F_X0_tellCap k s st) := ⟨rfl, ⟨by show st.1 5 ≤ st.1 5; omega, by show st.1 5 ≤ st.1 5 + 0; omega⟩, ⟨by show st.1 7 ≤ st.1 7; omega, by show st.1 7 ≤ st.1 7 + 0; omega⟩⟩
theorem tpr_k (k : Int) (st : fS) : rK 4 0 st (F_X6_takePrice k st).2 ∧ (¬ (F_X6_takePrice k st).1 = 0 → xSC k (F_X6_takePrice k st).2 ≤ 0) := by
  rw [F_X6_takePrice]
  have h1 := rk_tkw 1 st
  have h2 := h1.tr (rk_tna (-1) (F_X6_takeWord 1 st).2)
  have h3 := h2.tr (rk_tkw 2 (F_X6_takeNumberAbove (-1) (F_X6_takeWord 1 st).2).2)
  have h4 := h3.tr (rk_tna (-1) (F_X6_takeWord 2 (F_X6_takeNumberAbove (-1) (F_X6_takeWord 1 st).2).2).2)
  split
  · exact ⟨h1.w (by decide) (by decide), fun h => absurd rfl h⟩
  split
  · exact ⟨h2.w (by decide) (by decide), fun h => absurd rfl h⟩
  split
  · exact ⟨h3.w (by decide) (by decide), fun h => absurd rfl h⟩
  split
  · exact ⟨h4.w (by decide) (by decide), fun h => absurd rfl h⟩
  · exact ⟨(h4.tr (rk_rule _ _ _ _)).w (by decide) (by decide), fun _ => xSC_rule _ _ _ _⟩
theorem tst5_k (k : Int) : ∀ (n : Nat) (v2 v4 : Int) (st : fS), 0 ≤ v4 → v4 ≤ 66 → rK (3 * (66 - v4) + 1) (66 - v4) st (F_X6_takeSteps_5 k n v2 v4 st).2 := by
  intro n
  induction n with
  | zero => intro v2 v4 st h0 h; rw [F_X6_takeSteps_5]; exact (tKeep.rf st |> rK.of).w (by omega) (by omega)
  | succ n ih =>
    intro v2 v4 st h0 h
    rw [F_X6_takeSteps_5]
    have h1 := rk_tkw 3 st
    have h2 := h1.tr (rk_tna v2 (F_X6_takeWord 3 st).2)
    have h3 := h2.tr (rk_tna (-1) (F_X6_takeNumberAbove v2 (F_X6_takeWord 3 st).2).2)
    split
    · exact (tKeep.rf st |> rK.of).w (by omega) (by omega)
    split
    · exact h1.w (by omega) (by omega)
    split
    · exact h2.w (by omega) (by omega)
    split
    · exact h3.w (by omega) (by omega)
    · have h4 := h3.tr (rk_step k (F_X6_takeNumberAbove v2 (F_X6_takeWord 3 st).2).1 (F_X6_takeNumberAbove (-1) (F_X6_takeNumberAbove v2 (F_X6_takeWord 3 st).2).2).1 (F_X6_takeNumberAbove (-1) (F_X6_takeNumberAbove v2 (F_X6_takeWord 3 st).2).2).2)
      exact (h4.tr (ih _ (v4 + 1) _ (by omega) (by omega))).w (by omega) (by omega)
theorem tst_k (k : Int) (st : fS) : rK 199 66 st (F_X6_takeSteps k st).2 := by
  rw [F_X6_takeSteps]
  exact (tst5_k k _ 0 0 st (by omega) (by omega)).w (by decide) (by decide)
theorem tcp_k (k : Int) (st : fS) : rK 2 0 st (F_X6_takeCap k st).2 := by
  rw [F_X6_takeCap]
  have h1 := rk_tkw 4 st
  have h2 := h1.tr (rk_tna (-1) (F_X6_takeWord 4 st).2)
  split
  · exact h1.w (by decide) (by decide)
  split
  · exact h2.w (by decide) (by decide)
  · exact (h2.tr (rk_cap _ _ _)).w (by decide) (by decide)

def F_X6_takeRule (st : fS) : Int × fS := if ((F_X6_takeWord 0 st).1) = 0 then (0, (F_X6_takeWord 0 st).2) else (if (F_X7_asNumber ((F_X6_takeWord 0 st).2)) < 0 then (0, (F_X6_takeWord 0 st).2) else (if 6 ≤ (F_X7_asNumber ((F_X6_takeWord 0 st).2)) then (0, (F_X6_takeWord 0 st).2) else (if (F_X0_draftHasRule (F_X7_asNumber ((F_X6_takeWord 0 st).2)) ((F_X6_takeWord 0 st).2)) = 0 then (if ((F_X6_takePrice (F_X7_asNumber ((F_X6_takeWord 0 st).2)) (F_X7_toNextWord ((F_X6_takeWord 0 st).2))).1) = 0 then (0, (F_X6_takePrice (F_X7_asNumber ((F_X6_takeWord 0 st).2)) (F_X7_toNextWord ((F_X6_takeWord 0 st).2))).2) else (if ((F_X6_takeSteps (F_X7_asNumber ((F_X6_takeWord 0 st).2)) ((F_X6_takePrice (F_X7_asNumber ((F_X6_takeWord 0 st).2)) (F_X7_toNextWord ((F_X6_takeWord 0 st).2))).2)).1) = 0 then (0, (F_X6_takeSteps (F_X7_asNumber ((F_X6_takeWord 0 st).2)) ((F_X6_takePrice (F_X7_asNumber ((F_X6_takeWord 0 st).2)) (F_X7_toNextWord ((F_X6_takeWord 0 st).2))).2)).2) else (if ((F_X6_takeCap (F_X7_asNumber ((F_X6_takeWord 0 st).2)) ((F_X6_takeSteps (F_X7_asNumber ((F_X6_takeWord 0 st).2)) ((F_X6_takePrice (F_X7_asNumber ((F_X6_takeWord 0 st).2)) (F_X7_toNextWord ((F_X6_takeWord 0 st).2))).2)).2)).1) = 0 then (0, (F_X6_takeCap (F_X7_asNumber ((F_X6_takeWord 0 st).2)) ((F_X6_takeSteps (F_X7_asNumber ((F_X6_takeWord 0 st).2)) ((F_X6_takePrice (F_X7_asNumber ((F_X6_takeWord 0 st).2)) (F_X7_toNextWord ((F_X6_takeWord 0 st).2))).2)).2)).2) else (1, (F_X6_takeCap (F_X7_asNumber ((F_X6_takeWord 0 st).2)) ((F_X6_takeSteps (F_X7_asNumber ((F_X6_takeWord 0 st).2)) ((F_X6_takePrice (F_X7_asNumber ((F_X6_takeWord 0 st).2)) (F_X7_toNextWord ((F_X6_takeWord 0 st).2))).2)).2)).2)))) else (0, (F_X6_takeWord 0 st).2))))
abbrev rm_X6_takeRule : Room := { frames := 7, cells := 0, slots := 0, locals := 156 }
set_option maxRecDepth 100000 in
set_option maxHeartbeats 8000000 in
theorem c_X6_takeRule {l : Launch} {D : va_G} {cI cJ cZ cB : ClassId} {a : Nat → Nat} {E : State → Prop} (hX : xHyp a E) {adK adV : Nat → Nat} {fv : Option Nat} (hES : ∀ U, E U → xE adK adV fv (xA a) U)   (st : fS) (q5 : 0 ≤ st.1 5 ∧ st.1 5 ≤ 790000) (q7 : 0 ≤ st.1 7 ∧ st.1 7 ≤ 80000) : xMi l D cI cJ cZ cB a E yX6_takeRule wsX6_takeRule rm_X6_takeRule [.ref (a 5)] st (fun z u => z = (F_X6_takeRule st).1 ∧ u = (F_X6_takeRule st).2 ∧ (z = 0 ∨ z = 1)) := by
  refine fB_open (cc := cX6_takeRule) (maxL := 4) (ret := (some .boolean)) (by decide) rfl (Nat.le_of_ble_eq_true rfl) hX.2 ?_
  intro p e s m below meth c C hret hlk
  have hin6 : ∀ w ∈ u_ws RX6 TX6 2, w ∈ wsX6_takeRule := by decide +kernel
  have hp : ∀ (z : Int) (u : fS), z = (F_X6_takeRule st).1 → u = (F_X6_takeRule st).2 → (z = 0 ∨ z = 1) → z = (F_X6_takeRule st).1 ∧ u = (F_X6_takeRule st).2 ∧ (z = 0 ∨ z = 1) := fun z u h1 h2 r1 => ⟨h1, h2, r1⟩
  refine f_aload_n C 0 dX6_takeRule_0 rfl rfl ?_
  refine f_ldcS C (hES s C.2.2.1).2.1.1 dX6_takeRule_1 ?_
  refine f_ok (fun hO1 => ?_)
  have k2 : (-1000000000) ≤ st.1 5 ∧ st.1 5 ≤ 1000000000 := hO1.1 5
  refine f_calli C (c_X6_takeWord hX hES 0 (by decide) st (show 0 ≤ (st.1 5) ∧ (st.1 5) ≤ 900000 by omega)) (cwV 1 C.1.2.2.2.2 gX6_takeRule_X6_takeWord rfl rfl rfl (by decide +kernel) ⟨Nat.le_of_ble_eq_true rfl, Nat.le_of_ble_eq_true rfl⟩) 5 rfl rfl rfl rfl rfl (Nat.le_of_ble_eq_true rfl) ⟨Nat.zero_le _, Nat.zero_le _⟩ dX6_takeRule_3 (fun z u hz3 hu => ?_)
  obtain ⟨qz3, hu, rz3⟩ := hu; replace hu := hu.symm; subst hu; subst qz3
  have k4 : ((F_X6_takeWord 0 st).2).1 5 ≤ st.1 5 + 1 ∧ st.1 5 ≤ ((F_X6_takeWord 0 st).2).1 5 := (tkw_k2 0 st).2.2
  have k5 : ((F_X6_takeWord 0 st).2).1 7 = st.1 7 := (tkw_k2 0 st).1 7 (by decide) (by decide) (by decide)
  have k6 : ((F_X6_takeWord 0 st).2).1 6 = st.1 6 := (tkw_k2 0 st).1 6 (by decide) (by decide) (by decide)
  refine f_if_ne C 11 ⟨by omega, by omega⟩ dX6_takeRule_6 (by decide) (fun c7 => ?_) (fun c7 => ?_)
  · refine f_aload_n C 0 dX6_takeRule_11 rfl rfl ?_
    refine f_get C hin6 5 0 rfl rfl (Nat.le_of_ble_eq_true rfl) (by decide +kernel) rfl rfl dX6_takeRule_12 ?_
    refine f_calll C (c_X7_asNumber hX ((F_X6_takeWord 0 st).2)) (cwV 0 C.1.2.2.2.2 gX6_takeRule_X7_asNumber rfl rfl rfl (by decide +kernel) ⟨Nat.le_of_ble_eq_true rfl, Nat.le_of_ble_eq_true rfl⟩) 3 rfl rfl rfl rfl rfl (Nat.le_of_ble_eq_true rfl) ⟨Nat.zero_le _, Nat.zero_le _⟩ dX6_takeRule_15 (fun z u hz8 hu => ?_)
    obtain ⟨qz8, hu, rz8⟩ := hu; replace hu := hu.symm; subst hu; subst qz8
    refine f_lstore_n C 1 (lv' := [(1, .long (zJ (F_X7_asNumber ((F_X6_takeWord 0 st).2)))), (0, .ref (a 5))]) dX6_takeRule_18 rfl (Nat.le_of_ble_eq_true rfl) rfl ?_
    refine f_lload_n C 1 dX6_takeRule_19 rfl rfl ?_
    refine f_lconst C (z := 0) dX6_takeRule_20 rfl ?_
    refine f_lc_if_lt C 45 ⟨by omega, by omega⟩ ⟨by decide, by decide⟩ dX6_takeRule_21 dX6_takeRule_22 (by decide) (fun c9 => ?_) (fun c9 => ?_)
    · refine f_iconst C dX6_takeRule_45 ?_
      exact f_zret C hret hlk dX6_takeRule_46 (by decide) (hp _ _ (by rw [F_X6_takeRule, if_neg c7, if_pos c9]) (by rw [F_X6_takeRule, if_neg c7, if_pos c9]) (by omega))
    refine f_lload_n C 1 dX6_takeRule_25 rfl rfl ?_
    refine f_ldc2 C (v := 6) (z := 6) (by decide +kernel) (by decide) dX6_takeRule_26 ?_
    refine f_lc_if_ge C 45 ⟨by omega, by omega⟩ ⟨by decide, by decide⟩ dX6_takeRule_29 dX6_takeRule_30 (by decide) (fun c10 => ?_) (fun c10 => ?_)
    · refine f_iconst C dX6_takeRule_45 ?_
      exact f_zret C hret hlk dX6_takeRule_46 (by decide) (hp _ _ (by rw [F_X6_takeRule, if_neg c7, if_neg c9, if_pos c10]) (by rw [F_X6_takeRule, if_neg c7, if_neg c9, if_pos c10]) (by omega))
    refine f_aload_n C 0 dX6_takeRule_33 rfl rfl ?_
    refine f_get C hin6 5 1 rfl rfl (Nat.le_of_ble_eq_true rfl) (by decide +kernel) rfl rfl dX6_takeRule_34 ?_
    refine f_lload_n C 1 dX6_takeRule_37 rfl rfl ?_
    refine f_l2i C dX6_takeRule_38 ?_
    refine f_calli C (c_X0_draftHasRule hX (F_X7_asNumber ((F_X6_takeWord 0 st).2)) ⟨by omega, by omega⟩ ((F_X6_takeWord 0 st).2) (show (-1000000) ≤ (F_X7_asNumber ((F_X6_takeWord 0 st).2)) ∧ (F_X7_asNumber ((F_X6_takeWord 0 st).2)) ≤ 1000000 by omega)) (cwV 1 C.1.2.2.2.2 gX6_takeRule_X0_draftHasRule rfl rfl rfl (by decide +kernel) ⟨Nat.le_of_ble_eq_true rfl, Nat.le_of_ble_eq_true rfl⟩) 4 rfl rfl rfl rfl rfl (Nat.le_of_ble_eq_true rfl) ⟨Nat.zero_le _, Nat.zero_le _⟩ dX6_takeRule_39 (fun z u hz11 hu => ?_)
    obtain ⟨qz11, hu, rz11⟩ := hu; replace hu := hu.symm; subst hu; subst qz11
    refine f_if_eq C 47 ⟨by omega, by omega⟩ dX6_takeRule_42 (by decide) (fun c12 => ?_) (fun c12 => ?_)
    · refine f_aload_n C 0 dX6_takeRule_47 rfl rfl ?_
      refine f_get C hin6 5 0 rfl rfl (Nat.le_of_ble_eq_true rfl) (by decide +kernel) rfl rfl dX6_takeRule_48 ?_
      refine f_ok (fun hO13 => ?_)
      have k14 : (-1000000000) ≤ ((F_X6_takeWord 0 st).2).1 5 ∧ ((F_X6_takeWord 0 st).2).1 5 ≤ 1000000000 := hO13.1 5
      refine f_callv C (c_X7_toNextWord hX ((F_X6_takeWord 0 st).2) (show 0 ≤ (((F_X6_takeWord 0 st).2).1 5) ∧ (((F_X6_takeWord 0 st).2).1 5) ≤ 1000000 by omega)) (cwV 0 C.1.2.2.2.2 gX6_takeRule_X7_toNextWord rfl rfl rfl (by decide +kernel) ⟨Nat.le_of_ble_eq_true rfl, Nat.le_of_ble_eq_true rfl⟩) 3 rfl rfl rfl rfl rfl (Nat.le_of_ble_eq_true rfl) ⟨Nat.zero_le _, Nat.zero_le _⟩ dX6_takeRule_51 (fun u hu => ?_)
      replace hu := hu.symm; subst hu
      have k16 : (F_X7_toNextWord ((F_X6_takeWord 0 st).2)).1 5 ≤ ((F_X6_takeWord 0 st).2).1 5 + 1 ∧ ((F_X6_takeWord 0 st).2).1 5 ≤ (F_X7_toNextWord ((F_X6_takeWord 0 st).2)).1 5 := (tnw_k ((F_X6_takeWord 0 st).2)).2.2
      have k17 : (F_X7_toNextWord ((F_X6_takeWord 0 st).2)).1 7 = ((F_X6_takeWord 0 st).2).1 7 := (tnw_k ((F_X6_takeWord 0 st).2)).1 7 (by decide) (by decide) (by decide)
      have k18 : (F_X7_toNextWord ((F_X6_takeWord 0 st).2)).1 6 = ((F_X6_takeWord 0 st).2).1 6 := (tnw_k ((F_X6_takeWord 0 st).2)).1 6 (by decide) (by decide) (by decide)
      refine f_lload_n C 1 dX6_takeRule_54 rfl rfl ?_
      refine f_l2i C dX6_takeRule_55 ?_
      refine f_istore_n C 3 (lv' := [(3, .int (zI (F_X7_asNumber ((F_X6_takeWord 0 st).2)))), (1, .long (zJ (F_X7_asNumber ((F_X6_takeWord 0 st).2)))), (0, .ref (a 5))]) dX6_takeRule_56 rfl (Nat.le_of_ble_eq_true rfl) rfl ?_
      refine f_aload_n C 0 dX6_takeRule_57 rfl rfl ?_
      refine f_iload_n C 3 dX6_takeRule_58 rfl rfl ?_
      refine f_ok (fun hO19 => ?_)
      have k20 : (-1000000000) ≤ (F_X7_toNextWord ((F_X6_takeWord 0 st).2)).1 5 ∧ (F_X7_toNextWord ((F_X6_takeWord 0 st).2)).1 5 ≤ 1000000000 := hO19.1 5
      have k21 : (-1000000000) ≤ (F_X7_toNextWord ((F_X6_takeWord 0 st).2)).1 7 ∧ (F_X7_toNextWord ((F_X6_takeWord 0 st).2)).1 7 ≤ 1000000000 := hO19.1 7
      refine f_calli C (c_X6_takePrice hX hES (F_X7_asNumber ((F_X6_takeWord 0 st).2)) ⟨by omega, by omega⟩ (F_X7_toNextWord ((F_X6_takeWord 0 st).2)) (show 0 ≤ (F_X7_asNumber ((F_X6_takeWord 0 st).2)) ∧ (F_X7_asNumber ((F_X6_takeWord 0 st).2)) ≤ 5 by omega) (show 0 ≤ ((F_X7_toNextWord ((F_X6_takeWord 0 st).2)).1 5) ∧ ((F_X7_toNextWord ((F_X6_takeWord 0 st).2)).1 5) ≤ 800000 by omega) (show 0 ≤ ((F_X7_toNextWord ((F_X6_takeWord 0 st).2)).1 7) ∧ ((F_X7_toNextWord ((F_X6_takeWord 0 st).2)).1 7) ≤ 100000 by omega)) (cwV 1 C.1.2.2.2.2 gX6_takeRule_X6_takePrice rfl rfl rfl (by decide +kernel) ⟨Nat.le_of_ble_eq_true rfl, Nat.le_of_ble_eq_true rfl⟩) 5 rfl rfl rfl rfl rfl (Nat.le_of_ble_eq_true rfl) ⟨Nat.zero_le _, Nat.zero_le _⟩ dX6_takeRule_59 (fun z u hz22 hu => ?_)
      obtain ⟨qz22, hu, rz22⟩ := hu; replace hu := hu.symm; subst hu; subst qz22
      have k23 : ((F_X7_toNextWord ((F_X6_takeWord 0 st).2)).1 5 ≤ ((F_X6_takePrice (F_X7_asNumber ((F_X6_takeWord 0 st).2)) (F_X7_toNextWord ((F_X6_takeWord 0 st).2))).2).1 5 ∧ ((F_X6_takePrice (F_X7_asNumber ((F_X6_takeWord 0 st).2)) (F_X7_toNextWord ((F_X6_takeWord 0 st).2))).2).1 5 ≤ (F_X7_toNextWord ((F_X6_takeWord 0 st).2)).1 5 + 4) := (tpr_k (F_X7_asNumber ((F_X6_takeWord 0 st).2)) (F_X7_toNextWord ((F_X6_takeWord 0 st).2))).1.2.1
      have k24 : ((F_X7_toNextWord ((F_X6_takeWord 0 st).2)).1 7 ≤ ((F_X6_takePrice (F_X7_asNumber ((F_X6_takeWord 0 st).2)) (F_X7_toNextWord ((F_X6_takeWord 0 st).2))).2).1 7 ∧ ((F_X6_takePrice (F_X7_asNumber ((F_X6_takeWord 0 st).2)) (F_X7_toNextWord ((F_X6_takeWord 0 st).2))).2).1 7 ≤ (F_X7_toNextWord ((F_X6_takeWord 0 st).2)).1 7 + 0) := (tpr_k (F_X7_asNumber ((F_X6_takeWord 0 st).2)) (F_X7_toNextWord ((F_X6_takeWord 0 st).2))).1.2.2
      have k25 : ((F_X6_takePrice (F_X7_asNumber ((F_X6_takeWord 0 st).2)) (F_X7_toNextWord ((F_X6_takeWord 0 st).2))).2).1 6 = (F_X7_toNextWord ((F_X6_takeWord 0 st).2)).1 6 := (tpr_k (F_X7_asNumber ((F_X6_takeWord 0 st).2)) (F_X7_toNextWord ((F_X6_takeWord 0 st).2))).1.1
      have k26 : ¬ (F_X6_takePrice (F_X7_asNumber ((F_X6_takeWord 0 st).2)) (F_X7_toNextWord ((F_X6_takeWord 0 st).2))).1 = 0 → xSC (F_X7_asNumber ((F_X6_takeWord 0 st).2)) ((F_X6_takePrice (F_X7_asNumber ((F_X6_takeWord 0 st).2)) (F_X7_toNextWord ((F_X6_takeWord 0 st).2))).2) ≤ 0 := (tpr_k (F_X7_asNumber ((F_X6_takeWord 0 st).2)) (F_X7_toNextWord ((F_X6_takeWord 0 st).2))).2
      refine f_if_eq C 85 ⟨by omega, by omega⟩ dX6_takeRule_62 (by decide) (fun c27 => ?_) (fun c27 => ?_)
      · refine f_iconst C dX6_takeRule_85 ?_
        exact f_zret C hret hlk dX6_takeRule_86 (by decide) (hp _ _ (by rw [F_X6_takeRule, if_neg c7, if_neg c9, if_neg c10, if_pos c12, if_pos c27]) (by rw [F_X6_takeRule, if_neg c7, if_neg c9, if_neg c10, if_pos c12, if_pos c27]) (by omega))
      refine f_aload_n C 0 dX6_takeRule_65 rfl rfl ?_
      refine f_iload_n C 3 dX6_takeRule_66 rfl rfl ?_
      refine f_ok (fun hO28 => ?_)
      have k29 : (-1000000000) ≤ ((F_X6_takePrice (F_X7_asNumber ((F_X6_takeWord 0 st).2)) (F_X7_toNextWord ((F_X6_takeWord 0 st).2))).2).1 5 ∧ ((F_X6_takePrice (F_X7_asNumber ((F_X6_takeWord 0 st).2)) (F_X7_toNextWord ((F_X6_takeWord 0 st).2))).2).1 5 ≤ 1000000000 := hO28.1 5
      have k30 : (-1000000000) ≤ ((F_X6_takePrice (F_X7_asNumber ((F_X6_takeWord 0 st).2)) (F_X7_toNextWord ((F_X6_takeWord 0 st).2))).2).1 7 ∧ ((F_X6_takePrice (F_X7_asNumber ((F_X6_takeWord 0 st).2)) (F_X7_toNextWord ((F_X6_takeWord 0 st).2))).2).1 7 ≤ 1000000000 := hO28.1 7
      refine f_calli C (c_X6_takeSteps hX hES (F_X7_asNumber ((F_X6_takeWord 0 st).2)) ⟨by omega, by omega⟩ ((F_X6_takePrice (F_X7_asNumber ((F_X6_takeWord 0 st).2)) (F_X7_toNextWord ((F_X6_takeWord 0 st).2))).2) (show 0 ≤ (F_X7_asNumber ((F_X6_takeWord 0 st).2)) ∧ (F_X7_asNumber ((F_X6_takeWord 0 st).2)) ≤ 5 by omega) (show 0 ≤ (((F_X6_takePrice (F_X7_asNumber ((F_X6_takeWord 0 st).2)) (F_X7_toNextWord ((F_X6_takeWord 0 st).2))).2).1 5) ∧ (((F_X6_takePrice (F_X7_asNumber ((F_X6_takeWord 0 st).2)) (F_X7_toNextWord ((F_X6_takeWord 0 st).2))).2).1 5) ≤ 800000 by omega) (show 0 ≤ (((F_X6_takePrice (F_X7_asNumber ((F_X6_takeWord 0 st).2)) (F_X7_toNextWord ((F_X6_takeWord 0 st).2))).2).1 7) ∧ (((F_X6_takePrice (F_X7_asNumber ((F_X6_takeWord 0 st).2)) (F_X7_toNextWord ((F_X6_takeWord 0 st).2))).2).1 7) ≤ 90000 by omega) (show xSC (F_X7_asNumber ((F_X6_takeWord 0 st).2)) ((F_X6_takePrice (F_X7_asNumber ((F_X6_takeWord 0 st).2)) (F_X7_toNextWord ((F_X6_takeWord 0 st).2))).2) ≤ 0 by omega)) (cwV 1 C.1.2.2.2.2 gX6_takeRule_X6_takeSteps rfl rfl rfl (by decide +kernel) ⟨Nat.le_of_ble_eq_true rfl, Nat.le_of_ble_eq_true rfl⟩) 5 rfl rfl rfl rfl rfl (Nat.le_of_ble_eq_true rfl) ⟨Nat.zero_le _, Nat.zero_le _⟩ dX6_takeRule_67 (fun z u hz31 hu => ?_)
      obtain ⟨qz31, hu, rz31⟩ := hu; replace hu := hu.symm; subst hu; subst qz31
      have k32 : (((F_X6_takePrice (F_X7_asNumber ((F_X6_takeWord 0 st).2)) (F_X7_toNextWord ((F_X6_takeWord 0 st).2))).2).1 5 ≤ ((F_X6_takeSteps (F_X7_asNumber ((F_X6_takeWord 0 st).2)) ((F_X6_takePrice (F_X7_asNumber ((F_X6_takeWord 0 st).2)) (F_X7_toNextWord ((F_X6_takeWord 0 st).2))).2)).2).1 5 ∧ ((F_X6_takeSteps (F_X7_asNumber ((F_X6_takeWord 0 st).2)) ((F_X6_takePrice (F_X7_asNumber ((F_X6_takeWord 0 st).2)) (F_X7_toNextWord ((F_X6_takeWord 0 st).2))).2)).2).1 5 ≤ ((F_X6_takePrice (F_X7_asNumber ((F_X6_takeWord 0 st).2)) (F_X7_toNextWord ((F_X6_takeWord 0 st).2))).2).1 5 + 199) := (tst_k (F_X7_asNumber ((F_X6_takeWord 0 st).2)) ((F_X6_takePrice (F_X7_asNumber ((F_X6_takeWord 0 st).2)) (F_X7_toNextWord ((F_X6_takeWord 0 st).2))).2)).2.1
      have k33 : (((F_X6_takePrice (F_X7_asNumber ((F_X6_takeWord 0 st).2)) (F_X7_toNextWord ((F_X6_takeWord 0 st).2))).2).1 7 ≤ ((F_X6_takeSteps (F_X7_asNumber ((F_X6_takeWord 0 st).2)) ((F_X6_takePrice (F_X7_asNumber ((F_X6_takeWord 0 st).2)) (F_X7_toNextWord ((F_X6_takeWord 0 st).2))).2)).2).1 7 ∧ ((F_X6_takeSteps (F_X7_asNumber ((F_X6_takeWord 0 st).2)) ((F_X6_takePrice (F_X7_asNumber ((F_X6_takeWord 0 st).2)) (F_X7_toNextWord ((F_X6_takeWord 0 st).2))).2)).2).1 7 ≤ ((F_X6_takePrice (F_X7_asNumber ((F_X6_takeWord 0 st).2)) (F_X7_toNextWord ((F_X6_takeWord 0 st).2))).2).1 7 + 66) := (tst_k (F_X7_asNumber ((F_X6_takeWord 0 st).2)) ((F_X6_takePrice (F_X7_asNumber ((F_X6_takeWord 0 st).2)) (F_X7_toNextWord ((F_X6_takeWord 0 st).2))).2)).2.2
      have k34 : ((F_X6_takeSteps (F_X7_asNumber ((F_X6_takeWord 0 st).2)) ((F_X6_takePrice (F_X7_asNumber ((F_X6_takeWord 0 st).2)) (F_X7_toNextWord ((F_X6_takeWord 0 st).2))).2)).2).1 6 = ((F_X6_takePrice (F_X7_asNumber ((F_X6_takeWord 0 st).2)) (F_X7_toNextWord ((F_X6_takeWord 0 st).2))).2).1 6 := (tst_k (F_X7_asNumber ((F_X6_takeWord 0 st).2)) ((F_X6_takePrice (F_X7_asNumber ((F_X6_takeWord 0 st).2)) (F_X7_toNextWord ((F_X6_takeWord 0 st).2))).2)).1
      refine f_if_eq C 85 ⟨by omega, by omega⟩ dX6_takeRule_70 (by decide) (fun c35 => ?_) (fun c35 => ?_)
      · refine f_iconst C dX6_takeRule_85 ?_
        exact f_zret C hret hlk dX6_takeRule_86 (by decide) (hp _ _ (by rw [F_X6_takeRule, if_neg c7, if_neg c9, if_neg c10, if_pos c12, if_neg c27, if_pos c35]) (by rw [F_X6_takeRule, if_neg c7, if_neg c9, if_neg c10, if_pos c12, if_neg c27, if_pos c35]) (by omega))
      refine f_aload_n C 0 dX6_takeRule_73 rfl rfl ?_
      refine f_iload_n C 3 dX6_takeRule_74 rfl rfl ?_
      refine f_ok (fun hO36 => ?_)
      have k37 : (-1000000000) ≤ ((F_X6_takeSteps (F_X7_asNumber ((F_X6_takeWord 0 st).2)) ((F_X6_takePrice (F_X7_asNumber ((F_X6_takeWord 0 st).2)) (F_X7_toNextWord ((F_X6_takeWord 0 st).2))).2)).2).1 5 ∧ ((F_X6_takeSteps (F_X7_asNumber ((F_X6_takeWord 0 st).2)) ((F_X6_takePrice (F_X7_asNumber ((F_X6_takeWord 0 st).2)) (F_X7_toNextWord ((F_X6_takeWord 0 st).2))).2)).2).1 5 ≤ 1000000000 := hO36.1 5
      refine f_calli C (c_X6_takeCap hX hES (F_X7_asNumber ((F_X6_takeWord 0 st).2)) ⟨by omega, by omega⟩ ((F_X6_takeSteps (F_X7_asNumber ((F_X6_takeWord 0 st).2)) ((F_X6_takePrice (F_X7_asNumber ((F_X6_takeWord 0 st).2)) (F_X7_toNextWord ((F_X6_takeWord 0 st).2))).2)).2) (show 0 ≤ (F_X7_asNumber ((F_X6_takeWord 0 st).2)) ∧ (F_X7_asNumber ((F_X6_takeWord 0 st).2)) ≤ 5 by omega) (show 0 ≤ (((F_X6_takeSteps (F_X7_asNumber ((F_X6_takeWord 0 st).2)) ((F_X6_takePrice (F_X7_asNumber ((F_X6_takeWord 0 st).2)) (F_X7_toNextWord ((F_X6_takeWord 0 st).2))).2)).2).1 5) ∧ (((F_X6_takeSteps (F_X7_asNumber ((F_X6_takeWord 0 st).2)) ((F_X6_takePrice (F_X7_asNumber ((F_X6_takeWord 0 st).2)) (F_X7_toNextWord ((F_X6_takeWord 0 st).2))).2)).2).1 5) ≤ 810000 by omega)) (cwV 1 C.1.2.2.2.2 gX6_takeRule_X6_takeCap rfl rfl rfl (by decide +kernel) ⟨Nat.le_of_ble_eq_true rfl, Nat.le_of_ble_eq_true rfl⟩) 5 rfl rfl rfl rfl rfl (Nat.le_of_ble_eq_true rfl) ⟨Nat.zero_le _, Nat.zero_le _⟩ dX6_takeRule_75 (fun z u hz38 hu => ?_)
      obtain ⟨qz38, hu, rz38⟩ := hu; replace hu := hu.symm; subst hu; subst qz38
      have k39 : (((F_X6_takeSteps (F_X7_asNumber ((F_X6_takeWord 0 st).2)) ((F_X6_takePrice (F_X7_asNumber ((F_X6_takeWord 0 st).2)) (F_X7_toNextWord ((F_X6_takeWord 0 st).2))).2)).2).1 5 ≤ ((F_X6_takeCap (F_X7_asNumber ((F_X6_takeWord 0 st).2)) ((F_X6_takeSteps (F_X7_asNumber ((F_X6_takeWord 0 st).2)) ((F_X6_takePrice (F_X7_asNumber ((F_X6_takeWord 0 st).2)) (F_X7_toNextWord ((F_X6_takeWord 0 st).2))).2)).2)).2).1 5 ∧ ((F_X6_takeCap (F_X7_asNumber ((F_X6_takeWord 0 st).2)) ((F_X6_takeSteps (F_X7_asNumber ((F_X6_takeWord 0 st).2)) ((F_X6_takePrice (F_X7_asNumber ((F_X6_takeWord 0 st).2)) (F_X7_toNextWord ((F_X6_takeWord 0 st).2))).2)).2)).2).1 5 ≤ ((F_X6_takeSteps (F_X7_asNumber ((F_X6_takeWord 0 st).2)) ((F_X6_takePrice (F_X7_asNumber ((F_X6_takeWord 0 st).2)) (F_X7_toNextWord ((F_X6_takeWord 0 st).2))).2)).2).1 5 + 2) := (tcp_k (F_X7_asNumber ((F_X6_takeWord 0 st).2)) ((F_X6_takeSteps (F_X7_asNumber ((F_X6_takeWord 0 st).2)) ((F_X6_takePrice (F_X7_asNumber ((F_X6_takeWord 0 st).2)) (F_X7_toNextWord ((F_X6_takeWord 0 st).2))).2)).2)).2.1
      have k40 : (((F_X6_takeSteps (F_X7_asNumber ((F_X6_takeWord 0 st).2)) ((F_X6_takePrice (F_X7_asNumber ((F_X6_takeWord 0 st).2)) (F_X7_toNextWord ((F_X6_takeWord 0 st).2))).2)).2).1 7 ≤ ((F_X6_takeCap (F_X7_asNumber ((F_X6_takeWord 0 st).2)) ((F_X6_takeSteps (F_X7_asNumber ((F_X6_takeWord 0 st).2)) ((F_X6_takePrice (F_X7_asNumber ((F_X6_takeWord 0 st).2)) (F_X7_toNextWord ((F_X6_takeWord 0 st).2))).2)).2)).2).1 7 ∧ ((F_X6_takeCap (F_X7_asNumber ((F_X6_takeWord 0 st).2)) ((F_X6_takeSteps (F_X7_asNumber ((F_X6_takeWord 0 st).2)) ((F_X6_takePrice (F_X7_asNumber ((F_X6_takeWord 0 st).2)) (F_X7_toNextWord ((F_X6_takeWord 0 st).2))).2)).2)).2).1 7 ≤ ((F_X6_takeSteps (F_X7_asNumber ((F_X6_takeWord 0 st).2)) ((F_X6_takePrice (F_X7_asNumber ((F_X6_takeWord 0 st).2)) (F_X7_toNextWord ((F_X6_takeWord 0 st).2))).2)).2).1 7 + 0) := (tcp_k (F_X7_asNumber ((F_X6_takeWord 0 st).2)) ((F_X6_takeSteps (F_X7_asNumber ((F_X6_takeWord 0 st).2)) ((F_X6_takePrice (F_X7_asNumber ((F_X6_takeWord 0 st).2)) (F_X7_toNextWord ((F_X6_takeWord 0 st).2))).2)).2)).2.2
      have k41 : ((F_X6_takeCap (F_X7_asNumber ((F_X6_takeWord 0 st).2)) ((F_X6_takeSteps (F_X7_asNumber ((F_X6_takeWord 0 st).2)) ((F_X6_takePrice (F_X7_asNumber ((F_X6_takeWord 0 st).2)) (F_X7_toNextWord ((F_X6_takeWord 0 st).2))).2)).2)).2).1 6 = ((F_X6_takeSteps (F_X7_asNumber ((F_X6_takeWord 0 st).2)) ((F_X6_takePrice (F_X7_asNumber ((F_X6_takeWord 0 st).2)) (F_X7_toNextWord ((F_X6_takeWord 0 st).2))).2)).2).1 6 := (tcp_k (F_X7_asNumber ((F_X6_takeWord 0 st).2)) ((F_X6_takeSteps (F_X7_asNumber ((F_X6_takeWord 0 st).2)) ((F_X6_takePrice (F_X7_asNumber ((F_X6_takeWord 0 st).2)) (F_X7_toNextWord ((F_X6_takeWord 0 st).2))).2)).2)).1
      refine f_if_eq C 85 ⟨by omega, by omega⟩ dX6_takeRule_78 (by decide) (fun c42 => ?_) (fun c42 => ?_)
      · refine f_iconst C dX6_takeRule_85 ?_
        exact f_zret C hret hlk dX6_takeRule_86 (by decide) (hp _ _ (by rw [F_X6_takeRule, if_neg c7, if_neg c9, if_neg c10, if_pos c12, if_neg c27, if_neg c35, if_pos c42]) (by rw [F_X6_takeRule, if_neg c7, if_neg c9, if_neg c10, if_pos c12, if_neg c27, if_neg c35, if_pos c42]) (by omega))
      refine f_iconst C dX6_takeRule_81 ?_
      refine f_goto C 86 dX6_takeRule_82 (by decide) ?_
      exact f_zret C hret hlk dX6_takeRule_86 (by decide) (hp _ _ (by rw [F_X6_takeRule, if_neg c7, if_neg c9, if_neg c10, if_pos c12, if_neg c27, if_neg c35, if_neg c42]) (by rw [F_X6_takeRule, if_neg c7, if_neg c9, if_neg c10, if_pos c12, if_neg c27, if_neg c35, if_neg c42]) (by omega))
    refine f_iconst C dX6_takeRule_45 ?_
    exact f_zret C hret hlk dX6_takeRule_46 (by decide) (hp _ _ (by rw [F_X6_takeRule, if_neg c7, if_neg c9, if_neg c10, if_neg c12]) (by rw [F_X6_takeRule, if_neg c7, if_neg c9, if_neg c10, if_neg c12]) (by omega))
  refine f_iconst C dX6_takeRule_9 ?_
  exact f_zret C hret hlk dX6_takeRule_10 (by decide) (hp _ _ (by rw [F_X6_takeRule, if_pos c7]) (by rw [F_X6_takeRule, if_pos c7]) (by omega))
