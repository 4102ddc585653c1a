/-! ===== PART 22: the class, leaves (laid by program) ===== -/
def F_X8_isKind (p0 : Int) (st : fS) : Int := if p0 < 0 then 0 else (if 6 ≤ p0 then 0 else 1)
abbrev rm_X8_isKind : Room := { frames := 0, cells := 0, slots := 0, locals := 0 }
set_option maxRecDepth 100000 in
set_option maxHeartbeats 8000000 in
theorem c_X8_isKind {l : Launch} {D : va_G} {cI cJ cZ cB : ClassId} {a : Nat → Nat} {E : State → Prop} (hX : xHyp a E) (p0 : Int) (h0 : in32 p0) (st : fS)  : xMi l D cI cJ cZ cB a E yX8_isKind wsX8_isKind rm_X8_isKind [.int (zI p0)] st (fun z u => z = F_X8_isKind p0 st ∧ u = st ∧ ((z = 1 ∧ (0 ≤ p0 ∧ p0 < 6)) ∨ (z = 0 ∧ ¬ (0 ≤ p0 ∧ p0 < 6)))) := by
  refine fB_open (cc := cX8_isKind) (maxL := 1) (ret := (some .boolean)) (by decide) rfl (Nat.le_of_ble_eq_true rfl) hX.2 ?_
  intro p e s m below meth c C hret hlk
  have hp : ∀ z : Int, z = F_X8_isKind p0 st → ((z = 1 ∧ (0 ≤ p0 ∧ p0 < 6)) ∨ (z = 0 ∧ ¬ (0 ≤ p0 ∧ p0 < 6))) → z = F_X8_isKind p0 st ∧ st = st ∧ ((z = 1 ∧ (0 ≤ p0 ∧ p0 < 6)) ∨ (z = 0 ∧ ¬ (0 ≤ p0 ∧ p0 < 6))) := fun z h r1 => ⟨h, rfl, r1⟩
  refine f_iload_n C 0 dX8_isKind_0 rfl rfl ?_
  refine f_if_lt C 14 ⟨by omega, by omega⟩ dX8_isKind_1 (by decide) (fun c1 => ?_) (fun c1 => ?_)
  · refine f_iconst C dX8_isKind_14 ?_
    exact f_zret C hret hlk dX8_isKind_15 (by decide) (hp _ (by rw [F_X8_isKind, if_pos c1]) (by omega))
  refine f_iload_n C 0 dX8_isKind_4 rfl rfl ?_
  refine f_bipush C dX8_isKind_5 (by decide) ?_
  refine f_icmp_ge C 14 ⟨by omega, by omega⟩ ⟨by decide, by decide⟩ dX8_isKind_7 (by decide) (fun c2 => ?_) (fun c2 => ?_)
  · refine f_iconst C dX8_isKind_14 ?_
    exact f_zret C hret hlk dX8_isKind_15 (by decide) (hp _ (by rw [F_X8_isKind, if_neg c1, if_pos c2]) (by omega))
  refine f_iconst C dX8_isKind_10 ?_
  refine f_goto C 15 dX8_isKind_11 (by decide) ?_
  exact f_zret C hret hlk dX8_isKind_15 (by decide) (hp _ (by rw [F_X8_isKind, if_neg c1, if_neg c2]) (by omega))

def F_X8_isDay (p0 : Int) (st : fS) : Int := if p0 < 0 then 0 else (if 3600 ≤ p0 then 0 else 1)
abbrev rm_X8_isDay : Room := { frames := 0, cells := 0, slots := 0, locals := 0 }
set_option maxRecDepth 100000 in
set_option maxHeartbeats 8000000 in
theorem c_X8_isDay {l : Launch} {D : va_G} {cI cJ cZ cB : ClassId} {a : Nat → Nat} {E : State → Prop} (hX : xHyp a E) (p0 : Int) (h0 : in64 p0) (st : fS)  : xMi l D cI cJ cZ cB a E yX8_isDay wsX8_isDay rm_X8_isDay [.long (zJ p0)] st (fun z u => z = F_X8_isDay p0 st ∧ u = st ∧ ((z = 1 ∧ (0 ≤ p0 ∧ p0 < 3600)) ∨ (z = 0 ∧ ¬ (0 ≤ p0 ∧ p0 < 3600)))) := by
  refine fB_open (cc := cX8_isDay) (maxL := 2) (ret := (some .boolean)) (by decide) rfl (Nat.le_of_ble_eq_true rfl) hX.2 ?_
  intro p e s m below meth c C hret hlk
  have hp : ∀ z : Int, z = F_X8_isDay p0 st → ((z = 1 ∧ (0 ≤ p0 ∧ p0 < 3600)) ∨ (z = 0 ∧ ¬ (0 ≤ p0 ∧ p0 < 3600))) → z = F_X8_isDay p0 st ∧ st = st ∧ ((z = 1 ∧ (0 ≤ p0 ∧ p0 < 3600)) ∨ (z = 0 ∧ ¬ (0 ≤ p0 ∧ p0 < 3600))) := fun z h r1 => ⟨h, rfl, r1⟩
  refine f_lload_n C 0 dX8_isDay_0 rfl rfl ?_
  refine f_lconst C (z := 0) dX8_isDay_1 rfl ?_
  refine f_lc_if_lt C 18 ⟨by omega, by omega⟩ ⟨by decide, by decide⟩ dX8_isDay_2 dX8_isDay_3 (by decide) (fun c1 => ?_) (fun c1 => ?_)
  · refine f_iconst C dX8_isDay_18 ?_
    exact f_zret C hret hlk dX8_isDay_19 (by decide) (hp _ (by rw [F_X8_isDay, if_pos c1]) (by omega))
  refine f_lload_n C 0 dX8_isDay_6 rfl rfl ?_
  refine f_ldc2 C (v := 3600) (z := 3600) (by decide +kernel) (by decide) dX8_isDay_7 ?_
  refine f_lc_if_ge C 18 ⟨by omega, by omega⟩ ⟨by decide, by decide⟩ dX8_isDay_10 dX8_isDay_11 (by decide) (fun c2 => ?_) (fun c2 => ?_)
  · refine f_iconst C dX8_isDay_18 ?_
    exact f_zret C hret hlk dX8_isDay_19 (by decide) (hp _ (by rw [F_X8_isDay, if_neg c1, if_pos c2]) (by omega))
  refine f_iconst C dX8_isDay_14 ?_
  refine f_goto C 19 dX8_isDay_15 (by decide) ?_
  exact f_zret C hret hlk dX8_isDay_19 (by decide) (hp _ (by rw [F_X8_isDay, if_neg c1, if_neg c2]) (by omega))

def F_X8_isMonth (p0 : Int) (st : fS) : Int := if p0 < 0 then 0 else (if 120 ≤ p0 then 0 else 1)
abbrev rm_X8_isMonth : Room := { frames := 0, cells := 0, slots := 0, locals := 0 }
set_option maxRecDepth 100000 in
set_option maxHeartbeats 8000000 in
theorem c_X8_isMonth {l : Launch} {D : va_G} {cI cJ cZ cB : ClassId} {a : Nat → Nat} {E : State → Prop} (hX : xHyp a E) (p0 : Int) (h0 : in32 p0) (st : fS)  : xMi l D cI cJ cZ cB a E yX8_isMonth wsX8_isMonth rm_X8_isMonth [.int (zI p0)] st (fun z u => z = F_X8_isMonth p0 st ∧ u = st ∧ ((z = 1 ∧ (0 ≤ p0 ∧ p0 < 120)) ∨ (z = 0 ∧ ¬ (0 ≤ p0 ∧ p0 < 120)))) := by
  refine fB_open (cc := cX8_isMonth) (maxL := 1) (ret := (some .boolean)) (by decide) rfl (Nat.le_of_ble_eq_true rfl) hX.2 ?_
  intro p e s m below meth c C hret hlk
  have hp : ∀ z : Int, z = F_X8_isMonth p0 st → ((z = 1 ∧ (0 ≤ p0 ∧ p0 < 120)) ∨ (z = 0 ∧ ¬ (0 ≤ p0 ∧ p0 < 120))) → z = F_X8_isMonth p0 st ∧ st = st ∧ ((z = 1 ∧ (0 ≤ p0 ∧ p0 < 120)) ∨ (z = 0 ∧ ¬ (0 ≤ p0 ∧ p0 < 120))) := fun z h r1 => ⟨h, rfl, r1⟩
  refine f_iload_n C 0 dX8_isMonth_0 rfl rfl ?_
  refine f_if_lt C 14 ⟨by omega, by omega⟩ dX8_isMonth_1 (by decide) (fun c1 => ?_) (fun c1 => ?_)
  · refine f_iconst C dX8_isMonth_14 ?_
    exact f_zret C hret hlk dX8_isMonth_15 (by decide) (hp _ (by rw [F_X8_isMonth, if_pos c1]) (by omega))
  refine f_iload_n C 0 dX8_isMonth_4 rfl rfl ?_
  refine f_bipush C dX8_isMonth_5 (by decide) ?_
  refine f_icmp_ge C 14 ⟨by omega, by omega⟩ ⟨by decide, by decide⟩ dX8_isMonth_7 (by decide) (fun c2 => ?_) (fun c2 => ?_)
  · refine f_iconst C dX8_isMonth_14 ?_
    exact f_zret C hret hlk dX8_isMonth_15 (by decide) (hp _ (by rw [F_X8_isMonth, if_neg c1, if_pos c2]) (by omega))
  refine f_iconst C dX8_isMonth_10 ?_
  refine f_goto C 15 dX8_isMonth_11 (by decide) ?_
  exact f_zret C hret hlk dX8_isMonth_15 (by decide) (hp _ (by rw [F_X8_isMonth, if_neg c1, if_neg c2]) (by omega))

def F_X0_isFull (st : fS) : Int := if (st.1 6) < 6 then 0 else 1
abbrev rm_X0_isFull : Room := { frames := 0, cells := 0, slots := 0, locals := 0 }
set_option maxRecDepth 100000 in
set_option maxHeartbeats 8000000 in
theorem c_X0_isFull {l : Launch} {D : va_G} {cI cJ cZ cB : ClassId} {a : Nat → Nat} {E : State → Prop} (hX : xHyp a E)   (st : fS)  : xMi l D cI cJ cZ cB a E yX0_isFull wsX0_isFull rm_X0_isFull [.ref (a 4)] st (fun z u => z = F_X0_isFull st ∧ u = st ∧ ((z = 1 ∧ (6 ≤ st.1 6)) ∨ (z = 0 ∧ ¬ (6 ≤ st.1 6)))) := by
  refine fB_open (cc := cX0_isFull) (maxL := 1) (ret := (some .boolean)) (by decide) rfl (Nat.le_of_ble_eq_true rfl) hX.2 ?_
  intro p e s m below meth c C hret hlk
  have hin0 : ∀ w ∈ u_ws RX0 TX0 12, w ∈ wsX0_isFull := by decide +kernel
  have hp : ∀ z : Int, z = F_X0_isFull st → ((z = 1 ∧ (6 ≤ st.1 6)) ∨ (z = 0 ∧ ¬ (6 ≤ st.1 6))) → z = F_X0_isFull st ∧ st = st ∧ ((z = 1 ∧ (6 ≤ st.1 6)) ∨ (z = 0 ∧ ¬ (6 ≤ st.1 6))) := fun z h r1 => ⟨h, rfl, r1⟩
  refine f_aload_n C 0 dX0_isFull_0 rfl rfl ?_
  refine f_ok (fun hO1 => ?_)
  have k2 : 0 ≤ st.1 6 ∧ st.1 6 ≤ 6 := hO1.1 6
  refine f_get C (v := .int (zI (st.1 6))) hin0 4 10 rfl rfl (Nat.le_of_ble_eq_true rfl) (by decide +kernel) rfl rfl dX0_isFull_1 ?_
  refine f_bipush C dX0_isFull_4 (by decide) ?_
  refine f_icmp_lt C 13 ⟨by omega, by omega⟩ ⟨by decide, by decide⟩ dX0_isFull_6 (by decide) (fun c3 => ?_) (fun c3 => ?_)
  · refine f_iconst C dX0_isFull_13 ?_
    exact f_zret C hret hlk dX0_isFull_14 (by decide) (hp _ (by rw [F_X0_isFull, if_pos c3]) (by omega))
  refine f_iconst C dX0_isFull_9 ?_
  refine f_goto C 14 dX0_isFull_10 (by decide) ?_
  exact f_zret C hret hlk dX0_isFull_14 (by decide) (hp _ (by rw [F_X0_isFull, if_neg c3]) (by omega))

def F_X0_has (p1 : Int) (st : fS) : Int := if p1 < 0 then 0 else (if (st.1 6) ≤ p1 then 0 else 1)
abbrev rm_X0_has : Room := { frames := 0, cells := 0, slots := 0, locals := 0 }
set_option maxRecDepth 100000 in
set_option maxHeartbeats 8000000 in
theorem c_X0_has {l : Launch} {D : va_G} {cI cJ cZ cB : ClassId} {a : Nat → Nat} {E : State → Prop} (hX : xHyp a E) (p1 : Int) (h1 : in32 p1) (st : fS)  : xMi l D cI cJ cZ cB a E yX0_has wsX0_has rm_X0_has [.ref (a 4), .int (zI p1)] st (fun z u => z = F_X0_has p1 st ∧ u = st ∧ ((z = 1 ∧ (0 ≤ p1 ∧ p1 < st.1 6)) ∨ (z = 0 ∧ ¬ (0 ≤ p1 ∧ p1 < st.1 6)))) := by
  refine fB_open (cc := cX0_has) (maxL := 2) (ret := (some .boolean)) (by decide) rfl (Nat.le_of_ble_eq_true rfl) hX.2 ?_
  intro p e s m below meth c C hret hlk
  have hin0 : ∀ w ∈ u_ws RX0 TX0 12, w ∈ wsX0_has := by decide +kernel
  have hp : ∀ z : Int, z = F_X0_has p1 st → ((z = 1 ∧ (0 ≤ p1 ∧ p1 < st.1 6)) ∨ (z = 0 ∧ ¬ (0 ≤ p1 ∧ p1 < st.1 6))) → z = F_X0_has p1 st ∧ st = st ∧ ((z = 1 ∧ (0 ≤ p1 ∧ p1 < st.1 6)) ∨ (z = 0 ∧ ¬ (0 ≤ p1 ∧ p1 < st.1 6))) := fun z h r1 => ⟨h, rfl, r1⟩
  refine f_iload_n C 1 dX0_has_0 rfl rfl ?_
  refine f_if_lt C 16 ⟨by omega, by omega⟩ dX0_has_1 (by decide) (fun c1 => ?_) (fun c1 => ?_)
  · refine f_iconst C dX0_has_16 ?_
    exact f_zret C hret hlk dX0_has_17 (by decide) (hp _ (by rw [F_X0_has, if_pos c1]) (by omega))
  refine f_iload_n C 1 dX0_has_4 rfl rfl ?_
  refine f_aload_n C 0 dX0_has_5 rfl rfl ?_
  refine f_ok (fun hO2 => ?_)
  have k3 : 0 ≤ st.1 6 ∧ st.1 6 ≤ 6 := hO2.1 6
  refine f_get C (v := .int (zI (st.1 6))) hin0 4 10 rfl rfl (Nat.le_of_ble_eq_true rfl) (by decide +kernel) rfl rfl dX0_has_6 ?_
  refine f_icmp_ge C 16 ⟨by omega, by omega⟩ ⟨by omega, by omega⟩ dX0_has_9 (by decide) (fun c4 => ?_) (fun c4 => ?_)
  · refine f_iconst C dX0_has_16 ?_
    exact f_zret C hret hlk dX0_has_17 (by decide) (hp _ (by rw [F_X0_has, if_neg c1, if_pos c4]) (by omega))
  refine f_iconst C dX0_has_12 ?_
  refine f_goto C 17 dX0_has_13 (by decide) ?_
  exact f_zret C hret hlk dX0_has_17 (by decide) (hp _ (by rw [F_X0_has, if_neg c1, if_neg c4]) (by omega))

def F_X0_actsFrom (p1 : Int) (st : fS) : Int := rget 6 (st.2 9) p1
abbrev rm_X0_actsFrom : Room := { frames := 1, cells := 0, slots := 0, locals := 21 }
set_option maxRecDepth 100000 in
set_option maxHeartbeats 8000000 in
theorem c_X0_actsFrom {l : Launch} {D : va_G} {cI cJ cZ cB : ClassId} {a : Nat → Nat} {E : State → Prop} (hX : xHyp a E) (p1 : Int) (h1 : in32 p1) (st : fS)  : xMl l D cI cJ cZ cB a E yX0_actsFrom wsX0_actsFrom rm_X0_actsFrom [.ref (a 4), .int (zI p1)] st (fun z u => z = F_X0_actsFrom p1 st ∧ u = st ∧ (0 ≤ z ∧ z ≤ 3599)) := by
  refine fB_open (cc := cX0_actsFrom) (maxL := 2) (ret := (some .long)) (by decide) rfl (Nat.le_of_ble_eq_true rfl) hX.2 ?_
  intro p e s m below meth c C hret hlk
  have hin0 : ∀ w ∈ u_ws RX0 TX0 12, w ∈ wsX0_actsFrom := by decide +kernel
  have hp : ∀ z : Int, z = F_X0_actsFrom p1 st → (0 ≤ z ∧ z ≤ 3599) → z = F_X0_actsFrom p1 st ∧ st = st ∧ (0 ≤ z ∧ z ≤ 3599) := fun z h r1 => ⟨h, rfl, r1⟩
  refine f_aload_n C 0 dX0_actsFrom_0 rfl rfl ?_
  refine f_get C hin0 4 0 rfl rfl (Nat.le_of_ble_eq_true rfl) (by decide +kernel) rfl rfl dX0_actsFrom_1 ?_
  refine f_iload_n C 1 dX0_actsFrom_4 rfl rfl ?_
  refine f_ok (fun hO1 => ?_)
  refine f_calll C (c_Row_get hX 9 (Nat.le_of_ble_eq_true rfl) p1 ⟨by omega, by omega⟩ st) (cwV 1 C.1.2.2.2.2 gX0_actsFrom_X5_get rfl rfl rfl (by decide +kernel) ⟨Nat.le_of_ble_eq_true rfl, Nat.le_of_ble_eq_true rfl⟩) 17 (wX_row cJ a st (r := 9) (Nat.le_of_ble_eq_true rfl)) rfl rfl rfl rfl (Nat.le_of_ble_eq_true rfl) ⟨Nat.zero_le _, Nat.zero_le _⟩ dX0_actsFrom_5 (fun z u hz2 hu => ?_)
  obtain ⟨qz2, hu⟩ : z = rget 6 (st.2 9) p1 ∧ u = st := hu
  replace hu := hu.symm; subst hu; subst qz2
  have k3 : 0 ≤ rget 6 (st.2 9) p1 ∧ rget 6 (st.2 9) p1 ≤ 3599 := xget_ok hO1 9 6 p1
  exact f_lret C hret hlk dX0_actsFrom_8 ⟨by omega, by omega⟩ (hp _ (by rw [F_X0_actsFrom]) (by omega))

def F_X0_knownFrom (p1 : Int) (st : fS) : Int := rget 6 (st.2 10) p1
abbrev rm_X0_knownFrom : Room := { frames := 1, cells := 0, slots := 0, locals := 21 }
set_option maxRecDepth 100000 in
set_option maxHeartbeats 8000000 in
theorem c_X0_knownFrom {l : Launch} {D : va_G} {cI cJ cZ cB : ClassId} {a : Nat → Nat} {E : State → Prop} (hX : xHyp a E) (p1 : Int) (h1 : in32 p1) (st : fS)  : xMl l D cI cJ cZ cB a E yX0_knownFrom wsX0_knownFrom rm_X0_knownFrom [.ref (a 4), .int (zI p1)] st (fun z u => z = F_X0_knownFrom p1 st ∧ u = st ∧ (0 ≤ z ∧ z ≤ 3599)) := by
  refine fB_open (cc := cX0_knownFrom) (maxL := 2) (ret := (some .long)) (by decide) rfl (Nat.le_of_ble_eq_true rfl) hX.2 ?_
  intro p e s m below meth c C hret hlk
  have hin0 : ∀ w ∈ u_ws RX0 TX0 12, w ∈ wsX0_knownFrom := by decide +kernel
  have hp : ∀ z : Int, z = F_X0_knownFrom p1 st → (0 ≤ z ∧ z ≤ 3599) → z = F_X0_knownFrom p1 st ∧ st = st ∧ (0 ≤ z ∧ z ≤ 3599) := fun z h r1 => ⟨h, rfl, r1⟩
  refine f_aload_n C 0 dX0_knownFrom_0 rfl rfl ?_
  refine f_get C hin0 4 1 rfl rfl (Nat.le_of_ble_eq_true rfl) (by decide +kernel) rfl rfl dX0_knownFrom_1 ?_
  refine f_iload_n C 1 dX0_knownFrom_4 rfl rfl ?_
  refine f_ok (fun hO1 => ?_)
  refine f_calll C (c_Row_get hX 10 (Nat.le_of_ble_eq_true rfl) p1 ⟨by omega, by omega⟩ st) (cwV 1 C.1.2.2.2.2 gX0_knownFrom_X5_get rfl rfl rfl (by decide +kernel) ⟨Nat.le_of_ble_eq_true rfl, Nat.le_of_ble_eq_true rfl⟩) 18 (wX_row cJ a st (r := 10) (Nat.le_of_ble_eq_true rfl)) rfl rfl rfl rfl (Nat.le_of_ble_eq_true rfl) ⟨Nat.zero_le _, Nat.zero_le _⟩ dX0_knownFrom_5 (fun z u hz2 hu => ?_)
  obtain ⟨qz2, hu⟩ : z = rget 6 (st.2 10) p1 ∧ u = st := hu
  replace hu := hu.symm; subst hu; subst qz2
  have k3 : 0 ≤ rget 6 (st.2 10) p1 ∧ rget 6 (st.2 10) p1 ≤ 3599 := xget_ok hO1 10 6 p1
  exact f_lret C hret hlk dX0_knownFrom_8 ⟨by omega, by omega⟩ (hp _ (by rw [F_X0_knownFrom]) (by omega))

def F_X0_ruleCount (p1 : Int) (st : fS) : Int := rget 6 (st.2 11) p1
abbrev rm_X0_ruleCount : Room := { frames := 1, cells := 0, slots := 0, locals := 21 }
set_option maxRecDepth 100000 in
set_option maxHeartbeats 8000000 in
theorem c_X0_ruleCount {l : Launch} {D : va_G} {cI cJ cZ cB : ClassId} {a : Nat → Nat} {E : State → Prop} (hX : xHyp a E) (p1 : Int) (h1 : in32 p1) (st : fS)  : xMl l D cI cJ cZ cB a E yX0_ruleCount wsX0_ruleCount rm_X0_ruleCount [.ref (a 4), .int (zI p1)] st (fun z u => z = F_X0_ruleCount p1 st ∧ u = st ∧ (0 ≤ z ∧ z ≤ 1000000)) := by
  refine fB_open (cc := cX0_ruleCount) (maxL := 2) (ret := (some .long)) (by decide) rfl (Nat.le_of_ble_eq_true rfl) hX.2 ?_
  intro p e s m below meth c C hret hlk
  have hin0 : ∀ w ∈ u_ws RX0 TX0 12, w ∈ wsX0_ruleCount := by decide +kernel
  have hp : ∀ z : Int, z = F_X0_ruleCount p1 st → (0 ≤ z ∧ z ≤ 1000000) → z = F_X0_ruleCount p1 st ∧ st = st ∧ (0 ≤ z ∧ z ≤ 1000000) := fun z h r1 => ⟨h, rfl, r1⟩
  refine f_aload_n C 0 dX0_ruleCount_0 rfl rfl ?_
  refine f_get C hin0 4 2 rfl rfl (Nat.le_of_ble_eq_true rfl) (by decide +kernel) rfl rfl dX0_ruleCount_1 ?_
  refine f_iload_n C 1 dX0_ruleCount_4 rfl rfl ?_
  refine f_ok (fun hO1 => ?_)
  refine f_calll C (c_Row_get hX 11 (Nat.le_of_ble_eq_true rfl) p1 ⟨by omega, by omega⟩ st) (cwV 1 C.1.2.2.2.2 gX0_ruleCount_X5_get rfl rfl rfl (by decide +kernel) ⟨Nat.le_of_ble_eq_true rfl, Nat.le_of_ble_eq_true rfl⟩) 19 (wX_row cJ a st (r := 11) (Nat.le_of_ble_eq_true rfl)) rfl rfl rfl rfl (Nat.le_of_ble_eq_true rfl) ⟨Nat.zero_le _, Nat.zero_le _⟩ dX0_ruleCount_5 (fun z u hz2 hu => ?_)
  obtain ⟨qz2, hu⟩ : z = rget 6 (st.2 11) p1 ∧ u = st := hu
  replace hu := hu.symm; subst hu; subst qz2
  have k3 : 0 ≤ rget 6 (st.2 11) p1 ∧ rget 6 (st.2 11) p1 ≤ 1000000 := xget_ok hO1 11 6 p1
  exact f_lret C hret hlk dX0_ruleCount_8 ⟨by omega, by omega⟩ (hp _ (by rw [F_X0_ruleCount]) (by omega))

def F_X1_count (st : fS) : Int := st.1 1
abbrev rm_X1_count : Room := { frames := 0, cells := 0, slots := 0, locals := 0 }
set_option maxRecDepth 100000 in
set_option maxHeartbeats 8000000 in
theorem c_X1_count {l : Launch} {D : va_G} {cI cJ cZ cB : ClassId} {a : Nat → Nat} {E : State → Prop} (hX : xHyp a E)   (st : fS)  : xMi l D cI cJ cZ cB a E yX1_count wsX1_count rm_X1_count [.ref (a 2)] st (fun z u => z = F_X1_count st ∧ u = st ∧ (z = st.1 1 ∧ 0 ≤ z ∧ z ≤ 24)) := by
  refine fB_open (cc := cX1_count) (maxL := 1) (ret := (some .int)) (by decide) rfl (Nat.le_of_ble_eq_true rfl) hX.2 ?_
  intro p e s m below meth c C hret hlk
  have hin1 : ∀ w ∈ u_ws RX1 TX1 6, w ∈ wsX1_count := by decide +kernel
  have hp : ∀ z : Int, z = F_X1_count st → (z = st.1 1 ∧ 0 ≤ z ∧ z ≤ 24) → z = F_X1_count st ∧ st = st ∧ (z = st.1 1 ∧ 0 ≤ z ∧ z ≤ 24) := fun z h r1 => ⟨h, rfl, r1⟩
  refine f_aload_n C 0 dX1_count_0 rfl rfl ?_
  refine f_ok (fun hO1 => ?_)
  have k2 : 0 ≤ st.1 1 ∧ st.1 1 ≤ 24 := hO1.1 1
  refine f_get C (v := .int (zI (st.1 1))) hin1 2 5 rfl rfl (Nat.le_of_ble_eq_true rfl) (by decide +kernel) rfl rfl dX1_count_1 ?_
  exact f_iret C hret hlk dX1_count_4 ⟨by omega, by omega⟩ (hp _ (by rw [F_X1_count]) (by omega))

def F_X1_houseOf (p1 : Int) (st : fS) : Int := rget 24 (st.2 3) p1
abbrev rm_X1_houseOf : Room := { frames := 1, cells := 0, slots := 0, locals := 21 }
set_option maxRecDepth 100000 in
set_option maxHeartbeats 8000000 in
theorem c_X1_houseOf {l : Launch} {D : va_G} {cI cJ cZ cB : ClassId} {a : Nat → Nat} {E : State → Prop} (hX : xHyp a E) (p1 : Int) (h1 : in32 p1) (st : fS)  : xMi l D cI cJ cZ cB a E yX1_houseOf wsX1_houseOf rm_X1_houseOf [.ref (a 2), .int (zI p1)] st (fun z u => z = F_X1_houseOf p1 st ∧ u = st ∧ (0 ≤ z ∧ z ≤ 3)) := by
  refine fB_open (cc := cX1_houseOf) (maxL := 2) (ret := (some .int)) (by decide) rfl (Nat.le_of_ble_eq_true rfl) hX.2 ?_
  intro p e s m below meth c C hret hlk
  have hin1 : ∀ w ∈ u_ws RX1 TX1 6, w ∈ wsX1_houseOf := by decide +kernel
  have hp : ∀ z : Int, z = F_X1_houseOf p1 st → (0 ≤ z ∧ z ≤ 3) → z = F_X1_houseOf p1 st ∧ st = st ∧ (0 ≤ z ∧ z ≤ 3) := fun z h r1 => ⟨h, rfl, r1⟩
  refine f_aload_n C 0 dX1_houseOf_0 rfl rfl ?_
  refine f_get C hin1 2 0 rfl rfl (Nat.le_of_ble_eq_true rfl) (by decide +kernel) rfl rfl dX1_houseOf_1 ?_
  refine f_iload_n C 1 dX1_houseOf_4 rfl rfl ?_
  refine f_ok (fun hO1 => ?_)
  refine f_calll C (c_Row_get hX 3 (Nat.le_of_ble_eq_true rfl) p1 ⟨by omega, by omega⟩ st) (cwV 1 C.1.2.2.2.2 gX1_houseOf_X5_get rfl rfl rfl (by decide +kernel) ⟨Nat.le_of_ble_eq_true rfl, Nat.le_of_ble_eq_true rfl⟩) 11 (wX_row cJ a st (r := 3) (Nat.le_of_ble_eq_true rfl)) rfl rfl rfl rfl (Nat.le_of_ble_eq_true rfl) ⟨Nat.zero_le _, Nat.zero_le _⟩ dX1_houseOf_5 (fun z u hz2 hu => ?_)
  obtain ⟨qz2, hu⟩ : z = rget 24 (st.2 3) p1 ∧ u = st := hu
  replace hu := hu.symm; subst hu; subst qz2
  have k3 : 0 ≤ rget 24 (st.2 3) p1 ∧ rget 24 (st.2 3) p1 ≤ 3 := xget_ok hO1 3 24 p1
  refine f_l2i C dX1_houseOf_8 ?_
  exact f_iret C hret hlk dX1_houseOf_9 ⟨by omega, by omega⟩ (hp _ (by rw [F_X1_houseOf]) (by omega))

def F_X1_kindOf (p1 : Int) (st : fS) : Int := rget 24 (st.2 4) p1
abbrev rm_X1_kindOf : Room := { frames := 1, cells := 0, slots := 0, locals := 21 }
set_option maxRecDepth 100000 in
set_option maxHeartbeats 8000000 in
theorem c_X1_kindOf {l : Launch} {D : va_G} {cI cJ cZ cB : ClassId} {a : Nat → Nat} {E : State → Prop} (hX : xHyp a E) (p1 : Int) (h1 : in32 p1) (st : fS)  : xMi l D cI cJ cZ cB a E yX1_kindOf wsX1_kindOf rm_X1_kindOf [.ref (a 2), .int (zI p1)] st (fun z u => z = F_X1_kindOf p1 st ∧ u = st ∧ (0 ≤ z ∧ z ≤ 5)) := by
  refine fB_open (cc := cX1_kindOf) (maxL := 2) (ret := (some .int)) (by decide) rfl (Nat.le_of_ble_eq_true rfl) hX.2 ?_
  intro p e s m below meth c C hret hlk
  have hin1 : ∀ w ∈ u_ws RX1 TX1 6, w ∈ wsX1_kindOf := by decide +kernel
  have hp : ∀ z : Int, z = F_X1_kindOf p1 st → (0 ≤ z ∧ z ≤ 5) → z = F_X1_kindOf p1 st ∧ st = st ∧ (0 ≤ z ∧ z ≤ 5) := fun z h r1 => ⟨h, rfl, r1⟩
  refine f_aload_n C 0 dX1_kindOf_0 rfl rfl ?_
  refine f_get C hin1 2 1 rfl rfl (Nat.le_of_ble_eq_true rfl) (by decide +kernel) rfl rfl dX1_kindOf_1 ?_
  refine f_iload_n C 1 dX1_kindOf_4 rfl rfl ?_
  refine f_ok (fun hO1 => ?_)
  refine f_calll C (c_Row_get hX 4 (Nat.le_of_ble_eq_true rfl) p1 ⟨by omega, by omega⟩ st) (cwV 1 C.1.2.2.2.2 gX1_kindOf_X5_get rfl rfl rfl (by decide +kernel) ⟨Nat.le_of_ble_eq_true rfl, Nat.le_of_ble_eq_true rfl⟩) 12 (wX_row cJ a st (r := 4) (Nat.le_of_ble_eq_true rfl)) rfl rfl rfl rfl (Nat.le_of_ble_eq_true rfl) ⟨Nat.zero_le _, Nat.zero_le _⟩ dX1_kindOf_5 (fun z u hz2 hu => ?_)
  obtain ⟨qz2, hu⟩ : z = rget 24 (st.2 4) p1 ∧ u = st := hu
  replace hu := hu.symm; subst hu; subst qz2
  have k3 : 0 ≤ rget 24 (st.2 4) p1 ∧ rget 24 (st.2 4) p1 ≤ 5 := xget_ok hO1 4 24 p1
  refine f_l2i C dX1_kindOf_8 ?_
  exact f_iret C hret hlk dX1_kindOf_9 ⟨by omega, by omega⟩ (hp _ (by rw [F_X1_kindOf]) (by omega))

def F_X1_dayOf (p1 : Int) (st : fS) : Int := rget 24 (st.2 5) p1
abbrev rm_X1_dayOf : Room := { frames := 1, cells := 0, slots := 0, locals := 21 }
set_option maxRecDepth 100000 in
set_option maxHeartbeats 8000000 in
theorem c_X1_dayOf {l : Launch} {D : va_G} {cI cJ cZ cB : ClassId} {a : Nat → Nat} {E : State → Prop} (hX : xHyp a E) (p1 : Int) (h1 : in32 p1) (st : fS)  : xMl l D cI cJ cZ cB a E yX1_dayOf wsX1_dayOf rm_X1_dayOf [.ref (a 2), .int (zI p1)] st (fun z u => z = F_X1_dayOf p1 st ∧ u = st ∧ (0 ≤ z ∧ z ≤ 3599)) := by
  refine fB_open (cc := cX1_dayOf) (maxL := 2) (ret := (some .long)) (by decide) rfl (Nat.le_of_ble_eq_true rfl) hX.2 ?_
  intro p e s m below meth c C hret hlk
  have hin1 : ∀ w ∈ u_ws RX1 TX1 6, w ∈ wsX1_dayOf := by decide +kernel
  have hp : ∀ z : Int, z = F_X1_dayOf p1 st → (0 ≤ z ∧ z ≤ 3599) → z = F_X1_dayOf p1 st ∧ st = st ∧ (0 ≤ z ∧ z ≤ 3599) := fun z h r1 => ⟨h, rfl, r1⟩
  refine f_aload_n C 0 dX1_dayOf_0 rfl rfl ?_
  refine f_get C hin1 2 2 rfl rfl (Nat.le_of_ble_eq_true rfl) (by decide +kernel) rfl rfl dX1_dayOf_1 ?_
  refine f_iload_n C 1 dX1_dayOf_4 rfl rfl ?_
  refine f_ok (fun hO1 => ?_)
  refine f_calll C (c_Row_get hX 5 (Nat.le_of_ble_eq_true rfl) p1 ⟨by omega, by omega⟩ st) (cwV 1 C.1.2.2.2.2 gX1_dayOf_X5_get rfl rfl rfl (by decide +kernel) ⟨Nat.le_of_ble_eq_true rfl, Nat.le_of_ble_eq_true rfl⟩) 13 (wX_row cJ a st (r := 5) (Nat.le_of_ble_eq_true rfl)) rfl rfl rfl rfl (Nat.le_of_ble_eq_true rfl) ⟨Nat.zero_le _, Nat.zero_le _⟩ dX1_dayOf_5 (fun z u hz2 hu => ?_)
  obtain ⟨qz2, hu⟩ : z = rget 24 (st.2 5) p1 ∧ u = st := hu
  replace hu := hu.symm; subst hu; subst qz2
  have k3 : 0 ≤ rget 24 (st.2 5) p1 ∧ rget 24 (st.2 5) p1 ≤ 3599 := xget_ok hO1 5 24 p1
  exact f_lret C hret hlk dX1_dayOf_8 ⟨by omega, by omega⟩ (hp _ (by rw [F_X1_dayOf]) (by omega))

def F_X1_measureOf (p1 : Int) (st : fS) : Int := rget 24 (st.2 6) p1
abbrev rm_X1_measureOf : Room := { frames := 1, cells := 0, slots := 0, locals := 21 }
set_option maxRecDepth 100000 in
set_option maxHeartbeats 8000000 in
theorem c_X1_measureOf {l : Launch} {D : va_G} {cI cJ cZ cB : ClassId} {a : Nat → Nat} {E : State → Prop} (hX : xHyp a E) (p1 : Int) (h1 : in32 p1) (st : fS)  : xMl l D cI cJ cZ cB a E yX1_measureOf wsX1_measureOf rm_X1_measureOf [.ref (a 2), .int (zI p1)] st (fun z u => z = F_X1_measureOf p1 st ∧ u = st ∧ (0 ≤ z ∧ z ≤ 1000000)) := by
  refine fB_open (cc := cX1_measureOf) (maxL := 2) (ret := (some .long)) (by decide) rfl (Nat.le_of_ble_eq_true rfl) hX.2 ?_
  intro p e s m below meth c C hret hlk
  have hin1 : ∀ w ∈ u_ws RX1 TX1 6, w ∈ wsX1_measureOf := by decide +kernel
  have hp : ∀ z : Int, z = F_X1_measureOf p1 st → (0 ≤ z ∧ z ≤ 1000000) → z = F_X1_measureOf p1 st ∧ st = st ∧ (0 ≤ z ∧ z ≤ 1000000) := fun z h r1 => ⟨h, rfl, r1⟩
  refine f_aload_n C 0 dX1_measureOf_0 rfl rfl ?_
  refine f_get C hin1 2 3 rfl rfl (Nat.le_of_ble_eq_true rfl) (by decide +kernel) rfl rfl dX1_measureOf_1 ?_
  refine f_iload_n C 1 dX1_measureOf_4 rfl rfl ?_
  refine f_ok (fun hO1 => ?_)
  refine f_calll C (c_Row_get hX 6 (Nat.le_of_ble_eq_true rfl) p1 ⟨by omega, by omega⟩ st) (cwV 1 C.1.2.2.2.2 gX1_measureOf_X5_get rfl rfl rfl (by decide +kernel) ⟨Nat.le_of_ble_eq_true rfl, Nat.le_of_ble_eq_true rfl⟩) 14 (wX_row cJ a st (r := 6) (Nat.le_of_ble_eq_true rfl)) rfl rfl rfl rfl (Nat.le_of_ble_eq_true rfl) ⟨Nat.zero_le _, Nat.zero_le _⟩ dX1_measureOf_5 (fun z u hz2 hu => ?_)
  obtain ⟨qz2, hu⟩ : z = rget 24 (st.2 6) p1 ∧ u = st := hu
  replace hu := hu.symm; subst hu; subst qz2
  have k3 : 0 ≤ rget 24 (st.2 6) p1 ∧ rget 24 (st.2 6) p1 ≤ 1000000 := xget_ok hO1 6 24 p1
  exact f_lret C hret hlk dX1_measureOf_8 ⟨by omega, by omega⟩ (hp _ (by rw [F_X1_measureOf]) (by omega))

def F_X2_count (st : fS) : Int := st.1 9
abbrev rm_X2_count : Room := { frames := 0, cells := 0, slots := 0, locals := 0 }
set_option maxRecDepth 100000 in
set_option maxHeartbeats 8000000 in
theorem c_X2_count {l : Launch} {D : va_G} {cI cJ cZ cB : ClassId} {a : Nat → Nat} {E : State → Prop} (hX : xHyp a E)   (st : fS)  : xMi l D cI cJ cZ cB a E yX2_count wsX2_count rm_X2_count [.ref (a 7)] st (fun z u => z = F_X2_count st ∧ u = st ∧ (z = st.1 9 ∧ 0 ≤ z ∧ z ≤ 24)) := by
  refine fB_open (cc := cX2_count) (maxL := 1) (ret := (some .int)) (by decide) rfl (Nat.le_of_ble_eq_true rfl) hX.2 ?_
  intro p e s m below meth c C hret hlk
  have hin2 : ∀ w ∈ u_ws RX2 TX2 7, w ∈ wsX2_count := by decide +kernel
  have hp : ∀ z : Int, z = F_X2_count st → (z = st.1 9 ∧ 0 ≤ z ∧ z ≤ 24) → z = F_X2_count st ∧ st = st ∧ (z = st.1 9 ∧ 0 ≤ z ∧ z ≤ 24) := fun z h r1 => ⟨h, rfl, r1⟩
  refine f_aload_n C 0 dX2_count_0 rfl rfl ?_
  refine f_ok (fun hO1 => ?_)
  have k2 : 0 ≤ st.1 9 ∧ st.1 9 ≤ 24 := hO1.1 9
  refine f_get C (v := .int (zI (st.1 9))) hin2 7 5 rfl rfl (Nat.le_of_ble_eq_true rfl) (by decide +kernel) rfl rfl dX2_count_1 ?_
  exact f_iret C hret hlk dX2_count_4 ⟨by omega, by omega⟩ (hp _ (by rw [F_X2_count]) (by omega))

def F_X2_has (p1 : Int) (st : fS) : Int := if p1 < 0 then 0 else (if (st.1 9) ≤ p1 then 0 else 1)
abbrev rm_X2_has : Room := { frames := 0, cells := 0, slots := 0, locals := 0 }
set_option maxRecDepth 100000 in
set_option maxHeartbeats 8000000 in
theorem c_X2_has {l : Launch} {D : va_G} {cI cJ cZ cB : ClassId} {a : Nat → Nat} {E : State → Prop} (hX : xHyp a E) (p1 : Int) (h1 : in32 p1) (st : fS)  : xMi l D cI cJ cZ cB a E yX2_has wsX2_has rm_X2_has [.ref (a 7), .int (zI p1)] st (fun z u => z = F_X2_has p1 st ∧ u = st ∧ ((z = 1 ∧ (0 ≤ p1 ∧ p1 < st.1 9)) ∨ (z = 0 ∧ ¬ (0 ≤ p1 ∧ p1 < st.1 9)))) := by
  refine fB_open (cc := cX2_has) (maxL := 2) (ret := (some .boolean)) (by decide) rfl (Nat.le_of_ble_eq_true rfl) hX.2 ?_
  intro p e s m below meth c C hret hlk
  have hin2 : ∀ w ∈ u_ws RX2 TX2 7, w ∈ wsX2_has := by decide +kernel
  have hp : ∀ z : Int, z = F_X2_has p1 st → ((z = 1 ∧ (0 ≤ p1 ∧ p1 < st.1 9)) ∨ (z = 0 ∧ ¬ (0 ≤ p1 ∧ p1 < st.1 9))) → z = F_X2_has p1 st ∧ st = st ∧ ((z = 1 ∧ (0 ≤ p1 ∧ p1 < st.1 9)) ∨ (z = 0 ∧ ¬ (0 ≤ p1 ∧ p1 < st.1 9))) := fun z h r1 => ⟨h, rfl, r1⟩
  refine f_iload_n C 1 dX2_has_0 rfl rfl ?_
  refine f_if_lt C 16 ⟨by omega, by omega⟩ dX2_has_1 (by decide) (fun c1 => ?_) (fun c1 => ?_)
  · refine f_iconst C dX2_has_16 ?_
    exact f_zret C hret hlk dX2_has_17 (by decide) (hp _ (by rw [F_X2_has, if_pos c1]) (by omega))
  refine f_iload_n C 1 dX2_has_4 rfl rfl ?_
  refine f_aload_n C 0 dX2_has_5 rfl rfl ?_
  refine f_ok (fun hO2 => ?_)
  have k3 : 0 ≤ st.1 9 ∧ st.1 9 ≤ 24 := hO2.1 9
  refine f_get C (v := .int (zI (st.1 9))) hin2 7 5 rfl rfl (Nat.le_of_ble_eq_true rfl) (by decide +kernel) rfl rfl dX2_has_6 ?_
  refine f_icmp_ge C 16 ⟨by omega, by omega⟩ ⟨by omega, by omega⟩ dX2_has_9 (by decide) (fun c4 => ?_) (fun c4 => ?_)
  · refine f_iconst C dX2_has_16 ?_
    exact f_zret C hret hlk dX2_has_17 (by decide) (hp _ (by rw [F_X2_has, if_neg c1, if_pos c4]) (by omega))
  refine f_iconst C dX2_has_12 ?_
  refine f_goto C 17 dX2_has_13 (by decide) ?_
  exact f_zret C hret hlk dX2_has_17 (by decide) (hp _ (by rw [F_X2_has, if_neg c1, if_neg c4]) (by omega))

def F_X2_factOf (p1 : Int) (st : fS) : Int := rget 24 (st.2 24) p1
abbrev rm_X2_factOf : Room := { frames := 1, cells := 0, slots := 0, locals := 21 }
set_option maxRecDepth 100000 in
set_option maxHeartbeats 8000000 in
theorem c_X2_factOf {l : Launch} {D : va_G} {cI cJ cZ cB : ClassId} {a : Nat → Nat} {E : State → Prop} (hX : xHyp a E) (p1 : Int) (h1 : in32 p1) (st : fS)  : xMl l D cI cJ cZ cB a E yX2_factOf wsX2_factOf rm_X2_factOf [.ref (a 7), .int (zI p1)] st (fun z u => z = F_X2_factOf p1 st ∧ u = st ∧ (0 ≤ z ∧ z ≤ 23)) := by
  refine fB_open (cc := cX2_factOf) (maxL := 2) (ret := (some .long)) (by decide) rfl (Nat.le_of_ble_eq_true rfl) hX.2 ?_
  intro p e s m below meth c C hret hlk
  have hin2 : ∀ w ∈ u_ws RX2 TX2 7, w ∈ wsX2_factOf := by decide +kernel
  have hp : ∀ z : Int, z = F_X2_factOf p1 st → (0 ≤ z ∧ z ≤ 23) → z = F_X2_factOf p1 st ∧ st = st ∧ (0 ≤ z ∧ z ≤ 23) := fun z h r1 => ⟨h, rfl, r1⟩
  refine f_aload_n C 0 dX2_factOf_0 rfl rfl ?_
  refine f_get C hin2 7 0 rfl rfl (Nat.le_of_ble_eq_true rfl) (by decide +kernel) rfl rfl dX2_factOf_1 ?_
  refine f_iload_n C 1 dX2_factOf_4 rfl rfl ?_
  refine f_ok (fun hO1 => ?_)
  refine f_calll C (c_Row_get hX 24 (Nat.le_of_ble_eq_true rfl) p1 ⟨by omega, by omega⟩ st) (cwV 1 C.1.2.2.2.2 gX2_factOf_X5_get rfl rfl rfl (by decide +kernel) ⟨Nat.le_of_ble_eq_true rfl, Nat.le_of_ble_eq_true rfl⟩) 32 (wX_row cJ a st (r := 24) (Nat.le_of_ble_eq_true rfl)) rfl rfl rfl rfl (Nat.le_of_ble_eq_true rfl) ⟨Nat.zero_le _, Nat.zero_le _⟩ dX2_factOf_5 (fun z u hz2 hu => ?_)
  obtain ⟨qz2, hu⟩ : z = rget 24 (st.2 24) p1 ∧ u = st := hu
  replace hu := hu.symm; subst hu; subst qz2
  have k3 : 0 ≤ rget 24 (st.2 24) p1 ∧ rget 24 (st.2 24) p1 ≤ 23 := xget_ok hO1 24 24 p1
  exact f_lret C hret hlk dX2_factOf_8 ⟨by omega, by omega⟩ (hp _ (by rw [F_X2_factOf]) (by omega))

def F_X2_centsOf (p1 : Int) (st : fS) : Int := rget 24 (st.2 25) p1
abbrev rm_X2_centsOf : Room := { frames := 1, cells := 0, slots := 0, locals := 21 }
set_option maxRecDepth 100000 in
set_option maxHeartbeats 8000000 in
theorem c_X2_centsOf {l : Launch} {D : va_G} {cI cJ cZ cB : ClassId} {a : Nat → Nat} {E : State → Prop} (hX : xHyp a E) (p1 : Int) (h1 : in32 p1) (st : fS)  : xMl l D cI cJ cZ cB a E yX2_centsOf wsX2_centsOf rm_X2_centsOf [.ref (a 7), .int (zI p1)] st (fun z u => z = F_X2_centsOf p1 st ∧ u = st) := by
  refine fB_open (cc := cX2_centsOf) (maxL := 2) (ret := (some .long)) (by decide) rfl (Nat.le_of_ble_eq_true rfl) hX.2 ?_
  intro p e s m below meth c C hret hlk
  have hin2 : ∀ w ∈ u_ws RX2 TX2 7, w ∈ wsX2_centsOf := by decide +kernel
  have hp : ∀ z : Int, z = F_X2_centsOf p1 st → z = F_X2_centsOf p1 st ∧ st = st := fun z h => ⟨h, rfl⟩
  refine f_aload_n C 0 dX2_centsOf_0 rfl rfl ?_
  refine f_get C hin2 7 1 rfl rfl (Nat.le_of_ble_eq_true rfl) (by decide +kernel) rfl rfl dX2_centsOf_1 ?_
  refine f_iload_n C 1 dX2_centsOf_4 rfl rfl ?_
  refine f_ok (fun hO1 => ?_)
  refine f_calll C (c_Row_get hX 25 (Nat.le_of_ble_eq_true rfl) p1 ⟨by omega, by omega⟩ st) (cwV 1 C.1.2.2.2.2 gX2_centsOf_X5_get rfl rfl rfl (by decide +kernel) ⟨Nat.le_of_ble_eq_true rfl, Nat.le_of_ble_eq_true rfl⟩) 33 (wX_row cJ a st (r := 25) (Nat.le_of_ble_eq_true rfl)) rfl rfl rfl rfl (Nat.le_of_ble_eq_true rfl) ⟨Nat.zero_le _, Nat.zero_le _⟩ dX2_centsOf_5 (fun z u hz2 hu => ?_)
  obtain ⟨qz2, hu⟩ : z = rget 24 (st.2 25) p1 ∧ u = st := hu
  replace hu := hu.symm; subst hu; subst qz2
  have k3 : (-100000000000000) ≤ rget 24 (st.2 25) p1 ∧ rget 24 (st.2 25) p1 ≤ 100000000000000 := xget_ok hO1 25 24 p1
  exact f_lret C hret hlk dX2_centsOf_8 ⟨by omega, by omega⟩ (hp _ (by rw [F_X2_centsOf]))

def F_X2_editionOf (p1 : Int) (st : fS) : Int := rget 24 (st.2 26) p1
abbrev rm_X2_editionOf : Room := { frames := 1, cells := 0, slots := 0, locals := 21 }
set_option maxRecDepth 100000 in
set_option maxHeartbeats 8000000 in
theorem c_X2_editionOf {l : Launch} {D : va_G} {cI cJ cZ cB : ClassId} {a : Nat → Nat} {E : State → Prop} (hX : xHyp a E) (p1 : Int) (h1 : in32 p1) (st : fS)  : xMl l D cI cJ cZ cB a E yX2_editionOf wsX2_editionOf rm_X2_editionOf [.ref (a 7), .int (zI p1)] st (fun z u => z = F_X2_editionOf p1 st ∧ u = st ∧ ((-1) ≤ z ∧ z ≤ 5)) := by
  refine fB_open (cc := cX2_editionOf) (maxL := 2) (ret := (some .long)) (by decide) rfl (Nat.le_of_ble_eq_true rfl) hX.2 ?_
  intro p e s m below meth c C hret hlk
  have hin2 : ∀ w ∈ u_ws RX2 TX2 7, w ∈ wsX2_editionOf := by decide +kernel
  have hp : ∀ z : Int, z = F_X2_editionOf p1 st → ((-1) ≤ z ∧ z ≤ 5) → z = F_X2_editionOf p1 st ∧ st = st ∧ ((-1) ≤ z ∧ z ≤ 5) := fun z h r1 => ⟨h, rfl, r1⟩
  refine f_aload_n C 0 dX2_editionOf_0 rfl rfl ?_
  refine f_get C hin2 7 2 rfl rfl (Nat.le_of_ble_eq_true rfl) (by decide +kernel) rfl rfl dX2_editionOf_1 ?_
  refine f_iload_n C 1 dX2_editionOf_4 rfl rfl ?_
  refine f_ok (fun hO1 => ?_)
  refine f_calll C (c_Row_get hX 26 (Nat.le_of_ble_eq_true rfl) p1 ⟨by omega, by omega⟩ st) (cwV 1 C.1.2.2.2.2 gX2_editionOf_X5_get rfl rfl rfl (by decide +kernel) ⟨Nat.le_of_ble_eq_true rfl, Nat.le_of_ble_eq_true rfl⟩) 34 (wX_row cJ a st (r := 26) (Nat.le_of_ble_eq_true rfl)) rfl rfl rfl rfl (Nat.le_of_ble_eq_true rfl) ⟨Nat.zero_le _, Nat.zero_le _⟩ dX2_editionOf_5 (fun z u hz2 hu => ?_)
  obtain ⟨qz2, hu⟩ : z = rget 24 (st.2 26) p1 ∧ u = st := hu
  replace hu := hu.symm; subst hu; subst qz2
  have k3 : (-1) ≤ rget 24 (st.2 26) p1 ∧ rget 24 (st.2 26) p1 ≤ 5 := xget_ok hO1 26 24 p1
  exact f_lret C hret hlk dX2_editionOf_8 ⟨by omega, by omega⟩ (hp _ (by rw [F_X2_editionOf]) (by omega))

def F_X2_lackOf (p1 : Int) (st : fS) : Int := rget 24 (st.2 27) p1
abbrev rm_X2_lackOf : Room := { frames := 1, cells := 0, slots := 0, locals := 21 }
set_option maxRecDepth 100000 in
set_option maxHeartbeats 8000000 in
theorem c_X2_lackOf {l : Launch} {D : va_G} {cI cJ cZ cB : ClassId} {a : Nat → Nat} {E : State → Prop} (hX : xHyp a E) (p1 : Int) (h1 : in32 p1) (st : fS)  : xMl l D cI cJ cZ cB a E yX2_lackOf wsX2_lackOf rm_X2_lackOf [.ref (a 7), .int (zI p1)] st (fun z u => z = F_X2_lackOf p1 st ∧ u = st ∧ (0 ≤ z ∧ z ≤ 2)) := by
  refine fB_open (cc := cX2_lackOf) (maxL := 2) (ret := (some .long)) (by decide) rfl (Nat.le_of_ble_eq_true rfl) hX.2 ?_
  intro p e s m below meth c C hret hlk
  have hin2 : ∀ w ∈ u_ws RX2 TX2 7, w ∈ wsX2_lackOf := by decide +kernel
  have hp : ∀ z : Int, z = F_X2_lackOf p1 st → (0 ≤ z ∧ z ≤ 2) → z = F_X2_lackOf p1 st ∧ st = st ∧ (0 ≤ z ∧ z ≤ 2) := fun z h r1 => ⟨h, rfl, r1⟩
  refine f_aload_n C 0 dX2_lackOf_0 rfl rfl ?_
  refine f_get C hin2 7 3 rfl rfl (Nat.le_of_ble_eq_true rfl) (by decide +kernel) rfl rfl dX2_lackOf_1 ?_
  refine f_iload_n C 1 dX2_lackOf_4 rfl rfl ?_
  refine f_ok (fun hO1 => ?_)
  refine f_calll C (c_Row_get hX 27 (Nat.le_of_ble_eq_true rfl) p1 ⟨by omega, by omega⟩ st) (cwV 1 C.1.2.2.2.2 gX2_lackOf_X5_get rfl rfl rfl (by decide +kernel) ⟨Nat.le_of_ble_eq_true rfl, Nat.le_of_ble_eq_true rfl⟩) 35 (wX_row cJ a st (r := 27) (Nat.le_of_ble_eq_true rfl)) rfl rfl rfl rfl (Nat.le_of_ble_eq_true rfl) ⟨Nat.zero_le _, Nat.zero_le _⟩ dX2_lackOf_5 (fun z u hz2 hu => ?_)
  obtain ⟨qz2, hu⟩ : z = rget 24 (st.2 27) p1 ∧ u = st := hu
  replace hu := hu.symm; subst hu; subst qz2
  have k3 : 0 ≤ rget 24 (st.2 27) p1 ∧ rget 24 (st.2 27) p1 ≤ 2 := xget_ok hO1 27 24 p1
  exact f_lret C hret hlk dX2_lackOf_8 ⟨by omega, by omega⟩ (hp _ (by rw [F_X2_lackOf]) (by omega))

def F_X2_printedByte (p1 : Int) (st : fS) : Int := if p1 < 0 then (-1) else (if (st.1 10) ≤ p1 then (-1) else rget 552 (st.2 28) p1)
abbrev rm_X2_printedByte : Room := { frames := 1, cells := 0, slots := 0, locals := 21 }
set_option maxRecDepth 100000 in
set_option maxHeartbeats 8000000 in
theorem c_X2_printedByte {l : Launch} {D : va_G} {cI cJ cZ cB : ClassId} {a : Nat → Nat} {E : State → Prop} (hX : xHyp a E) (p1 : Int) (h1 : in32 p1) (st : fS)  : xMi l D cI cJ cZ cB a E yX2_printedByte wsX2_printedByte rm_X2_printedByte [.ref (a 7), .int (zI p1)] st (fun z u => z = F_X2_printedByte p1 st ∧ u = st) := by
  refine fB_open (cc := cX2_printedByte) (maxL := 2) (ret := (some .int)) (by decide) rfl (Nat.le_of_ble_eq_true rfl) hX.2 ?_
  intro p e s m below meth c C hret hlk
  have hin2 : ∀ w ∈ u_ws RX2 TX2 7, w ∈ wsX2_printedByte := by decide +kernel
  have hp : ∀ z : Int, z = F_X2_printedByte p1 st → z = F_X2_printedByte p1 st ∧ st = st := fun z h => ⟨h, rfl⟩
  refine f_iload_n C 1 dX2_printedByte_0 rfl rfl ?_
  refine f_if_lt C 24 ⟨by omega, by omega⟩ dX2_printedByte_1 (by decide) (fun c1 => ?_) (fun c1 => ?_)
  · refine f_iconst C dX2_printedByte_24 ?_
    exact f_iret C hret hlk dX2_printedByte_25 ⟨by decide, by decide⟩ (hp _ (by rw [F_X2_printedByte, if_pos c1]))
  refine f_iload_n C 1 dX2_printedByte_4 rfl rfl ?_
  refine f_aload_n C 0 dX2_printedByte_5 rfl rfl ?_
  refine f_ok (fun hO2 => ?_)
  have k3 : (-1000000000) ≤ st.1 10 ∧ st.1 10 ≤ 1000000000 := hO2.1 10
  refine f_get C (v := .int (zI (st.1 10))) hin2 7 6 rfl rfl (Nat.le_of_ble_eq_true rfl) (by decide +kernel) rfl rfl dX2_printedByte_6 ?_
  refine f_icmp_ge C 24 ⟨by omega, by omega⟩ ⟨by omega, by omega⟩ dX2_printedByte_9 (by decide) (fun c4 => ?_) (fun c4 => ?_)
  · refine f_iconst C dX2_printedByte_24 ?_
    exact f_iret C hret hlk dX2_printedByte_25 ⟨by decide, by decide⟩ (hp _ (by rw [F_X2_printedByte, if_neg c1, if_pos c4]))
  refine f_aload_n C 0 dX2_printedByte_12 rfl rfl ?_
  refine f_get C hin2 7 4 rfl rfl (Nat.le_of_ble_eq_true rfl) (by decide +kernel) rfl rfl dX2_printedByte_13 ?_
  refine f_iload_n C 1 dX2_printedByte_16 rfl rfl ?_
  refine f_calll C (c_Row_get hX 28 (Nat.le_of_ble_eq_true rfl) p1 ⟨by omega, by omega⟩ st) (cwV 1 C.1.2.2.2.2 gX2_printedByte_X5_get rfl rfl rfl (by decide +kernel) ⟨Nat.le_of_ble_eq_true rfl, Nat.le_of_ble_eq_true rfl⟩) 36 (wX_row cJ a st (r := 28) (Nat.le_of_ble_eq_true rfl)) rfl rfl rfl rfl (Nat.le_of_ble_eq_true rfl) ⟨Nat.zero_le _, Nat.zero_le _⟩ dX2_printedByte_17 (fun z u hz5 hu => ?_)
  obtain ⟨qz5, hu⟩ : z = rget 552 (st.2 28) p1 ∧ u = st := hu
  replace hu := hu.symm; subst hu; subst qz5
  have k6 : 0 ≤ rget 552 (st.2 28) p1 ∧ rget 552 (st.2 28) p1 ≤ 255 := xget_ok hO2 28 552 p1
  refine f_l2i C dX2_printedByte_20 ?_
  refine f_goto C 25 dX2_printedByte_21 (by decide) ?_
  exact f_iret C hret hlk dX2_printedByte_25 ⟨by omega, by omega⟩ (hp _ (by rw [F_X2_printedByte, if_neg c1, if_neg c4]))

def F_X3_has (p1 : Int) (st : fS) : Int := if p1 < 0 then 0 else (if (st.1 0) ≤ p1 then 0 else 1)
abbrev rm_X3_has : Room := { frames := 0, cells := 0, slots := 0, locals := 0 }
set_option maxRecDepth 100000 in
set_option maxHeartbeats 8000000 in
theorem c_X3_has {l : Launch} {D : va_G} {cI cJ cZ cB : ClassId} {a : Nat → Nat} {E : State → Prop} (hX : xHyp a E) (p1 : Int) (h1 : in32 p1) (st : fS)  : xMi l D cI cJ cZ cB a E yX3_has wsX3_has rm_X3_has [.ref (a 1), .int (zI p1)] st (fun z u => z = F_X3_has p1 st ∧ u = st ∧ (((z = 1 ∧ (0 ≤ p1 ∧ p1 < st.1 0)) ∨ (z = 0 ∧ ¬ (0 ≤ p1 ∧ p1 < st.1 0))) ∧ 0 ≤ st.1 0 ∧ st.1 0 ≤ 4)) := by
  refine fB_open (cc := cX3_has) (maxL := 2) (ret := (some .boolean)) (by decide) rfl (Nat.le_of_ble_eq_true rfl) hX.2 ?_
  intro p e s m below meth c C hret hlk
  have hin3 : ∀ w ∈ u_ws RX3 TX3 4, w ∈ wsX3_has := by decide +kernel
  have hp : ∀ z : Int, z = F_X3_has p1 st → (((z = 1 ∧ (0 ≤ p1 ∧ p1 < st.1 0)) ∨ (z = 0 ∧ ¬ (0 ≤ p1 ∧ p1 < st.1 0))) ∧ 0 ≤ st.1 0 ∧ st.1 0 ≤ 4) → z = F_X3_has p1 st ∧ st = st ∧ (((z = 1 ∧ (0 ≤ p1 ∧ p1 < st.1 0)) ∨ (z = 0 ∧ ¬ (0 ≤ p1 ∧ p1 < st.1 0))) ∧ 0 ≤ st.1 0 ∧ st.1 0 ≤ 4) := fun z h r1 => ⟨h, rfl, r1⟩
  refine f_iload_n C 1 dX3_has_0 rfl rfl ?_
  refine f_if_lt C 16 ⟨by omega, by omega⟩ dX3_has_1 (by decide) (fun c1 => ?_) (fun c1 => ?_)
  · refine f_iconst C dX3_has_16 ?_
    refine f_ok (fun hZ => ?_)
    have ky : 0 ≤ st.1 0 ∧ st.1 0 ≤ 4 := hZ.1 0
    exact f_zret C hret hlk dX3_has_17 (by decide) (hp _ (by rw [F_X3_has, if_pos c1]) (by omega))
  refine f_iload_n C 1 dX3_has_4 rfl rfl ?_
  refine f_aload_n C 0 dX3_has_5 rfl rfl ?_
  refine f_ok (fun hO2 => ?_)
  have k3 : 0 ≤ st.1 0 ∧ st.1 0 ≤ 4 := hO2.1 0
  refine f_get C (v := .int (zI (st.1 0))) hin3 1 3 rfl rfl (Nat.le_of_ble_eq_true rfl) (by decide +kernel) rfl rfl dX3_has_6 ?_
  refine f_icmp_ge C 16 ⟨by omega, by omega⟩ ⟨by omega, by omega⟩ dX3_has_9 (by decide) (fun c4 => ?_) (fun c4 => ?_)
  · refine f_iconst C dX3_has_16 ?_
    refine f_ok (fun hZ => ?_)
    have ky : 0 ≤ st.1 0 ∧ st.1 0 ≤ 4 := hZ.1 0
    exact f_zret C hret hlk dX3_has_17 (by decide) (hp _ (by rw [F_X3_has, if_neg c1, if_pos c4]) (by omega))
  refine f_iconst C dX3_has_12 ?_
  refine f_goto C 17 dX3_has_13 (by decide) ?_
  refine f_ok (fun hZ => ?_)
  have ky : 0 ≤ st.1 0 ∧ st.1 0 ≤ 4 := hZ.1 0
  exact f_zret C hret hlk dX3_has_17 (by decide) (hp _ (by rw [F_X3_has, if_neg c1, if_neg c4]) (by omega))

def F_X3_hasFlat (p1 : Int) (p2 : Int) (st : fS) : Int := if (F_X3_has p1 st) = 0 then 0 else (if p2 < 0 then 0 else (if (rget 4 (st.2 0) p1) ≤ p2 then 0 else 1))
abbrev rm_X3_hasFlat : Room := { frames := 1, cells := 0, slots := 0, locals := 21 }
set_option maxRecDepth 100000 in
set_option maxHeartbeats 8000000 in
theorem c_X3_hasFlat {l : Launch} {D : va_G} {cI cJ cZ cB : ClassId} {a : Nat → Nat} {E : State → Prop} (hX : xHyp a E) (p1 : Int) (p2 : Int) (h1 : in32 p1) (h2 : in32 p2) (st : fS)  : xMi l D cI cJ cZ cB a E yX3_hasFlat wsX3_hasFlat rm_X3_hasFlat [.ref (a 1), .int (zI p1), .int (zI p2)] st (fun z u => z = F_X3_hasFlat p1 p2 st ∧ u = st ∧ (((z = 1 ∧ ((0 ≤ p1 ∧ p1 < st.1 0) ∧ (0 ≤ p2 ∧ p2 < rget 4 (st.2 0) p1))) ∨ (z = 0 ∧ ¬ ((0 ≤ p1 ∧ p1 < st.1 0) ∧ (0 ≤ p2 ∧ p2 < rget 4 (st.2 0) p1)))) ∧ (0 ≤ st.1 0 ∧ st.1 0 ≤ 4) ∧ rget 4 (st.2 0) p1 ≤ 6)) := by
  refine fB_open (cc := cX3_hasFlat) (maxL := 3) (ret := (some .boolean)) (by decide) rfl (Nat.le_of_ble_eq_true rfl) hX.2 ?_
  intro p e s m below meth c C hret hlk
  have hin3 : ∀ w ∈ u_ws RX3 TX3 4, w ∈ wsX3_hasFlat := by decide +kernel
  have hp : ∀ z : Int, z = F_X3_hasFlat p1 p2 st → (((z = 1 ∧ ((0 ≤ p1 ∧ p1 < st.1 0) ∧ (0 ≤ p2 ∧ p2 < rget 4 (st.2 0) p1))) ∨ (z = 0 ∧ ¬ ((0 ≤ p1 ∧ p1 < st.1 0) ∧ (0 ≤ p2 ∧ p2 < rget 4 (st.2 0) p1)))) ∧ (0 ≤ st.1 0 ∧ st.1 0 ≤ 4) ∧ rget 4 (st.2 0) p1 ≤ 6) → z = F_X3_hasFlat p1 p2 st ∧ st = st ∧ (((z = 1 ∧ ((0 ≤ p1 ∧ p1 < st.1 0) ∧ (0 ≤ p2 ∧ p2 < rget 4 (st.2 0) p1))) ∨ (z = 0 ∧ ¬ ((0 ≤ p1 ∧ p1 < st.1 0) ∧ (0 ≤ p2 ∧ p2 < rget 4 (st.2 0) p1)))) ∧ (0 ≤ st.1 0 ∧ st.1 0 ≤ 4) ∧ rget 4 (st.2 0) p1 ≤ 6) := fun z h r1 => ⟨h, rfl, r1⟩
  refine f_aload_n C 0 dX3_hasFlat_0 rfl rfl ?_
  refine f_iload_n C 1 dX3_hasFlat_1 rfl rfl ?_
  refine f_calli C (c_X3_has hX p1 ⟨by omega, by omega⟩ st) (cwV 1 C.1.2.2.2.2 gX3_hasFlat_X3_has rfl rfl rfl (by decide +kernel) ⟨Nat.le_of_ble_eq_true rfl, Nat.le_of_ble_eq_true rfl⟩) 1 rfl rfl rfl rfl rfl (Nat.le_of_ble_eq_true rfl) ⟨Nat.zero_le _, Nat.zero_le _⟩ dX3_hasFlat_2 (fun z u hz1 hu => ?_)
  obtain ⟨qz1, hu, rz1⟩ := hu; replace hu := hu.symm; subst hu; subst qz1
  refine f_if_eq C 30 ⟨by omega, by omega⟩ dX3_hasFlat_5 (by decide) (fun c2 => ?_) (fun c2 => ?_)
  · refine f_iconst C dX3_hasFlat_30 ?_
    refine f_ok (fun hZ => ?_)
    have kz : 0 ≤ rget 4 (st.2 0) p1 ∧ rget 4 (st.2 0) p1 ≤ 6 := xget_ok hZ 0 4 p1
    exact f_zret C hret hlk dX3_hasFlat_31 (by decide) (hp _ (by rw [F_X3_hasFlat, if_pos c2]) (by omega))
  refine f_iload_n C 2 dX3_hasFlat_8 rfl rfl ?_
  refine f_if_lt C 30 ⟨by omega, by omega⟩ dX3_hasFlat_9 (by decide) (fun c3 => ?_) (fun c3 => ?_)
  · refine f_iconst C dX3_hasFlat_30 ?_
    refine f_ok (fun hZ => ?_)
    have kz : 0 ≤ rget 4 (st.2 0) p1 ∧ rget 4 (st.2 0) p1 ≤ 6 := xget_ok hZ 0 4 p1
    exact f_zret C hret hlk dX3_hasFlat_31 (by decide) (hp _ (by rw [F_X3_hasFlat, if_neg c2, if_pos c3]) (by omega))
  refine f_iload_n C 2 dX3_hasFlat_12 rfl rfl ?_
  refine f_i2l C ⟨by omega, by omega⟩ dX3_hasFlat_13 ?_
  refine f_aload_n C 0 dX3_hasFlat_14 rfl rfl ?_
  refine f_get C hin3 1 0 rfl rfl (Nat.le_of_ble_eq_true rfl) (by decide +kernel) rfl rfl dX3_hasFlat_15 ?_
  refine f_iload_n C 1 dX3_hasFlat_18 rfl rfl ?_
  refine f_ok (fun hO4 => ?_)
  refine f_calll C (c_Row_get hX 0 (Nat.le_of_ble_eq_true rfl) p1 ⟨by omega, by omega⟩ st) (cwV 1 C.1.2.2.2.2 gX3_hasFlat_X5_get rfl rfl rfl (by decide +kernel) ⟨Nat.le_of_ble_eq_true rfl, Nat.le_of_ble_eq_true rfl⟩) 8 (wX_row cJ a st (r := 0) (Nat.le_of_ble_eq_true rfl)) rfl rfl rfl rfl (Nat.le_of_ble_eq_true rfl) ⟨Nat.zero_le _, Nat.zero_le _⟩ dX3_hasFlat_19 (fun z u hz5 hu => ?_)
  obtain ⟨qz5, hu⟩ : z = rget 4 (st.2 0) p1 ∧ u = st := hu
  replace hu := hu.symm; subst hu; subst qz5
  have k6 : 0 ≤ rget 4 (st.2 0) p1 ∧ rget 4 (st.2 0) p1 ≤ 6 := xget_ok hO4 0 4 p1
  refine f_lc_if_ge C 30 ⟨by omega, by omega⟩ ⟨by omega, by omega⟩ dX3_hasFlat_22 dX3_hasFlat_23 (by decide) (fun c7 => ?_) (fun c7 => ?_)
  · refine f_iconst C dX3_hasFlat_30 ?_
    refine f_ok (fun hZ => ?_)
    have kz : 0 ≤ rget 4 (st.2 0) p1 ∧ rget 4 (st.2 0) p1 ≤ 6 := xget_ok hZ 0 4 p1
    exact f_zret C hret hlk dX3_hasFlat_31 (by decide) (hp _ (by rw [F_X3_hasFlat, if_neg c2, if_neg c3, if_pos c7]) (by omega))
  refine f_iconst C dX3_hasFlat_26 ?_
  refine f_goto C 31 dX3_hasFlat_27 (by decide) ?_
  refine f_ok (fun hZ => ?_)
  have kz : 0 ≤ rget 4 (st.2 0) p1 ∧ rget 4 (st.2 0) p1 ≤ 6 := xget_ok hZ 0 4 p1
  exact f_zret C hret hlk dX3_hasFlat_31 (by decide) (hp _ (by rw [F_X3_hasFlat, if_neg c2, if_neg c3, if_neg c7]) (by omega))

def F_X7_isBlank (p0 : Int) (st : fS) : Int := if p0 = 32 then 1 else (if p0 = 10 then 1 else 0)
abbrev rm_X7_isBlank : Room := { frames := 0, cells := 0, slots := 0, locals := 0 }
set_option maxRecDepth 100000 in
set_option maxHeartbeats 8000000 in
theorem c_X7_isBlank {l : Launch} {D : va_G} {cI cJ cZ cB : ClassId} {a : Nat → Nat} {E : State → Prop} (hX : xHyp a E) (p0 : Int) (h0 : in64 p0) (st : fS)  : xMi l D cI cJ cZ cB a E yX7_isBlank wsX7_isBlank rm_X7_isBlank [.long (zJ p0)] st (fun z u => z = F_X7_isBlank p0 st ∧ u = st ∧ (z = 0 ∨ z = 1)) := by
  refine fB_open (cc := cX7_isBlank) (maxL := 2) (ret := (some .boolean)) (by decide) rfl (Nat.le_of_ble_eq_true rfl) hX.2 ?_
  intro p e s m below meth c C hret hlk
  have hp : ∀ z : Int, z = F_X7_isBlank p0 st → (z = 0 ∨ z = 1) → z = F_X7_isBlank p0 st ∧ st = st ∧ (z = 0 ∨ z = 1) := fun z h r1 => ⟨h, rfl, r1⟩
  refine f_lload_n C 0 dX7_isBlank_0 rfl rfl ?_
  refine f_ldc2 C (v := 32) (z := 32) (by decide +kernel) (by decide) dX7_isBlank_1 ?_
  refine f_lc_if_eq C 16 ⟨by omega, by omega⟩ ⟨by decide, by decide⟩ dX7_isBlank_4 dX7_isBlank_5 (by decide) (fun c1 => ?_) (fun c1 => ?_)
  · refine f_iconst C dX7_isBlank_16 ?_
    refine f_goto C 21 dX7_isBlank_17 (by decide) ?_
    exact f_zret C hret hlk dX7_isBlank_21 (by decide) (hp _ (by rw [F_X7_isBlank, if_pos c1]) (by omega))
  refine f_lload_n C 0 dX7_isBlank_8 rfl rfl ?_
  refine f_ldc2 C (v := 10) (z := 10) (by decide +kernel) (by decide) dX7_isBlank_9 ?_
  refine f_lc_if_ne C 20 ⟨by omega, by omega⟩ ⟨by decide, by decide⟩ dX7_isBlank_12 dX7_isBlank_13 (by decide) (fun c2 => ?_) (fun c2 => ?_)
  · refine f_iconst C dX7_isBlank_20 ?_
    exact f_zret C hret hlk dX7_isBlank_21 (by decide) (hp _ (by rw [F_X7_isBlank, if_neg c1, if_neg c2]) (by omega))
  refine f_iconst C dX7_isBlank_16 ?_
  refine f_goto C 21 dX7_isBlank_17 (by decide) ?_
  exact f_zret C hret hlk dX7_isBlank_21 (by decide) (hp _ (by rw [F_X7_isBlank, if_neg c1, if_pos c2]) (by omega))

def F_X7_hasWord (st : fS) : Int := if (st.1 4) ≤ (st.1 3) then 0 else 1
abbrev rm_X7_hasWord : Room := { frames := 0, cells := 0, slots := 0, locals := 0 }
set_option maxRecDepth 100000 in
set_option maxHeartbeats 8000000 in
theorem c_X7_hasWord {l : Launch} {D : va_G} {cI cJ cZ cB : ClassId} {a : Nat → Nat} {E : State → Prop} (hX : xHyp a E)   (st : fS)  : xMi l D cI cJ cZ cB a E yX7_hasWord wsX7_hasWord rm_X7_hasWord [.ref (a 3)] st (fun z u => z = F_X7_hasWord st ∧ u = st ∧ ((z = 1 ∧ (st.1 3 < st.1 4)) ∨ (z = 0 ∧ ¬ (st.1 3 < st.1 4)))) := by
  refine fB_open (cc := cX7_hasWord) (maxL := 1) (ret := (some .boolean)) (by decide) rfl (Nat.le_of_ble_eq_true rfl) hX.2 ?_
  intro p e s m below meth c C hret hlk
  have hin7 : ∀ w ∈ u_ws RX7 TX7 5, w ∈ wsX7_hasWord := by decide +kernel
  have hp : ∀ z : Int, z = F_X7_hasWord st → ((z = 1 ∧ (st.1 3 < st.1 4)) ∨ (z = 0 ∧ ¬ (st.1 3 < st.1 4))) → z = F_X7_hasWord st ∧ st = st ∧ ((z = 1 ∧ (st.1 3 < st.1 4)) ∨ (z = 0 ∧ ¬ (st.1 3 < st.1 4))) := fun z h r1 => ⟨h, rfl, r1⟩
  refine f_aload_n C 0 dX7_hasWord_0 rfl rfl ?_
  refine f_ok (fun hO1 => ?_)
  have k2 : 0 ≤ st.1 3 ∧ st.1 3 ≤ 600 := hO1.1 3
  refine f_get C (v := .int (zI (st.1 3))) hin7 3 2 rfl rfl (Nat.le_of_ble_eq_true rfl) (by decide +kernel) rfl rfl dX7_hasWord_1 ?_
  refine f_aload_n C 0 dX7_hasWord_4 rfl rfl ?_
  have k3 : 0 ≤ st.1 4 ∧ st.1 4 ≤ 600 := hO1.1 4
  refine f_get C (v := .int (zI (st.1 4))) hin7 3 3 rfl rfl (Nat.le_of_ble_eq_true rfl) (by decide +kernel) rfl rfl dX7_hasWord_5 ?_
  refine f_icmp_ge C 15 ⟨by omega, by omega⟩ ⟨by omega, by omega⟩ dX7_hasWord_8 (by decide) (fun c4 => ?_) (fun c4 => ?_)
  · refine f_iconst C dX7_hasWord_15 ?_
    exact f_zret C hret hlk dX7_hasWord_16 (by decide) (hp _ (by rw [F_X7_hasWord, if_pos c4]) (by omega))
  refine f_iconst C dX7_hasWord_11 ?_
  refine f_goto C 16 dX7_hasWord_12 (by decide) ?_
  exact f_zret C hret hlk dX7_hasWord_16 (by decide) (hp _ (by rw [F_X7_hasWord, if_neg c4]) (by omega))

def F_X7_numberOfWord (st : fS) : Int := st.1 5
abbrev rm_X7_numberOfWord : Room := { frames := 0, cells := 0, slots := 0, locals := 0 }
set_option maxRecDepth 100000 in
set_option maxHeartbeats 8000000 in
theorem c_X7_numberOfWord {l : Launch} {D : va_G} {cI cJ cZ cB : ClassId} {a : Nat → Nat} {E : State → Prop} (hX : xHyp a E)   (st : fS)  : xMi l D cI cJ cZ cB a E yX7_numberOfWord wsX7_numberOfWord rm_X7_numberOfWord [.ref (a 3)] st (fun z u => z = F_X7_numberOfWord st ∧ u = st ∧ (z = st.1 5)) := by
  refine fB_open (cc := cX7_numberOfWord) (maxL := 1) (ret := (some .int)) (by decide) rfl (Nat.le_of_ble_eq_true rfl) hX.2 ?_
  intro p e s m below meth c C hret hlk
  have hin7 : ∀ w ∈ u_ws RX7 TX7 5, w ∈ wsX7_numberOfWord := by decide +kernel
  have hp : ∀ z : Int, z = F_X7_numberOfWord st → (z = st.1 5) → z = F_X7_numberOfWord st ∧ st = st ∧ (z = st.1 5) := fun z h r1 => ⟨h, rfl, r1⟩
  refine f_aload_n C 0 dX7_numberOfWord_0 rfl rfl ?_
  refine f_ok (fun hO1 => ?_)
  have k2 : (-1000000000) ≤ st.1 5 ∧ st.1 5 ≤ 1000000000 := hO1.1 5
  refine f_get C (v := .int (zI (st.1 5))) hin7 3 4 rfl rfl (Nat.le_of_ble_eq_true rfl) (by decide +kernel) rfl rfl dX7_numberOfWord_1 ?_
  exact f_iret C hret hlk dX7_numberOfWord_4 ⟨by omega, by omega⟩ (hp _ (by rw [F_X7_numberOfWord]) (by omega))

def F_X0_cellOf (p0 : Int) (p1 : Int) (st : fS) : Int := (p0 * 6) + p1
abbrev rm_X0_cellOf : Room := { frames := 0, cells := 0, slots := 0, locals := 0 }
set_option maxRecDepth 100000 in
set_option maxHeartbeats 8000000 in
theorem c_X0_cellOf {l : Launch} {D : va_G} {cI cJ cZ cB : ClassId} {a : Nat → Nat} {E : State → Prop} (hX : xHyp a E) (p0 : Int) (p1 : Int) (h0 : in32 p0) (h1 : in32 p1) (st : fS) (q1 : (-1000000) ≤ p0 ∧ p0 ≤ 1000000) (q2 : (-1000000) ≤ p1 ∧ p1 ≤ 1000000) : xMi l D cI cJ cZ cB a E yX0_cellOf wsX0_cellOf rm_X0_cellOf [.int (zI p0), .int (zI p1)] st (fun z u => z = F_X0_cellOf p0 p1 st ∧ u = st ∧ (z = p0 * 6 + p1)) := by
  refine fB_open (cc := cX0_cellOf) (maxL := 2) (ret := (some .int)) (by decide) rfl (Nat.le_of_ble_eq_true rfl) hX.2 ?_
  intro p e s m below meth c C hret hlk
  have hp : ∀ z : Int, z = F_X0_cellOf p0 p1 st → (z = p0 * 6 + p1) → z = F_X0_cellOf p0 p1 st ∧ st = st ∧ (z = p0 * 6 + p1) := fun z h r1 => ⟨h, rfl, r1⟩
  refine f_iload_n C 0 dX0_cellOf_0 rfl rfl ?_
  refine f_bipush C dX0_cellOf_1 (by decide) ?_
  refine f_imul C dX0_cellOf_3 ?_
  refine f_iload_n C 1 dX0_cellOf_4 rfl rfl ?_
  refine f_iadd C dX0_cellOf_5 ?_
  exact f_iret C hret hlk dX0_cellOf_6 ⟨by omega, by omega⟩ (hp _ (by rw [F_X0_cellOf]) (by omega))

def F_X3_weightOf (p1 : Int) (p2 : Int) (st : fS) : Int := rget 24 (st.2 1) ((p1 * 6) + p2)
abbrev rm_X3_weightOf : Room := { frames := 1, cells := 0, slots := 0, locals := 21 }
set_option maxRecDepth 100000 in
set_option maxHeartbeats 8000000 in
theorem c_X3_weightOf {l : Launch} {D : va_G} {cI cJ cZ cB : ClassId} {a : Nat → Nat} {E : State → Prop} (hX : xHyp a E) (p1 : Int) (p2 : Int) (h1 : in32 p1) (h2 : in32 p2) (st : fS) (q1 : (-1000000) ≤ p1 ∧ p1 ≤ 1000000) (q2 : (-1000000) ≤ p2 ∧ p2 ≤ 1000000) : xMl l D cI cJ cZ cB a E yX3_weightOf wsX3_weightOf rm_X3_weightOf [.ref (a 1), .int (zI p1), .int (zI p2)] st (fun z u => z = F_X3_weightOf p1 p2 st ∧ u = st ∧ (0 ≤ z ∧ z ≤ 1000)) := by
  refine fB_open (cc := cX3_weightOf) (maxL := 3) (ret := (some .long)) (by decide) rfl (Nat.le_of_ble_eq_true rfl) hX.2 ?_
  intro p e s m below meth c C hret hlk
  have hin3 : ∀ w ∈ u_ws RX3 TX3 4, w ∈ wsX3_weightOf := by decide +kernel
  have hp : ∀ z : Int, z = F_X3_weightOf p1 p2 st → (0 ≤ z ∧ z ≤ 1000) → z = F_X3_weightOf p1 p2 st ∧ st = st ∧ (0 ≤ z ∧ z ≤ 1000) := fun z h r1 => ⟨h, rfl, r1⟩
  refine f_aload_n C 0 dX3_weightOf_0 rfl rfl ?_
  refine f_get C hin3 1 1 rfl rfl (Nat.le_of_ble_eq_true rfl) (by decide +kernel) rfl rfl dX3_weightOf_1 ?_
  refine f_iload_n C 1 dX3_weightOf_4 rfl rfl ?_
  refine f_bipush C dX3_weightOf_5 (by decide) ?_
  refine f_imul C dX3_weightOf_7 ?_
  refine f_iload_n C 2 dX3_weightOf_8 rfl rfl ?_
  refine f_iadd C dX3_weightOf_9 ?_
  refine f_ok (fun hO1 => ?_)
  refine f_calll C (c_Row_get hX 1 (Nat.le_of_ble_eq_true rfl) ((p1 * 6) + p2) ⟨by omega, by omega⟩ st) (cwV 1 C.1.2.2.2.2 gX3_weightOf_X5_get rfl rfl rfl (by decide +kernel) ⟨Nat.le_of_ble_eq_true rfl, Nat.le_of_ble_eq_true rfl⟩) 9 (wX_row cJ a st (r := 1) (Nat.le_of_ble_eq_true rfl)) rfl rfl rfl rfl (Nat.le_of_ble_eq_true rfl) ⟨Nat.zero_le _, Nat.zero_le _⟩ dX3_weightOf_10 (fun z u hz2 hu => ?_)
  obtain ⟨qz2, hu⟩ : z = rget 24 (st.2 1) ((p1 * 6) + p2) ∧ u = st := hu
  replace hu := hu.symm; subst hu; subst qz2
  have k3 : 0 ≤ rget 24 (st.2 1) ((p1 * 6) + p2) ∧ rget 24 (st.2 1) ((p1 * 6) + p2) ≤ 1000 := xget_ok hO1 1 24 ((p1 * 6) + p2)
  exact f_lret C hret hlk dX3_weightOf_13 ⟨by omega, by omega⟩ (hp _ (by rw [F_X3_weightOf]) (by omega))

def F_X3_issuedOf (p1 : Int) (p2 : Int) (st : fS) : Int := rget 480 (st.2 2) ((p1 * 120) + p2)
abbrev rm_X3_issuedOf : Room := { frames := 1, cells := 0, slots := 0, locals := 21 }
set_option maxRecDepth 100000 in
set_option maxHeartbeats 8000000 in
theorem c_X3_issuedOf {l : Launch} {D : va_G} {cI cJ cZ cB : ClassId} {a : Nat → Nat} {E : State → Prop} (hX : xHyp a E) (p1 : Int) (p2 : Int) (h1 : in32 p1) (h2 : in32 p2) (st : fS) (q1 : (-1000000) ≤ p1 ∧ p1 ≤ 1000000) (q2 : (-1000000) ≤ p2 ∧ p2 ≤ 1000000) : xMl l D cI cJ cZ cB a E yX3_issuedOf wsX3_issuedOf rm_X3_issuedOf [.ref (a 1), .int (zI p1), .int (zI p2)] st (fun z u => z = F_X3_issuedOf p1 p2 st ∧ u = st ∧ ((-10000000000000000) ≤ z ∧ z ≤ 10000000000000000)) := by
  refine fB_open (cc := cX3_issuedOf) (maxL := 3) (ret := (some .long)) (by decide) rfl (Nat.le_of_ble_eq_true rfl) hX.2 ?_
  intro p e s m below meth c C hret hlk
  have hin3 : ∀ w ∈ u_ws RX3 TX3 4, w ∈ wsX3_issuedOf := by decide +kernel
  have hp : ∀ z : Int, z = F_X3_issuedOf p1 p2 st → ((-10000000000000000) ≤ z ∧ z ≤ 10000000000000000) → z = F_X3_issuedOf p1 p2 st ∧ st = st ∧ ((-10000000000000000) ≤ z ∧ z ≤ 10000000000000000) := fun z h r1 => ⟨h, rfl, r1⟩
  refine f_aload_n C 0 dX3_issuedOf_0 rfl rfl ?_
  refine f_get C hin3 1 2 rfl rfl (Nat.le_of_ble_eq_true rfl) (by decide +kernel) rfl rfl dX3_issuedOf_1 ?_
  refine f_iload_n C 1 dX3_issuedOf_4 rfl rfl ?_
  refine f_bipush C dX3_issuedOf_5 (by decide) ?_
  refine f_imul C dX3_issuedOf_7 ?_
  refine f_iload_n C 2 dX3_issuedOf_8 rfl rfl ?_
  refine f_iadd C dX3_issuedOf_9 ?_
  refine f_ok (fun hO1 => ?_)
  refine f_calll C (c_Row_get hX 2 (Nat.le_of_ble_eq_true rfl) ((p1 * 120) + p2) ⟨by omega, by omega⟩ st) (cwV 1 C.1.2.2.2.2 gX3_issuedOf_X5_get rfl rfl rfl (by decide +kernel) ⟨Nat.le_of_ble_eq_true rfl, Nat.le_of_ble_eq_true rfl⟩) 10 (wX_row cJ a st (r := 2) (Nat.le_of_ble_eq_true rfl)) rfl rfl rfl rfl (Nat.le_of_ble_eq_true rfl) ⟨Nat.zero_le _, Nat.zero_le _⟩ dX3_issuedOf_10 (fun z u hz2 hu => ?_)
  obtain ⟨qz2, hu⟩ : z = rget 480 (st.2 2) ((p1 * 120) + p2) ∧ u = st := hu
  replace hu := hu.symm; subst hu; subst qz2
  have k3 : (-10000000000000000) ≤ rget 480 (st.2 2) ((p1 * 120) + p2) ∧ rget 480 (st.2 2) ((p1 * 120) + p2) ≤ 10000000000000000 := xget_ok hO1 2 480 ((p1 * 120) + p2)
  exact f_lret C hret hlk dX3_issuedOf_13 ⟨by omega, by omega⟩ (hp _ (by rw [F_X3_issuedOf]) (by omega))
