/-! ===== PART 31: FeeRules, what its lines are (laid by program) ===== -/
def F_X8_isAskable (p1 : Int) (p2 : Int) (p3 : Int) (st : fS) : Int := if (F_X3_has p1 st) = 0 then 0 else (if (F_X8_isMonth p2 st) = 0 then 0 else (if (F_X8_isDay p3 st) = 0 then 0 else 1))
abbrev rm_X8_isAskable : Room := { frames := 1, cells := 0, slots := 0, locals := 21 }
set_option maxRecDepth 100000 in
set_option maxHeartbeats 8000000 in
theorem c_X8_isAskable {l : Launch} {D : va_G} {cI cJ cZ cB : ClassId} {a : Nat → Nat} {E : State → Prop} (hX : xHyp a E) (p1 : Int) (p2 : Int) (p3 : Int) (h1 : in32 p1) (h2 : in32 p2) (h3 : in64 p3) (st : fS)  : xMi l D cI cJ cZ cB a E yX8_isAskable wsX8_isAskable rm_X8_isAskable [.ref (a 0), .int (zI p1), .int (zI p2), .long (zJ p3)] st (fun z u => z = F_X8_isAskable p1 p2 p3 st ∧ u = st ∧ ((z = 1 ∧ ((0 ≤ p1 ∧ p1 < st.1 0 ∧ st.1 0 ≤ 4) ∧ (0 ≤ p2 ∧ p2 < 120) ∧ (0 ≤ p3 ∧ p3 < 3600))) ∨ (z = 0 ∧ ¬ ((0 ≤ p1 ∧ p1 < st.1 0 ∧ st.1 0 ≤ 4) ∧ (0 ≤ p2 ∧ p2 < 120) ∧ (0 ≤ p3 ∧ p3 < 3600))))) := by
  refine fB_open (cc := cX8_isAskable) (maxL := 5) (ret := (some .boolean)) (by decide) rfl (Nat.le_of_ble_eq_true rfl) hX.2 ?_
  intro p e s m below meth c C hret hlk
  have hin8 : ∀ w ∈ u_ws RX8 TX8 8, w ∈ wsX8_isAskable := by decide +kernel
  have hp : ∀ z : Int, z = F_X8_isAskable p1 p2 p3 st → ((z = 1 ∧ ((0 ≤ p1 ∧ p1 < st.1 0 ∧ st.1 0 ≤ 4) ∧ (0 ≤ p2 ∧ p2 < 120) ∧ (0 ≤ p3 ∧ p3 < 3600))) ∨ (z = 0 ∧ ¬ ((0 ≤ p1 ∧ p1 < st.1 0 ∧ st.1 0 ≤ 4) ∧ (0 ≤ p2 ∧ p2 < 120) ∧ (0 ≤ p3 ∧ p3 < 3600)))) → z = F_X8_isAskable p1 p2 p3 st ∧ st = st ∧ ((z = 1 ∧ ((0 ≤ p1 ∧ p1 < st.1 0 ∧ st.1 0 ≤ 4) ∧ (0 ≤ p2 ∧ p2 < 120) ∧ (0 ≤ p3 ∧ p3 < 3600))) ∨ (z = 0 ∧ ¬ ((0 ≤ p1 ∧ p1 < st.1 0 ∧ st.1 0 ≤ 4) ∧ (0 ≤ p2 ∧ p2 < 120) ∧ (0 ≤ p3 ∧ p3 < 3600)))) := fun z h r1 => ⟨h, rfl, r1⟩
  refine f_aload_n C 0 dX8_isAskable_0 rfl rfl ?_
  refine f_get C hin8 0 0 rfl rfl (Nat.le_of_ble_eq_true rfl) (by decide +kernel) rfl rfl dX8_isAskable_1 ?_
  refine f_iload_n C 1 dX8_isAskable_4 rfl rfl ?_
  refine f_calli C (c_X3_has hX p1 ⟨by omega, by omega⟩ st) (cwV 1 C.1.2.2.2.2 gX8_isAskable_X3_has rfl rfl rfl (by decide +kernel) ⟨Nat.le_of_ble_eq_true rfl, Nat.le_of_ble_eq_true rfl⟩) 1 rfl rfl rfl rfl rfl (Nat.le_of_ble_eq_true rfl) ⟨Nat.zero_le _, Nat.zero_le _⟩ dX8_isAskable_5 (fun z u hz1 hu => ?_)
  obtain ⟨qz1, hu, rz1⟩ := hu; replace hu := hu.symm; subst hu; subst qz1
  refine f_if_eq C 29 ⟨by omega, by omega⟩ dX8_isAskable_8 (by decide) (fun c2 => ?_) (fun c2 => ?_)
  · refine f_iconst C dX8_isAskable_29 ?_
    exact f_zret C hret hlk dX8_isAskable_30 (by decide) (hp _ (by rw [F_X8_isAskable, if_pos c2]) (by omega))
  refine f_iload_n C 2 dX8_isAskable_11 rfl rfl ?_
  refine f_callsi C (c_X8_isMonth hX p2 ⟨by omega, by omega⟩ st) (va_cwS 1 C.1.2.2.2.2 gX8_isAskable_X8_isMonth rfl rfl rfl (by decide +kernel) ⟨Nat.le_of_ble_eq_true rfl, Nat.le_of_ble_eq_true rfl⟩) rfl rfl (Nat.le_of_ble_eq_true rfl) ⟨Nat.zero_le _, Nat.zero_le _⟩ dX8_isAskable_12 (fun z u hz3 hu => ?_)
  obtain ⟨qz3, hu, rz3⟩ := hu; replace hu := hu.symm; subst hu; subst qz3
  refine f_if_eq C 29 ⟨by omega, by omega⟩ dX8_isAskable_15 (by decide) (fun c4 => ?_) (fun c4 => ?_)
  · refine f_iconst C dX8_isAskable_29 ?_
    exact f_zret C hret hlk dX8_isAskable_30 (by decide) (hp _ (by rw [F_X8_isAskable, if_neg c2, if_pos c4]) (by omega))
  refine f_lload_n C 3 dX8_isAskable_18 rfl rfl ?_
  refine f_callsi C (c_X8_isDay hX p3 ⟨by omega, by omega⟩ st) (va_cwS 1 C.1.2.2.2.2 gX8_isAskable_X8_isDay rfl rfl rfl (by decide +kernel) ⟨Nat.le_of_ble_eq_true rfl, Nat.le_of_ble_eq_true rfl⟩) rfl rfl (Nat.le_of_ble_eq_true rfl) ⟨Nat.zero_le _, Nat.zero_le _⟩ dX8_isAskable_19 (fun z u hz5 hu => ?_)
  obtain ⟨qz5, hu, rz5⟩ := hu; replace hu := hu.symm; subst hu; subst qz5
  refine f_if_eq C 29 ⟨by omega, by omega⟩ dX8_isAskable_22 (by decide) (fun c6 => ?_) (fun c6 => ?_)
  · refine f_iconst C dX8_isAskable_29 ?_
    exact f_zret C hret hlk dX8_isAskable_30 (by decide) (hp _ (by rw [F_X8_isAskable, if_neg c2, if_neg c4, if_pos c6]) (by omega))
  refine f_iconst C dX8_isAskable_25 ?_
  refine f_goto C 30 dX8_isAskable_26 (by decide) ?_
  exact f_zret C hret hlk dX8_isAskable_30 (by decide) (hp _ (by rw [F_X8_isAskable, if_neg c2, if_neg c4, if_neg c6]) (by omega))

def F_X8_isRelieved (p1 : Int) (st : fS) : Int := F_X4_relieve (F_X1_houseOf p1 st) (F_X1_kindOf p1 st) (F_X1_dayOf p1 st) st
abbrev rm_X8_isRelieved : Room := { frames := 2, cells := 0, slots := 0, locals := 46 }
set_option maxRecDepth 100000 in
set_option maxHeartbeats 8000000 in
theorem c_X8_isRelieved {l : Launch} {D : va_G} {cI cJ cZ cB : ClassId} {a : Nat → Nat} {E : State → Prop} (hX : xHyp a E) (p1 : Int) (h1 : in32 p1) (st : fS)  : xMi l D cI cJ cZ cB a E yX8_isRelieved wsX8_isRelieved rm_X8_isRelieved [.ref (a 0), .int (zI p1)] st (fun z u => z = F_X8_isRelieved p1 st ∧ u = st ∧ (z = 0 ∨ z = 1)) := by
  refine fB_open (cc := cX8_isRelieved) (maxL := 2) (ret := (some .boolean)) (by decide) rfl (Nat.le_of_ble_eq_true rfl) hX.2 ?_
  intro p e s m below meth c C hret hlk
  have hin8 : ∀ w ∈ u_ws RX8 TX8 8, w ∈ wsX8_isRelieved := by decide +kernel
  have hp : ∀ z : Int, z = F_X8_isRelieved p1 st → (z = 0 ∨ z = 1) → z = F_X8_isRelieved p1 st ∧ st = st ∧ (z = 0 ∨ z = 1) := fun z h r1 => ⟨h, rfl, r1⟩
  refine f_aload_n C 0 dX8_isRelieved_0 rfl rfl ?_
  refine f_get C hin8 0 5 rfl rfl (Nat.le_of_ble_eq_true rfl) (by decide +kernel) rfl rfl dX8_isRelieved_1 ?_
  refine f_aload_n C 0 dX8_isRelieved_4 rfl rfl ?_
  refine f_get C hin8 0 1 rfl rfl (Nat.le_of_ble_eq_true rfl) (by decide +kernel) rfl rfl dX8_isRelieved_5 ?_
  refine f_iload_n C 1 dX8_isRelieved_8 rfl rfl ?_
  refine f_calli C (c_X1_houseOf hX p1 ⟨by omega, by omega⟩ st) (cwV 1 C.1.2.2.2.2 gX8_isRelieved_X1_houseOf rfl rfl rfl (by decide +kernel) ⟨Nat.le_of_ble_eq_true rfl, Nat.le_of_ble_eq_true rfl⟩) 2 rfl rfl rfl rfl rfl (Nat.le_of_ble_eq_true rfl) ⟨Nat.zero_le _, Nat.zero_le _⟩ dX8_isRelieved_9 (fun z u hz1 hu => ?_)
  obtain ⟨qz1, hu, rz1⟩ := hu; replace hu := hu.symm; subst hu; subst qz1
  refine f_aload_n C 0 dX8_isRelieved_12 rfl rfl ?_
  refine f_get C hin8 0 1 rfl rfl (Nat.le_of_ble_eq_true rfl) (by decide +kernel) rfl rfl dX8_isRelieved_13 ?_
  refine f_iload_n C 1 dX8_isRelieved_16 rfl rfl ?_
  refine f_calli C (c_X1_kindOf hX p1 ⟨by omega, by omega⟩ st) (cwV 1 C.1.2.2.2.2 gX8_isRelieved_X1_kindOf rfl rfl rfl (by decide +kernel) ⟨Nat.le_of_ble_eq_true rfl, Nat.le_of_ble_eq_true rfl⟩) 2 rfl rfl rfl rfl rfl (Nat.le_of_ble_eq_true rfl) ⟨Nat.zero_le _, Nat.zero_le _⟩ dX8_isRelieved_17 (fun z u hz2 hu => ?_)
  obtain ⟨qz2, hu, rz2⟩ := hu; replace hu := hu.symm; subst hu; subst qz2
  refine f_aload_n C 0 dX8_isRelieved_20 rfl rfl ?_
  refine f_get C hin8 0 1 rfl rfl (Nat.le_of_ble_eq_true rfl) (by decide +kernel) rfl rfl dX8_isRelieved_21 ?_
  refine f_iload_n C 1 dX8_isRelieved_24 rfl rfl ?_
  refine f_calll C (c_X1_dayOf hX p1 ⟨by omega, by omega⟩ st) (cwV 1 C.1.2.2.2.2 gX8_isRelieved_X1_dayOf rfl rfl rfl (by decide +kernel) ⟨Nat.le_of_ble_eq_true rfl, Nat.le_of_ble_eq_true rfl⟩) 2 rfl rfl rfl rfl rfl (Nat.le_of_ble_eq_true rfl) ⟨Nat.zero_le _, Nat.zero_le _⟩ dX8_isRelieved_25 (fun z u hz3 hu => ?_)
  obtain ⟨qz3, hu, rz3⟩ := hu; replace hu := hu.symm; subst hu; subst qz3
  refine f_calli C (c_X4_relieve hX (F_X1_houseOf p1 st) (F_X1_kindOf p1 st) (F_X1_dayOf p1 st) ⟨by omega, by omega⟩ ⟨by omega, by omega⟩ ⟨by omega, by omega⟩ st) (cwV 3 C.1.2.2.2.2 gX8_isRelieved_X4_relieve rfl rfl rfl (by decide +kernel) ⟨Nat.le_of_ble_eq_true rfl, Nat.le_of_ble_eq_true rfl⟩) 6 rfl rfl rfl rfl rfl (Nat.le_of_ble_eq_true rfl) ⟨Nat.zero_le _, Nat.zero_le _⟩ dX8_isRelieved_28 (fun z u hz4 hu => ?_)
  obtain ⟨qz4, hu, rz4⟩ := hu; replace hu := hu.symm; subst hu; subst qz4
  exact f_zret C hret hlk dX8_isRelieved_31 (by omega) (hp _ (by rw [F_X8_isRelieved]) (by omega))

def F_X8_editionOf (p1 : Int) (p2 : Int) (st : fS) : Int := if (F_X8_isRelieved p1 st) = 0 then F_X0_latest (F_X1_dayOf p1 st) p2 st else (-1)
abbrev rm_X8_editionOf : Room := { frames := 3, cells := 0, slots := 0, locals := 67 }
set_option maxRecDepth 100000 in
set_option maxHeartbeats 8000000 in
theorem c_X8_editionOf {l : Launch} {D : va_G} {cI cJ cZ cB : ClassId} {a : Nat → Nat} {E : State → Prop} (hX : xHyp a E) (p1 : Int) (p2 : Int) (h1 : in32 p1) (h2 : in64 p2) (st : fS)  : xMi l D cI cJ cZ cB a E yX8_editionOf wsX8_editionOf rm_X8_editionOf [.ref (a 0), .int (zI p1), .long (zJ p2)] st (fun z u => z = F_X8_editionOf p1 p2 st ∧ u = st ∧ ((-1) ≤ z ∧ z ≤ 5)) := by
  refine fB_open (cc := cX8_editionOf) (maxL := 4) (ret := (some .int)) (by decide) rfl (Nat.le_of_ble_eq_true rfl) hX.2 ?_
  intro p e s m below meth c C hret hlk
  have hin8 : ∀ w ∈ u_ws RX8 TX8 8, w ∈ wsX8_editionOf := by decide +kernel
  have hp : ∀ z : Int, z = F_X8_editionOf p1 p2 st → ((-1) ≤ z ∧ z ≤ 5) → z = F_X8_editionOf p1 p2 st ∧ st = st ∧ ((-1) ≤ z ∧ z ≤ 5) := fun z h r1 => ⟨h, rfl, r1⟩
  refine f_aload_n C 0 dX8_editionOf_0 rfl rfl ?_
  refine f_iload_n C 1 dX8_editionOf_1 rfl rfl ?_
  refine f_calli C (c_X8_isRelieved hX p1 ⟨by omega, by omega⟩ st) (cwV 1 C.1.2.2.2.2 gX8_editionOf_X8_isRelieved rfl rfl rfl (by decide +kernel) ⟨Nat.le_of_ble_eq_true rfl, Nat.le_of_ble_eq_true rfl⟩) 0 rfl rfl rfl rfl rfl (Nat.le_of_ble_eq_true rfl) ⟨Nat.zero_le _, Nat.zero_le _⟩ dX8_editionOf_2 (fun z u hz1 hu => ?_)
  obtain ⟨qz1, hu, rz1⟩ := hu; replace hu := hu.symm; subst hu; subst qz1
  refine f_if_eq C 10 ⟨by omega, by omega⟩ dX8_editionOf_5 (by decide) (fun c2 => ?_) (fun c2 => ?_)
  · refine f_aload_n C 0 dX8_editionOf_10 rfl rfl ?_
    refine f_get C hin8 0 3 rfl rfl (Nat.le_of_ble_eq_true rfl) (by decide +kernel) rfl rfl dX8_editionOf_11 ?_
    refine f_aload_n C 0 dX8_editionOf_14 rfl rfl ?_
    refine f_get C hin8 0 1 rfl rfl (Nat.le_of_ble_eq_true rfl) (by decide +kernel) rfl rfl dX8_editionOf_15 ?_
    refine f_iload_n C 1 dX8_editionOf_18 rfl rfl ?_
    refine f_calll C (c_X1_dayOf hX p1 ⟨by omega, by omega⟩ st) (cwV 1 C.1.2.2.2.2 gX8_editionOf_X1_dayOf rfl rfl rfl (by decide +kernel) ⟨Nat.le_of_ble_eq_true rfl, Nat.le_of_ble_eq_true rfl⟩) 2 rfl rfl rfl rfl rfl (Nat.le_of_ble_eq_true rfl) ⟨Nat.zero_le _, Nat.zero_le _⟩ dX8_editionOf_19 (fun z u hz3 hu => ?_)
    obtain ⟨qz3, hu, rz3⟩ := hu; replace hu := hu.symm; subst hu; subst qz3
    refine f_lload_n C 2 dX8_editionOf_22 rfl rfl ?_
    refine f_calli C (c_X0_latest hX (F_X1_dayOf p1 st) p2 ⟨by omega, by omega⟩ ⟨by omega, by omega⟩ st) (cwV 2 C.1.2.2.2.2 gX8_editionOf_X0_latest rfl rfl rfl (by decide +kernel) ⟨Nat.le_of_ble_eq_true rfl, Nat.le_of_ble_eq_true rfl⟩) 4 rfl rfl rfl rfl rfl (Nat.le_of_ble_eq_true rfl) ⟨Nat.zero_le _, Nat.zero_le _⟩ dX8_editionOf_23 (fun z u hz4 hu => ?_)
    obtain ⟨qz4, hu, rz4⟩ := hu; replace hu := hu.symm; subst hu; subst qz4
    exact f_iret C hret hlk dX8_editionOf_26 ⟨by omega, by omega⟩ (hp _ (by rw [F_X8_editionOf, if_pos c2]) (by omega))
  refine f_iconst C dX8_editionOf_8 ?_
  exact f_iret C hret hlk dX8_editionOf_9 ⟨by decide, by decide⟩ (hp _ (by rw [F_X8_editionOf, if_neg c2]) (by omega))

def F_X8_centsOf (p1 : Int) (p2 : Int) (st : fS) : Int := if (F_X8_isRelieved p1 st) = 0 then F_X0_feeOf p2 (F_X1_kindOf p1 st) (F_X1_measureOf p1 st) st else 0
abbrev rm_X8_centsOf : Room := { frames := 3, cells := 0, slots := 0, locals := 89 }
set_option maxRecDepth 100000 in
set_option maxHeartbeats 8000000 in
theorem c_X8_centsOf {l : Launch} {D : va_G} {cI cJ cZ cB : ClassId} {a : Nat → Nat} {E : State → Prop} (hX : xHyp a E) (p1 : Int) (p2 : Int) (h1 : in32 p1) (h2 : in32 p2) (st : fS) (q2 : (-1) ≤ p2 ∧ p2 ≤ 5) (hI : xSteps st) : xMl l D cI cJ cZ cB a E yX8_centsOf wsX8_centsOf rm_X8_centsOf [.ref (a 0), .int (zI p1), .int (zI p2)] st (fun z u => z = F_X8_centsOf p1 p2 st ∧ u = st ∧ ((-1) ≤ z ∧ z ≤ 999999000000)) := by
  refine fB_open (cc := cX8_centsOf) (maxL := 3) (ret := (some .long)) (by decide) rfl (Nat.le_of_ble_eq_true rfl) hX.2 ?_
  intro p e s m below meth c C hret hlk
  have hin8 : ∀ w ∈ u_ws RX8 TX8 8, w ∈ wsX8_centsOf := by decide +kernel
  have hp : ∀ z : Int, z = F_X8_centsOf p1 p2 st → ((-1) ≤ z ∧ z ≤ 999999000000) → z = F_X8_centsOf p1 p2 st ∧ st = st ∧ ((-1) ≤ z ∧ z ≤ 999999000000) := fun z h r1 => ⟨h, rfl, r1⟩
  refine f_aload_n C 0 dX8_centsOf_0 rfl rfl ?_
  refine f_iload_n C 1 dX8_centsOf_1 rfl rfl ?_
  refine f_calli C (c_X8_isRelieved hX p1 ⟨by omega, by omega⟩ st) (cwV 1 C.1.2.2.2.2 gX8_centsOf_X8_isRelieved rfl rfl rfl (by decide +kernel) ⟨Nat.le_of_ble_eq_true rfl, Nat.le_of_ble_eq_true rfl⟩) 0 rfl rfl rfl rfl rfl (Nat.le_of_ble_eq_true rfl) ⟨Nat.zero_le _, Nat.zero_le _⟩ dX8_centsOf_2 (fun z u hz1 hu => ?_)
  obtain ⟨qz1, hu, rz1⟩ := hu; replace hu := hu.symm; subst hu; subst qz1
  refine f_if_eq C 10 ⟨by omega, by omega⟩ dX8_centsOf_5 (by decide) (fun c2 => ?_) (fun c2 => ?_)
  · refine f_aload_n C 0 dX8_centsOf_10 rfl rfl ?_
    refine f_get C hin8 0 3 rfl rfl (Nat.le_of_ble_eq_true rfl) (by decide +kernel) rfl rfl dX8_centsOf_11 ?_
    refine f_iload_n C 2 dX8_centsOf_14 rfl rfl ?_
    refine f_aload_n C 0 dX8_centsOf_15 rfl rfl ?_
    refine f_get C hin8 0 1 rfl rfl (Nat.le_of_ble_eq_true rfl) (by decide +kernel) rfl rfl dX8_centsOf_16 ?_
    refine f_iload_n C 1 dX8_centsOf_19 rfl rfl ?_
    refine f_calli C (c_X1_kindOf hX p1 ⟨by omega, by omega⟩ st) (cwV 1 C.1.2.2.2.2 gX8_centsOf_X1_kindOf rfl rfl rfl (by decide +kernel) ⟨Nat.le_of_ble_eq_true rfl, Nat.le_of_ble_eq_true rfl⟩) 2 rfl rfl rfl rfl rfl (Nat.le_of_ble_eq_true rfl) ⟨Nat.zero_le _, Nat.zero_le _⟩ dX8_centsOf_20 (fun z u hz3 hu => ?_)
    obtain ⟨qz3, hu, rz3⟩ := hu; replace hu := hu.symm; subst hu; subst qz3
    refine f_aload_n C 0 dX8_centsOf_23 rfl rfl ?_
    refine f_get C hin8 0 1 rfl rfl (Nat.le_of_ble_eq_true rfl) (by decide +kernel) rfl rfl dX8_centsOf_24 ?_
    refine f_iload_n C 1 dX8_centsOf_27 rfl rfl ?_
    refine f_calll C (c_X1_measureOf hX p1 ⟨by omega, by omega⟩ st) (cwV 1 C.1.2.2.2.2 gX8_centsOf_X1_measureOf rfl rfl rfl (by decide +kernel) ⟨Nat.le_of_ble_eq_true rfl, Nat.le_of_ble_eq_true rfl⟩) 2 rfl rfl rfl rfl rfl (Nat.le_of_ble_eq_true rfl) ⟨Nat.zero_le _, Nat.zero_le _⟩ dX8_centsOf_28 (fun z u hz4 hu => ?_)
    obtain ⟨qz4, hu, rz4⟩ := hu; replace hu := hu.symm; subst hu; subst qz4
    refine f_calll C (c_X0_feeOf hX p2 (F_X1_kindOf p1 st) (F_X1_measureOf p1 st) ⟨by omega, by omega⟩ ⟨by omega, by omega⟩ ⟨by omega, by omega⟩ st (show (-1000000) ≤ p2 ∧ p2 ≤ 1000000 by omega) (show 0 ≤ (F_X1_kindOf p1 st) ∧ (F_X1_kindOf p1 st) ≤ 5 by omega) (show 0 ≤ (F_X1_measureOf p1 st) ∧ (F_X1_measureOf p1 st) ≤ 1000000 by omega) hI) (cwV 3 C.1.2.2.2.2 gX8_centsOf_X0_feeOf rfl rfl rfl (by decide +kernel) ⟨Nat.le_of_ble_eq_true rfl, Nat.le_of_ble_eq_true rfl⟩) 4 rfl rfl rfl rfl rfl (Nat.le_of_ble_eq_true rfl) ⟨Nat.zero_le _, Nat.zero_le _⟩ dX8_centsOf_31 (fun z u hz5 hu => ?_)
    obtain ⟨qz5, hu, rz5⟩ := hu; replace hu := hu.symm; subst hu; subst qz5
    exact f_lret C hret hlk dX8_centsOf_34 ⟨by omega, by omega⟩ (hp _ (by rw [F_X8_centsOf, if_pos c2]) (by omega))
  refine f_lconst C (z := 0) dX8_centsOf_8 rfl ?_
  exact f_lret C hret hlk dX8_centsOf_9 ⟨by decide, by decide⟩ (hp _ (by rw [F_X8_centsOf, if_neg c2]) (by omega))

def F_X8_lackOf (p1 : Int) (p2 : Int) (p3 : Int) (st : fS) : Int := if p3 = (-1) then (if (F_X0_hasRule p2 (F_X1_kindOf p1 st) st) = 0 then 1 else 2) else 0
abbrev rm_X8_lackOf : Room := { frames := 2, cells := 0, slots := 0, locals := 43 }
set_option maxRecDepth 100000 in
set_option maxHeartbeats 8000000 in
theorem c_X8_lackOf {l : Launch} {D : va_G} {cI cJ cZ cB : ClassId} {a : Nat → Nat} {E : State → Prop} (hX : xHyp a E) (p1 : Int) (p2 : Int) (p3 : Int) (h1 : in32 p1) (h2 : in32 p2) (h3 : in64 p3) (st : fS) (q2 : (-1) ≤ p2 ∧ p2 ≤ 5) : xMi l D cI cJ cZ cB a E yX8_lackOf wsX8_lackOf rm_X8_lackOf [.ref (a 0), .int (zI p1), .int (zI p2), .long (zJ p3)] st (fun z u => z = F_X8_lackOf p1 p2 p3 st ∧ u = st ∧ (0 ≤ z ∧ z ≤ 2)) := by
  refine fB_open (cc := cX8_lackOf) (maxL := 5) (ret := (some .int)) (by decide) rfl (Nat.le_of_ble_eq_true rfl) hX.2 ?_
  intro p e s m below meth c C hret hlk
  have hin8 : ∀ w ∈ u_ws RX8 TX8 8, w ∈ wsX8_lackOf := by decide +kernel
  have hp : ∀ z : Int, z = F_X8_lackOf p1 p2 p3 st → (0 ≤ z ∧ z ≤ 2) → z = F_X8_lackOf p1 p2 p3 st ∧ st = st ∧ (0 ≤ z ∧ z ≤ 2) := fun z h r1 => ⟨h, rfl, r1⟩
  refine f_lload_n C 3 dX8_lackOf_0 rfl rfl ?_
  refine f_ldc2 C (v := (-1)) (z := (-1)) (by decide +kernel) (by decide) dX8_lackOf_1 ?_
  refine f_lc_if_eq C 10 ⟨by omega, by omega⟩ ⟨by decide, by decide⟩ dX8_lackOf_4 dX8_lackOf_5 (by decide) (fun c1 => ?_) (fun c1 => ?_)
  · refine f_aload_n C 0 dX8_lackOf_10 rfl rfl ?_
    refine f_get C hin8 0 3 rfl rfl (Nat.le_of_ble_eq_true rfl) (by decide +kernel) rfl rfl dX8_lackOf_11 ?_
    refine f_iload_n C 2 dX8_lackOf_14 rfl rfl ?_
    refine f_aload_n C 0 dX8_lackOf_15 rfl rfl ?_
    refine f_get C hin8 0 1 rfl rfl (Nat.le_of_ble_eq_true rfl) (by decide +kernel) rfl rfl dX8_lackOf_16 ?_
    refine f_iload_n C 1 dX8_lackOf_19 rfl rfl ?_
    refine f_calli C (c_X1_kindOf hX p1 ⟨by omega, by omega⟩ st) (cwV 1 C.1.2.2.2.2 gX8_lackOf_X1_kindOf rfl rfl rfl (by decide +kernel) ⟨Nat.le_of_ble_eq_true rfl, Nat.le_of_ble_eq_true rfl⟩) 2 rfl rfl rfl rfl rfl (Nat.le_of_ble_eq_true rfl) ⟨Nat.zero_le _, Nat.zero_le _⟩ dX8_lackOf_20 (fun z u hz2 hu => ?_)
    obtain ⟨qz2, hu, rz2⟩ := hu; replace hu := hu.symm; subst hu; subst qz2
    refine f_calli C (c_X0_hasRule hX p2 (F_X1_kindOf p1 st) ⟨by omega, by omega⟩ ⟨by omega, by omega⟩ st (show (-1000000) ≤ p2 ∧ p2 ≤ 1000000 by omega) (show (-1000000) ≤ (F_X1_kindOf p1 st) ∧ (F_X1_kindOf p1 st) ≤ 1000000 by omega)) (cwV 2 C.1.2.2.2.2 gX8_lackOf_X0_hasRule rfl rfl rfl (by decide +kernel) ⟨Nat.le_of_ble_eq_true rfl, Nat.le_of_ble_eq_true rfl⟩) 4 rfl rfl rfl rfl rfl (Nat.le_of_ble_eq_true rfl) ⟨Nat.zero_le _, Nat.zero_le _⟩ dX8_lackOf_23 (fun z u hz3 hu => ?_)
    obtain ⟨qz3, hu, rz3⟩ := hu; replace hu := hu.symm; subst hu; subst qz3
    refine f_if_eq C 33 ⟨by omega, by omega⟩ dX8_lackOf_26 (by decide) (fun c4 => ?_) (fun c4 => ?_)
    · refine f_iconst C dX8_lackOf_33 ?_
      exact f_iret C hret hlk dX8_lackOf_34 ⟨by decide, by decide⟩ (hp _ (by rw [F_X8_lackOf, if_pos c1, if_pos c4]) (by omega))
    refine f_iconst C dX8_lackOf_29 ?_
    refine f_goto C 34 dX8_lackOf_30 (by decide) ?_
    exact f_iret C hret hlk dX8_lackOf_34 ⟨by decide, by decide⟩ (hp _ (by rw [F_X8_lackOf, if_pos c1, if_neg c4]) (by omega))
  refine f_iconst C dX8_lackOf_8 ?_
  exact f_iret C hret hlk dX8_lackOf_9 ⟨by decide, by decide⟩ (hp _ (by rw [F_X8_lackOf, if_neg c1]) (by omega))

def F_X8_billOf_20 (v1 v2 v3 : Int) : Nat → Int → Int → fS → Int
  | 0, _, _, _ => 0
  | n + 1, v5, v7, st => if (F_X1_count st) ≤ v7 then (if (rget 120 (st.2 23) v2) = (-1) then v5 else (if v5 ≤ (rget 120 (st.2 23) v2) then v5 else rget 120 (st.2 23) v2)) else (if (F_X1_isOf v7 v1 v2 v3 st) = 0 then F_X8_billOf_20 v1 v2 v3 (n) v5 (v7 + 1) st else (if (F_X8_centsOf v7 (F_X8_editionOf v7 v3 st) st) = (-1) then (-9223372036854775808) else F_X8_billOf_20 v1 v2 v3 (n) (v5 + (F_X8_centsOf v7 (F_X8_editionOf v7 v3 st) st)) (v7 + 1) st))

def F_X8_billOf (p1 : Int) (p2 : Int) (p3 : Int) (st : fS) : Int := if (F_X8_isAskable p1 p2 p3 st) = 0 then (-9223372036854775808) else F_X8_billOf_20 p1 p2 p3 (Int.toNat ((st.1 1) - (0 : Int)) + 1) 0 0 st
abbrev rm_X8_billOf : Room := { frames := 4, cells := 0, slots := 0, locals := 111 }
set_option maxRecDepth 100000 in
set_option maxHeartbeats 8000000 in
theorem v_X8_billOf_20 {l : Launch} {D : va_G} {cI cJ cZ cB : ClassId} {a : Nat → Nat} {E : State → Prop} (hX : xHyp a E) (v1 v2 v3 : Int) (hv1 : in32 v1) (hv2 : in32 v2) (hv3 : in64 v3) {p : Program} {e : Env} {s : State} {m : MethodId} {args : Array Value} {below : List Frame} {meth : Method} {c : Code} (C : fC p m c cX8_billOf 10 s args wsX8_billOf yX8_billOf.cls D (fTys cI cJ cZ cB) E (xA a)) (hret : meth.sig.returnType = (some .long)) (hlk : meth.locks = false) {post : Int → fS → Prop} : ∀ (n : Nat) (v5 v7 : Int) (st : fS), in64 v5 → in32 v7 → (0 ≤ v7 ∧ v7 ≤ st.1 1) → (0 ≤ st.1 1 ∧ st.1 1 ≤ 24) → (0 ≤ v5 ∧ v5 ≤ 999999000000 * v7) → (xSteps st) → ((0 ≤ v1 ∧ v1 ≤ 3) ∧ (0 ≤ v2 ∧ v2 ≤ 119)) → st.1 1 - v7 < n → (∀ z : Int, z = F_X8_billOf_20 v1 v2 v3 n v5 v7 st → (z = -9223372036854775808 ∨ ((0 ≤ z ∧ z ≤ 23999976000000) ∧ (0 ≤ v1 ∧ v1 ≤ 3) ∧ (0 ≤ v2 ∧ v2 ≤ 119))) → post z st) → fV D (wX cJ a) xOk (xA a) 10 p l e rm_X8_billOf s m args below meth c 0 0 (fMQ below (fQl D (wX cJ a) xOk (xA a) post) args s (xA a)) st 20 [(0, .ref (a 0)), (1, .int (zI v1)), (2, .int (zI v2)), (3, .long (zJ v3)), (5, .long (zJ v5)), (7, .int (zI v7))] [] := by
  have hin8 : ∀ w ∈ u_ws RX8 TX8 8, w ∈ wsX8_billOf := by decide +kernel
  intro n
  induction n with
  | zero =>
    intro v5 v7 st hv5 hv7 i0 i1 i2 i3 i4 hm hp
    omega
  | succ n ih =>
    intro v5 v7 st hv5 hv7 i0 i1 i2 i3 i4 hm hp
    have hI := i3
    refine f_iload C 7 dX8_billOf_20 rfl ?_
    refine f_aload_n C 0 dX8_billOf_22 rfl rfl ?_
    refine f_get C hin8 0 1 rfl rfl (Nat.le_of_ble_eq_true rfl) (by decide +kernel) rfl rfl dX8_billOf_23 ?_
    refine f_calli C (c_X1_count hX st) (cwV 0 C.1.2.2.2.2 gX8_billOf_X1_count rfl rfl rfl (by decide +kernel) ⟨Nat.le_of_ble_eq_true rfl, Nat.le_of_ble_eq_true rfl⟩) 2 rfl rfl rfl rfl rfl (Nat.le_of_ble_eq_true rfl) ⟨Nat.zero_le _, Nat.zero_le _⟩ dX8_billOf_26 (fun z u hz1 hu => ?_)
    obtain ⟨qz1, hu, rz1⟩ := hu; replace hu := hu.symm; subst hu; subst qz1
    refine f_icmp_ge C 88 ⟨by omega, by omega⟩ ⟨by omega, by omega⟩ dX8_billOf_29 (by decide) (fun c2 => ?_) (fun c2 => ?_)
    · refine f_aload_n C 0 dX8_billOf_88 rfl rfl ?_
      refine f_get C hin8 0 6 rfl rfl (Nat.le_of_ble_eq_true rfl) (by decide +kernel) rfl rfl dX8_billOf_89 ?_
      refine f_iload_n C 2 dX8_billOf_92 rfl rfl ?_
      refine f_ok (fun hO3 => ?_)
      refine f_calll C (c_Row_get hX 23 (Nat.le_of_ble_eq_true rfl) v2 ⟨by omega, by omega⟩ st) (cwV 1 C.1.2.2.2.2 gX8_billOf_X5_get rfl rfl rfl (by decide +kernel) ⟨Nat.le_of_ble_eq_true rfl, Nat.le_of_ble_eq_true rfl⟩) 31 (wX_row cJ a st (r := 23) (Nat.le_of_ble_eq_true rfl)) rfl rfl rfl rfl (Nat.le_of_ble_eq_true rfl) ⟨Nat.zero_le _, Nat.zero_le _⟩ dX8_billOf_93 (fun z u hz4 hu => ?_)
      obtain ⟨qz4, hu⟩ : z = rget 120 (st.2 23) v2 ∧ u = st := hu
      replace hu := hu.symm; subst hu; subst qz4
      have k5 : (-1) ≤ rget 120 (st.2 23) v2 ∧ rget 120 (st.2 23) v2 ≤ 1000000000000 := xget_ok hO3 23 120 v2
      refine f_lstore C (lv' := [(7, .long (zJ (rget 120 (st.2 23) v2))), (0, .ref (a 0)), (1, .int (zI v1)), (2, .int (zI v2)), (3, .long (zJ v3)), (5, .long (zJ v5))]) dX8_billOf_96 (Nat.le_of_ble_eq_true rfl) rfl ?_
      refine f_lload C 7 dX8_billOf_98 rfl ?_
      refine f_ldc2 C (v := (-1)) (z := (-1)) (by decide +kernel) (by decide) dX8_billOf_100 ?_
      refine f_lc_if_eq C 120 ⟨by omega, by omega⟩ ⟨by decide, by decide⟩ dX8_billOf_103 dX8_billOf_104 (by decide) (fun c6 => ?_) (fun c6 => ?_)
      · refine f_lload C 5 dX8_billOf_120 rfl ?_
        exact f_lret C hret hlk dX8_billOf_122 ⟨by omega, by omega⟩ (hp _ (by rw [F_X8_billOf_20, if_pos c2, if_pos c6]) (by omega))
      refine f_lload C 5 dX8_billOf_107 rfl ?_
      refine f_lload C 7 dX8_billOf_109 rfl ?_
      refine f_lc_if_le C 120 ⟨by omega, by omega⟩ ⟨by omega, by omega⟩ dX8_billOf_111 dX8_billOf_112 (by decide) (fun c7 => ?_) (fun c7 => ?_)
      · refine f_lload C 5 dX8_billOf_120 rfl ?_
        exact f_lret C hret hlk dX8_billOf_122 ⟨by omega, by omega⟩ (hp _ (by rw [F_X8_billOf_20, if_pos c2, if_neg c6, if_pos c7]) (by omega))
      refine f_lload C 7 dX8_billOf_115 rfl ?_
      refine f_goto C 122 dX8_billOf_117 (by decide) ?_
      exact f_lret C hret hlk dX8_billOf_122 ⟨by omega, by omega⟩ (hp _ (by rw [F_X8_billOf_20, if_pos c2, if_neg c6, if_neg c7]) (by omega))
    refine f_aload_n C 0 dX8_billOf_32 rfl rfl ?_
    refine f_get C hin8 0 1 rfl rfl (Nat.le_of_ble_eq_true rfl) (by decide +kernel) rfl rfl dX8_billOf_33 ?_
    refine f_iload C 7 dX8_billOf_36 rfl ?_
    refine f_iload_n C 1 dX8_billOf_38 rfl rfl ?_
    refine f_iload_n C 2 dX8_billOf_39 rfl rfl ?_
    refine f_lload_n C 3 dX8_billOf_40 rfl rfl ?_
    refine f_calli C (c_X1_isOf hX v7 v1 v2 v3 ⟨by omega, by omega⟩ ⟨by omega, by omega⟩ ⟨by omega, by omega⟩ ⟨by omega, by omega⟩ st) (cwV 4 C.1.2.2.2.2 gX8_billOf_X1_isOf rfl rfl rfl (by decide +kernel) ⟨Nat.le_of_ble_eq_true rfl, Nat.le_of_ble_eq_true rfl⟩) 2 rfl rfl rfl rfl rfl (Nat.le_of_ble_eq_true rfl) ⟨Nat.zero_le _, Nat.zero_le _⟩ dX8_billOf_41 (fun z u hz8 hu => ?_)
    obtain ⟨qz8, hu, rz8⟩ := hu; replace hu := hu.symm; subst hu; subst qz8
    refine f_if_eq C 82 ⟨by omega, by omega⟩ dX8_billOf_44 (by decide) (fun c9 => ?_) (fun c9 => ?_)
    · refine f_iinc C (lv' := [(7, .int (zI (v7 + 1))), (0, .ref (a 0)), (1, .int (zI v1)), (2, .int (zI v2)), (3, .long (zJ v3)), (5, .long (zJ v5))]) 5 dX8_billOf_82 rfl (Nat.le_of_ble_eq_true rfl) rfl ?_
      refine f_goto C 20 dX8_billOf_85 (by decide) ?_
      refine f_re (lv' := [(0, .ref (a 0)), (1, .int (zI v1)), (2, .int (zI v2)), (3, .long (zJ v3)), (5, .long (zJ v5)), (7, .int (zI (v7 + 1)))]) [1, 2, 3, 4, 5, 0] rfl ?_
      refine f_ok (fun hO10 => ?_)
      have k11 : 0 ≤ st.1 1 ∧ st.1 1 ≤ 24 := hO10.1 1
      exact ih v5 (v7 + 1) st ⟨by omega, by omega⟩ ⟨by omega, by omega⟩ (show 0 ≤ (v7 + 1) ∧ (v7 + 1) ≤ (st.1 1) by omega) (show 0 ≤ (st.1 1) ∧ (st.1 1) ≤ 24 by omega) (show 0 ≤ v5 ∧ v5 ≤ 999999000000 * (v7 + 1) by omega) hI (show (0 ≤ v1 ∧ v1 ≤ 3) ∧ (0 ≤ v2 ∧ v2 ≤ 119) by omega) (show (st.1 1) - (v7 + 1) < ((n : Nat) : Int) by omega) (fun z e1 r1 => hp z (by rw [F_X8_billOf_20, if_neg c2, if_pos c9]; exact e1) r1)
    refine f_aload_n C 0 dX8_billOf_47 rfl rfl ?_
    refine f_iload C 7 dX8_billOf_48 rfl ?_
    refine f_aload_n C 0 dX8_billOf_50 rfl rfl ?_
    refine f_iload C 7 dX8_billOf_51 rfl ?_
    refine f_lload_n C 3 dX8_billOf_53 rfl rfl ?_
    refine f_calli C (c_X8_editionOf hX v7 v3 ⟨by omega, by omega⟩ ⟨by omega, by omega⟩ st) (cwV 2 C.1.2.2.2.2 gX8_billOf_X8_editionOf rfl rfl rfl (by decide +kernel) ⟨Nat.le_of_ble_eq_true rfl, Nat.le_of_ble_eq_true rfl⟩) 0 rfl rfl rfl rfl rfl (Nat.le_of_ble_eq_true rfl) ⟨Nat.zero_le _, Nat.zero_le _⟩ dX8_billOf_54 (fun z u hz12 hu => ?_)
    obtain ⟨qz12, hu, rz12⟩ := hu; replace hu := hu.symm; subst hu; subst qz12
    refine f_calll C (c_X8_centsOf hX v7 (F_X8_editionOf v7 v3 st) ⟨by omega, by omega⟩ ⟨by omega, by omega⟩ st (show (-1) ≤ (F_X8_editionOf v7 v3 st) ∧ (F_X8_editionOf v7 v3 st) ≤ 5 by omega) hI) (cwV 2 C.1.2.2.2.2 gX8_billOf_X8_centsOf rfl rfl rfl (by decide +kernel) ⟨Nat.le_of_ble_eq_true rfl, Nat.le_of_ble_eq_true rfl⟩) 0 rfl rfl rfl rfl rfl (Nat.le_of_ble_eq_true rfl) ⟨Nat.zero_le _, Nat.zero_le _⟩ dX8_billOf_57 (fun z u hz13 hu => ?_)
    obtain ⟨qz13, hu, rz13⟩ := hu; replace hu := hu.symm; subst hu; subst qz13
    refine f_lstore C (lv' := [(8, .long (zJ (F_X8_centsOf v7 (F_X8_editionOf v7 v3 st) st))), (0, .ref (a 0)), (1, .int (zI v1)), (2, .int (zI v2)), (3, .long (zJ v3)), (5, .long (zJ v5)), (7, .int (zI v7))]) dX8_billOf_60 (Nat.le_of_ble_eq_true rfl) rfl ?_
    refine f_lload C 8 dX8_billOf_62 rfl ?_
    refine f_ldc2 C (v := (-1)) (z := (-1)) (by decide +kernel) (by decide) dX8_billOf_64 ?_
    refine f_lc_if_ne C 75 ⟨by omega, by omega⟩ ⟨by decide, by decide⟩ dX8_billOf_67 dX8_billOf_68 (by decide) (fun c14 => ?_) (fun c14 => ?_)
    · refine f_lload C 5 dX8_billOf_75 rfl ?_
      refine f_lload C 8 dX8_billOf_77 rfl ?_
      refine f_ladd C dX8_billOf_79 ?_
      refine f_lstore C (lv' := [(5, .long (zJ (v5 + (F_X8_centsOf v7 (F_X8_editionOf v7 v3 st) st)))), (8, .long (zJ (F_X8_centsOf v7 (F_X8_editionOf v7 v3 st) st))), (0, .ref (a 0)), (1, .int (zI v1)), (2, .int (zI v2)), (3, .long (zJ v3)), (7, .int (zI v7))]) dX8_billOf_80 (Nat.le_of_ble_eq_true rfl) rfl ?_
      refine f_iinc C (lv' := [(7, .int (zI (v7 + 1))), (5, .long (zJ (v5 + (F_X8_centsOf v7 (F_X8_editionOf v7 v3 st) st)))), (8, .long (zJ (F_X8_centsOf v7 (F_X8_editionOf v7 v3 st) st))), (0, .ref (a 0)), (1, .int (zI v1)), (2, .int (zI v2)), (3, .long (zJ v3))]) 6 dX8_billOf_82 rfl (Nat.le_of_ble_eq_true rfl) rfl ?_
      refine f_goto C 20 dX8_billOf_85 (by decide) ?_
      refine f_re (lv' := [(0, .ref (a 0)), (1, .int (zI v1)), (2, .int (zI v2)), (3, .long (zJ v3)), (5, .long (zJ (v5 + (F_X8_centsOf v7 (F_X8_editionOf v7 v3 st) st)))), (7, .int (zI (v7 + 1)))]) [3, 4, 5, 6, 1, 0] rfl ?_
      refine f_ok (fun hO15 => ?_)
      have k16 : 0 ≤ st.1 1 ∧ st.1 1 ≤ 24 := hO15.1 1
      exact ih (v5 + (F_X8_centsOf v7 (F_X8_editionOf v7 v3 st) st)) (v7 + 1) st ⟨by omega, by omega⟩ ⟨by omega, by omega⟩ (show 0 ≤ (v7 + 1) ∧ (v7 + 1) ≤ (st.1 1) by omega) (show 0 ≤ (st.1 1) ∧ (st.1 1) ≤ 24 by omega) (show 0 ≤ (v5 + (F_X8_centsOf v7 (F_X8_editionOf v7 v3 st) st)) ∧ (v5 + (F_X8_centsOf v7 (F_X8_editionOf v7 v3 st) st)) ≤ 999999000000 * (v7 + 1) by omega) hI (show (0 ≤ v1 ∧ v1 ≤ 3) ∧ (0 ≤ v2 ∧ v2 ≤ 119) by omega) (show (st.1 1) - (v7 + 1) < ((n : Nat) : Int) by omega) (fun z e1 r1 => hp z (by rw [F_X8_billOf_20, if_neg c2, if_neg c9, if_neg c14]; exact e1) r1)
    refine f_ldc2 C (v := (-9223372036854775808)) (z := (-9223372036854775808)) (by decide +kernel) (by decide) dX8_billOf_71 ?_
    exact f_lret C hret hlk dX8_billOf_74 ⟨by decide, by decide⟩ (hp _ (by rw [F_X8_billOf_20, if_neg c2, if_neg c9, if_pos c14]) (by omega))
set_option maxRecDepth 100000 in
set_option maxHeartbeats 8000000 in
theorem c_X8_billOf {l : Launch} {D : va_G} {cI cJ cZ cB : ClassId} {a : Nat → Nat} {E : State → Prop} (hX : xHyp a E) (p1 : Int) (p2 : Int) (p3 : Int) (h1 : in32 p1) (h2 : in32 p2) (h3 : in64 p3) (st : fS) (hI : xSteps st) : xMl l D cI cJ cZ cB a E yX8_billOf wsX8_billOf rm_X8_billOf [.ref (a 0), .int (zI p1), .int (zI p2), .long (zJ p3)] st (fun z u => z = F_X8_billOf p1 p2 p3 st ∧ u = st ∧ (z = -9223372036854775808 ∨ ((0 ≤ z ∧ z ≤ 23999976000000) ∧ (0 ≤ p1 ∧ p1 ≤ 3) ∧ (0 ≤ p2 ∧ p2 ≤ 119)))) := by
  refine fB_open (cc := cX8_billOf) (maxL := 10) (ret := (some .long)) (by decide) rfl (Nat.le_of_ble_eq_true rfl) hX.2 ?_
  intro p e s m below meth c C hret hlk
  have hp : ∀ z : Int, z = F_X8_billOf p1 p2 p3 st → (z = -9223372036854775808 ∨ ((0 ≤ z ∧ z ≤ 23999976000000) ∧ (0 ≤ p1 ∧ p1 ≤ 3) ∧ (0 ≤ p2 ∧ p2 ≤ 119))) → z = F_X8_billOf p1 p2 p3 st ∧ st = st ∧ (z = -9223372036854775808 ∨ ((0 ≤ z ∧ z ≤ 23999976000000) ∧ (0 ≤ p1 ∧ p1 ≤ 3) ∧ (0 ≤ p2 ∧ p2 ≤ 119))) := fun z h r1 => ⟨h, rfl, r1⟩
  refine f_aload_n C 0 dX8_billOf_0 rfl rfl ?_
  refine f_iload_n C 1 dX8_billOf_1 rfl rfl ?_
  refine f_iload_n C 2 dX8_billOf_2 rfl rfl ?_
  refine f_lload_n C 3 dX8_billOf_3 rfl rfl ?_
  refine f_calli C (c_X8_isAskable hX p1 p2 p3 ⟨by omega, by omega⟩ ⟨by omega, by omega⟩ ⟨by omega, by omega⟩ st) (cwV 3 C.1.2.2.2.2 gX8_billOf_X8_isAskable rfl rfl rfl (by decide +kernel) ⟨Nat.le_of_ble_eq_true rfl, Nat.le_of_ble_eq_true rfl⟩) 0 rfl rfl rfl rfl rfl (Nat.le_of_ble_eq_true rfl) ⟨Nat.zero_le _, Nat.zero_le _⟩ dX8_billOf_4 (fun z u hz17 hu => ?_)
  obtain ⟨qz17, hu, rz17⟩ := hu; replace hu := hu.symm; subst hu; subst qz17
  refine f_if_ne C 14 ⟨by omega, by omega⟩ dX8_billOf_7 (by decide) (fun c18 => ?_) (fun c18 => ?_)
  · refine f_lconst C (z := 0) dX8_billOf_14 rfl ?_
    refine f_lstore C (lv' := [(5, .long (zJ 0)), (0, .ref (a 0)), (1, .int (zI p1)), (2, .int (zI p2)), (3, .long (zJ p3))]) dX8_billOf_15 (Nat.le_of_ble_eq_true rfl) rfl ?_
    refine f_iconst C dX8_billOf_17 ?_
    refine f_istore C (lv' := [(7, .int (zI 0)), (5, .long (zJ 0)), (0, .ref (a 0)), (1, .int (zI p1)), (2, .int (zI p2)), (3, .long (zJ p3))]) dX8_billOf_18 (Nat.le_of_ble_eq_true rfl) rfl ?_
    refine f_re (lv' := [(0, .ref (a 0)), (1, .int (zI p1)), (2, .int (zI p2)), (3, .long (zJ p3)), (5, .long (zJ 0)), (7, .int (zI 0))]) [2, 3, 4, 5, 1, 0] rfl ?_
    refine f_ok (fun hO19 => ?_)
    have k20 : 0 ≤ st.1 1 ∧ st.1 1 ≤ 24 := hO19.1 1
    exact v_X8_billOf_20 hX p1 p2 p3 ⟨by omega, by omega⟩ ⟨by omega, by omega⟩ ⟨by omega, by omega⟩ C hret hlk (Int.toNat ((st.1 1) - (0 : Int)) + 1) 0 0 st ⟨by omega, by omega⟩ ⟨by omega, by omega⟩ (show 0 ≤ (0 : Int) ∧ (0 : Int) ≤ (st.1 1) by omega) (show 0 ≤ (st.1 1) ∧ (st.1 1) ≤ 24 by omega) (show 0 ≤ (0 : Int) ∧ (0 : Int) ≤ 999999000000 * (0 : Int) by omega) hI (show (0 ≤ p1 ∧ p1 ≤ 3) ∧ (0 ≤ p2 ∧ p2 ≤ 119) by omega) (show (st.1 1) - (0 : Int) < ((Int.toNat ((st.1 1) - (0 : Int)) + 1 : Nat) : Int) by omega) (fun z e1 r1 => hp z (by rw [F_X8_billOf, if_neg c18]; exact e1) r1)
  refine f_ldc2 C (v := (-9223372036854775808)) (z := (-9223372036854775808)) (by decide +kernel) (by decide) dX8_billOf_10 ?_
  exact f_lret C hret hlk dX8_billOf_13 ⟨by decide, by decide⟩ (hp _ (by rw [F_X8_billOf, if_pos c18]) (by omega))
