/-! ===== PART 32: FeeRules, its calls but read and walk (laid by program) ===== -/
def F_X8_house (p1 : Int) (st : fS) : Int × fS := if p1 < 1 then ((-1), st) else (if p1 ≤ 6 then ((F_X3_add p1 st).1, (F_X3_add p1 st).2) else ((-1), st))
abbrev rm_X8_house : Room := { frames := 3, cells := 0, slots := 0, locals := 69 }
set_option maxRecDepth 100000 in
set_option maxHeartbeats 8000000 in
theorem c_X8_house {l : Launch} {D : va_G} {cI cJ cZ cB : ClassId} {a : Nat → Nat} {E : State → Prop} (hX : xHyp a E) (p1 : Int) (h1 : in32 p1) (st : fS)  : xMi l D cI cJ cZ cB a E yX8_house wsX8_house rm_X8_house [.ref (a 0), .int (zI p1)] st (fun z u => z = (F_X8_house p1 st).1 ∧ u = (F_X8_house p1 st).2) := by
  refine fB_open (cc := cX8_house) (maxL := 2) (ret := (some .int)) (by decide) rfl (Nat.le_of_ble_eq_true rfl) hX.2 ?_
  intro p e s m below meth c C hret hlk
  have hin8 : ∀ w ∈ u_ws RX8 TX8 8, w ∈ wsX8_house := by decide +kernel
  have hp : ∀ (z : Int) (u : fS), z = (F_X8_house p1 st).1 → u = (F_X8_house p1 st).2 → z = (F_X8_house p1 st).1 ∧ u = (F_X8_house p1 st).2 := fun z u h1 h2 => ⟨h1, h2⟩
  refine f_iload_n C 1 dX8_house_0 rfl rfl ?_
  refine f_iconst C dX8_house_1 ?_
  refine f_icmp_lt C 11 ⟨by omega, by omega⟩ ⟨by decide, by decide⟩ dX8_house_2 (by decide) (fun c1 => ?_) (fun c1 => ?_)
  · refine f_iconst C dX8_house_11 ?_
    exact f_iret C hret hlk dX8_house_12 ⟨by decide, by decide⟩ (hp _ _ (by rw [F_X8_house, if_pos c1]) (by rw [F_X8_house, if_pos c1]))
  refine f_iload_n C 1 dX8_house_5 rfl rfl ?_
  refine f_bipush C dX8_house_6 (by decide) ?_
  refine f_icmp_le C 13 ⟨by omega, by omega⟩ ⟨by decide, by decide⟩ dX8_house_8 (by decide) (fun c2 => ?_) (fun c2 => ?_)
  · refine f_aload_n C 0 dX8_house_13 rfl rfl ?_
    refine f_get C hin8 0 0 rfl rfl (Nat.le_of_ble_eq_true rfl) (by decide +kernel) rfl rfl dX8_house_14 ?_
    refine f_iload_n C 1 dX8_house_17 rfl rfl ?_
    refine f_calli C (c_X3_add hX p1 ⟨by omega, by omega⟩ st (show 1 ≤ p1 ∧ p1 ≤ 6 by omega)) (cwV 1 C.1.2.2.2.2 gX8_house_X3_add rfl rfl rfl (by decide +kernel) ⟨Nat.le_of_ble_eq_true rfl, Nat.le_of_ble_eq_true rfl⟩) 1 rfl rfl rfl rfl rfl (Nat.le_of_ble_eq_true rfl) ⟨Nat.zero_le _, Nat.zero_le _⟩ dX8_house_18 (fun z u hz3 hu => ?_)
    obtain ⟨qz3, hu⟩ := hu; replace hu := hu.symm; subst hu; subst qz3
    exact f_iret C hret hlk dX8_house_21 ⟨by omega, by omega⟩ (hp _ _ (by rw [F_X8_house, if_neg c1, if_pos c2]) (by rw [F_X8_house, if_neg c1, if_pos c2]))
  refine f_iconst C dX8_house_11 ?_
  exact f_iret C hret hlk dX8_house_12 ⟨by decide, by decide⟩ (hp _ _ (by rw [F_X8_house, if_neg c1, if_neg c2]) (by rw [F_X8_house, if_neg c1, if_neg c2]))

def F_X8_fact (p1 : Int) (p2 : Int) (p3 : Int) (p5 : Int) (p7 : Int) (st : fS) : Int × fS := if (F_X3_has p1 st) = 0 then ((-1), st) else (if (F_X8_isKind p2 st) = 0 then ((-1), st) else (if (F_X8_isDay p3 st) = 0 then ((-1), st) else (if (F_X8_isDay p7 st) = 0 then ((-1), st) else (if p5 < 0 then ((-1), st) else (if p5 ≤ 1000000 then ((F_X1_add p1 p2 p3 p5 p7 st).1, (F_X1_add p1 p2 p3 p5 p7 st).2) else ((-1), st))))))
abbrev rm_X8_fact : Room := { frames := 2, cells := 0, slots := 0, locals := 52 }
set_option maxRecDepth 100000 in
set_option maxHeartbeats 8000000 in
theorem c_X8_fact {l : Launch} {D : va_G} {cI cJ cZ cB : ClassId} {a : Nat → Nat} {E : State → Prop} (hX : xHyp a E) (p1 : Int) (p2 : Int) (p3 : Int) (p5 : Int) (p7 : Int) (h1 : in32 p1) (h2 : in32 p2) (h3 : in64 p3) (h5 : in64 p5) (h7 : in64 p7) (st : fS)  : xMi l D cI cJ cZ cB a E yX8_fact wsX8_fact rm_X8_fact [.ref (a 0), .int (zI p1), .int (zI p2), .long (zJ p3), .long (zJ p5), .long (zJ p7)] st (fun z u => z = (F_X8_fact p1 p2 p3 p5 p7 st).1 ∧ u = (F_X8_fact p1 p2 p3 p5 p7 st).2) := by
  refine fB_open (cc := cX8_fact) (maxL := 9) (ret := (some .int)) (by decide) rfl (Nat.le_of_ble_eq_true rfl) hX.2 ?_
  intro p e s m below meth c C hret hlk
  have hin8 : ∀ w ∈ u_ws RX8 TX8 8, w ∈ wsX8_fact := by decide +kernel
  have hp : ∀ (z : Int) (u : fS), z = (F_X8_fact p1 p2 p3 p5 p7 st).1 → u = (F_X8_fact p1 p2 p3 p5 p7 st).2 → z = (F_X8_fact p1 p2 p3 p5 p7 st).1 ∧ u = (F_X8_fact p1 p2 p3 p5 p7 st).2 := fun z u h1 h2 => ⟨h1, h2⟩
  refine f_aload_n C 0 dX8_fact_0 rfl rfl ?_
  refine f_get C hin8 0 0 rfl rfl (Nat.le_of_ble_eq_true rfl) (by decide +kernel) rfl rfl dX8_fact_1 ?_
  refine f_iload_n C 1 dX8_fact_4 rfl rfl ?_
  refine f_calli C (c_X3_has hX p1 ⟨by omega, by omega⟩ st) (cwV 1 C.1.2.2.2.2 gX8_fact_X3_has rfl rfl rfl (by decide +kernel) ⟨Nat.le_of_ble_eq_true rfl, Nat.le_of_ble_eq_true rfl⟩) 1 rfl rfl rfl rfl rfl (Nat.le_of_ble_eq_true rfl) ⟨Nat.zero_le _, Nat.zero_le _⟩ dX8_fact_5 (fun z u hz1 hu => ?_)
  obtain ⟨qz1, hu, rz1⟩ := hu; replace hu := hu.symm; subst hu; subst qz1
  refine f_if_eq C 33 ⟨by omega, by omega⟩ dX8_fact_8 (by decide) (fun c2 => ?_) (fun c2 => ?_)
  · refine f_iconst C dX8_fact_33 ?_
    exact f_iret C hret hlk dX8_fact_34 ⟨by decide, by decide⟩ (hp _ _ (by rw [F_X8_fact, if_pos c2]) (by rw [F_X8_fact, if_pos c2]))
  refine f_iload_n C 2 dX8_fact_11 rfl rfl ?_
  refine f_callsi C (c_X8_isKind hX p2 ⟨by omega, by omega⟩ st) (va_cwS 1 C.1.2.2.2.2 gX8_fact_X8_isKind rfl rfl rfl (by decide +kernel) ⟨Nat.le_of_ble_eq_true rfl, Nat.le_of_ble_eq_true rfl⟩) rfl rfl (Nat.le_of_ble_eq_true rfl) ⟨Nat.zero_le _, Nat.zero_le _⟩ dX8_fact_12 (fun z u hz3 hu => ?_)
  obtain ⟨qz3, hu, rz3⟩ := hu; replace hu := hu.symm; subst hu; subst qz3
  refine f_if_eq C 33 ⟨by omega, by omega⟩ dX8_fact_15 (by decide) (fun c4 => ?_) (fun c4 => ?_)
  · refine f_iconst C dX8_fact_33 ?_
    exact f_iret C hret hlk dX8_fact_34 ⟨by decide, by decide⟩ (hp _ _ (by rw [F_X8_fact, if_neg c2, if_pos c4]) (by rw [F_X8_fact, if_neg c2, if_pos c4]))
  refine f_lload_n C 3 dX8_fact_18 rfl rfl ?_
  refine f_callsi C (c_X8_isDay hX p3 ⟨by omega, by omega⟩ st) (va_cwS 1 C.1.2.2.2.2 gX8_fact_X8_isDay rfl rfl rfl (by decide +kernel) ⟨Nat.le_of_ble_eq_true rfl, Nat.le_of_ble_eq_true rfl⟩) rfl rfl (Nat.le_of_ble_eq_true rfl) ⟨Nat.zero_le _, Nat.zero_le _⟩ dX8_fact_19 (fun z u hz5 hu => ?_)
  obtain ⟨qz5, hu, rz5⟩ := hu; replace hu := hu.symm; subst hu; subst qz5
  refine f_if_eq C 33 ⟨by omega, by omega⟩ dX8_fact_22 (by decide) (fun c6 => ?_) (fun c6 => ?_)
  · refine f_iconst C dX8_fact_33 ?_
    exact f_iret C hret hlk dX8_fact_34 ⟨by decide, by decide⟩ (hp _ _ (by rw [F_X8_fact, if_neg c2, if_neg c4, if_pos c6]) (by rw [F_X8_fact, if_neg c2, if_neg c4, if_pos c6]))
  refine f_lload C 7 dX8_fact_25 rfl ?_
  refine f_callsi C (c_X8_isDay hX p7 ⟨by omega, by omega⟩ st) (va_cwS 1 C.1.2.2.2.2 gX8_fact_X8_isDay rfl rfl rfl (by decide +kernel) ⟨Nat.le_of_ble_eq_true rfl, Nat.le_of_ble_eq_true rfl⟩) rfl rfl (Nat.le_of_ble_eq_true rfl) ⟨Nat.zero_le _, Nat.zero_le _⟩ dX8_fact_27 (fun z u hz7 hu => ?_)
  obtain ⟨qz7, hu, rz7⟩ := hu; replace hu := hu.symm; subst hu; subst qz7
  refine f_if_ne C 35 ⟨by omega, by omega⟩ dX8_fact_30 (by decide) (fun c8 => ?_) (fun c8 => ?_)
  · refine f_lload C 5 dX8_fact_35 rfl ?_
    refine f_lconst C (z := 0) dX8_fact_37 rfl ?_
    refine f_lc_if_lt C 51 ⟨by omega, by omega⟩ ⟨by decide, by decide⟩ dX8_fact_38 dX8_fact_39 (by decide) (fun c9 => ?_) (fun c9 => ?_)
    · refine f_iconst C dX8_fact_51 ?_
      exact f_iret C hret hlk dX8_fact_52 ⟨by decide, by decide⟩ (hp _ _ (by rw [F_X8_fact, if_neg c2, if_neg c4, if_neg c6, if_neg c8, if_pos c9]) (by rw [F_X8_fact, if_neg c2, if_neg c4, if_neg c6, if_neg c8, if_pos c9]))
    refine f_lload C 5 dX8_fact_42 rfl ?_
    refine f_ldc2 C (v := 1000000) (z := 1000000) (by decide +kernel) (by decide) dX8_fact_44 ?_
    refine f_lc_if_le C 53 ⟨by omega, by omega⟩ ⟨by decide, by decide⟩ dX8_fact_47 dX8_fact_48 (by decide) (fun c10 => ?_) (fun c10 => ?_)
    · refine f_aload_n C 0 dX8_fact_53 rfl rfl ?_
      refine f_get C hin8 0 1 rfl rfl (Nat.le_of_ble_eq_true rfl) (by decide +kernel) rfl rfl dX8_fact_54 ?_
      refine f_iload_n C 1 dX8_fact_57 rfl rfl ?_
      refine f_iload_n C 2 dX8_fact_58 rfl rfl ?_
      refine f_lload_n C 3 dX8_fact_59 rfl rfl ?_
      refine f_lload C 5 dX8_fact_60 rfl ?_
      refine f_lload C 7 dX8_fact_62 rfl ?_
      refine f_calli C (c_X1_add hX p1 p2 p3 p5 p7 ⟨by omega, by omega⟩ ⟨by omega, by omega⟩ ⟨by omega, by omega⟩ ⟨by omega, by omega⟩ ⟨by omega, by omega⟩ st (show 0 ≤ p1 ∧ p1 ≤ 3 by omega) (show 0 ≤ p2 ∧ p2 ≤ 5 by omega) (show 0 ≤ p3 ∧ p3 ≤ 3599 by omega) (show 0 ≤ p5 ∧ p5 ≤ 1000000 by omega) (show 0 ≤ p7 ∧ p7 ≤ 3599 by omega)) (cwV 5 C.1.2.2.2.2 gX8_fact_X1_add rfl rfl rfl (by decide +kernel) ⟨Nat.le_of_ble_eq_true rfl, Nat.le_of_ble_eq_true rfl⟩) 2 rfl rfl rfl rfl rfl (Nat.le_of_ble_eq_true rfl) ⟨Nat.zero_le _, Nat.zero_le _⟩ dX8_fact_64 (fun z u hz11 hu => ?_)
      obtain ⟨qz11, hu⟩ := hu; replace hu := hu.symm; subst hu; subst qz11
      exact f_iret C hret hlk dX8_fact_67 ⟨by omega, by omega⟩ (hp _ _ (by rw [F_X8_fact, if_neg c2, if_neg c4, if_neg c6, if_neg c8, if_neg c9, if_pos c10]) (by rw [F_X8_fact, if_neg c2, if_neg c4, if_neg c6, if_neg c8, if_neg c9, if_pos c10]))
    refine f_iconst C dX8_fact_51 ?_
    exact f_iret C hret hlk dX8_fact_52 ⟨by decide, by decide⟩ (hp _ _ (by rw [F_X8_fact, if_neg c2, if_neg c4, if_neg c6, if_neg c8, if_neg c9, if_neg c10]) (by rw [F_X8_fact, if_neg c2, if_neg c4, if_neg c6, if_neg c8, if_neg c9, if_neg c10]))
  refine f_iconst C dX8_fact_33 ?_
  exact f_iret C hret hlk dX8_fact_34 ⟨by decide, by decide⟩ (hp _ _ (by rw [F_X8_fact, if_neg c2, if_neg c4, if_neg c6, if_pos c8]) (by rw [F_X8_fact, if_neg c2, if_neg c4, if_neg c6, if_pos c8]))

def F_X8_unit (p1 : Int) (st : fS) : Int × fS := if p1 < 0 then (0, st) else (if 255 < p1 then (0, st) else (if ((F_X7_add p1 st).1) = 0 then (0, (F_X7_add p1 st).2) else (1, (F_X7_add p1 st).2)))
abbrev rm_X8_unit : Room := { frames := 2, cells := 0, slots := 0, locals := 44 }
set_option maxRecDepth 100000 in
set_option maxHeartbeats 8000000 in
theorem c_X8_unit {l : Launch} {D : va_G} {cI cJ cZ cB : ClassId} {a : Nat → Nat} {E : State → Prop} (hX : xHyp a E) (p1 : Int) (h1 : in32 p1) (st : fS)  : xMi l D cI cJ cZ cB a E yX8_unit wsX8_unit rm_X8_unit [.ref (a 0), .int (zI p1)] st (fun z u => z = (F_X8_unit p1 st).1 ∧ u = (F_X8_unit p1 st).2 ∧ (z = 0 ∨ z = 1)) := by
  refine fB_open (cc := cX8_unit) (maxL := 2) (ret := (some .boolean)) (by decide) rfl (Nat.le_of_ble_eq_true rfl) hX.2 ?_
  intro p e s m below meth c C hret hlk
  have hin8 : ∀ w ∈ u_ws RX8 TX8 8, w ∈ wsX8_unit := by decide +kernel
  have hp : ∀ (z : Int) (u : fS), z = (F_X8_unit p1 st).1 → u = (F_X8_unit p1 st).2 → (z = 0 ∨ z = 1) → z = (F_X8_unit p1 st).1 ∧ u = (F_X8_unit p1 st).2 ∧ (z = 0 ∨ z = 1) := fun z u h1 h2 r1 => ⟨h1, h2, r1⟩
  refine f_iload_n C 1 dX8_unit_0 rfl rfl ?_
  refine f_if_lt C 26 ⟨by omega, by omega⟩ dX8_unit_1 (by decide) (fun c1 => ?_) (fun c1 => ?_)
  · refine f_iconst C dX8_unit_26 ?_
    exact f_zret C hret hlk dX8_unit_27 (by decide) (hp _ _ (by rw [F_X8_unit, if_pos c1]) (by rw [F_X8_unit, if_pos c1]) (by omega))
  refine f_iload_n C 1 dX8_unit_4 rfl rfl ?_
  refine f_sipush C dX8_unit_5 (by decide) ?_
  refine f_icmp_gt C 26 ⟨by omega, by omega⟩ ⟨by decide, by decide⟩ dX8_unit_8 (by decide) (fun c2 => ?_) (fun c2 => ?_)
  · refine f_iconst C dX8_unit_26 ?_
    exact f_zret C hret hlk dX8_unit_27 (by decide) (hp _ _ (by rw [F_X8_unit, if_neg c1, if_pos c2]) (by rw [F_X8_unit, if_neg c1, if_pos c2]) (by omega))
  refine f_aload_n C 0 dX8_unit_11 rfl rfl ?_
  refine f_get C hin8 0 2 rfl rfl (Nat.le_of_ble_eq_true rfl) (by decide +kernel) rfl rfl dX8_unit_12 ?_
  refine f_iload_n C 1 dX8_unit_15 rfl rfl ?_
  refine f_calli C (c_X7_add hX p1 ⟨by omega, by omega⟩ st (show 0 ≤ p1 ∧ p1 ≤ 255 by omega)) (cwV 1 C.1.2.2.2.2 gX8_unit_X7_add rfl rfl rfl (by decide +kernel) ⟨Nat.le_of_ble_eq_true rfl, Nat.le_of_ble_eq_true rfl⟩) 3 rfl rfl rfl rfl rfl (Nat.le_of_ble_eq_true rfl) ⟨Nat.zero_le _, Nat.zero_le _⟩ dX8_unit_16 (fun z u hz3 hu => ?_)
  obtain ⟨qz3, hu, rz3⟩ := hu; replace hu := hu.symm; subst hu; subst qz3
  refine f_if_eq C 26 ⟨by omega, by omega⟩ dX8_unit_19 (by decide) (fun c4 => ?_) (fun c4 => ?_)
  · refine f_iconst C dX8_unit_26 ?_
    exact f_zret C hret hlk dX8_unit_27 (by decide) (hp _ _ (by rw [F_X8_unit, if_neg c1, if_neg c2, if_pos c4]) (by rw [F_X8_unit, if_neg c1, if_neg c2, if_pos c4]) (by omega))
  refine f_iconst C dX8_unit_22 ?_
  refine f_goto C 27 dX8_unit_23 (by decide) ?_
  exact f_zret C hret hlk dX8_unit_27 (by decide) (hp _ _ (by rw [F_X8_unit, if_neg c1, if_neg c2, if_neg c4]) (by rw [F_X8_unit, if_neg c1, if_neg c2, if_neg c4]) (by omega))

def F_X8_edition (p1 : Int) (p2 : Int) (st : fS) : Int := if (F_X0_has p1 st) = 0 then (-1) else (if p2 = 0 then F_X0_actsFrom p1 st else (if p2 = 1 then F_X0_knownFrom p1 st else (if p2 = 2 then F_X0_ruleCount p1 st else (-1))))
abbrev rm_X8_edition : Room := { frames := 2, cells := 0, slots := 0, locals := 42 }
set_option maxRecDepth 100000 in
set_option maxHeartbeats 8000000 in
theorem c_X8_edition {l : Launch} {D : va_G} {cI cJ cZ cB : ClassId} {a : Nat → Nat} {E : State → Prop} (hX : xHyp a E) (p1 : Int) (p2 : Int) (h1 : in32 p1) (h2 : in32 p2) (st : fS)  : xMi l D cI cJ cZ cB a E yX8_edition wsX8_edition rm_X8_edition [.ref (a 0), .int (zI p1), .int (zI p2)] st (fun z u => z = F_X8_edition p1 p2 st ∧ u = st) := by
  refine fB_open (cc := cX8_edition) (maxL := 3) (ret := (some .int)) (by decide) rfl (Nat.le_of_ble_eq_true rfl) hX.2 ?_
  intro p e s m below meth c C hret hlk
  have hin8 : ∀ w ∈ u_ws RX8 TX8 8, w ∈ wsX8_edition := by decide +kernel
  have hp : ∀ z : Int, z = F_X8_edition p1 p2 st → z = F_X8_edition p1 p2 st ∧ st = st := fun z h => ⟨h, rfl⟩
  refine f_aload_n C 0 dX8_edition_0 rfl rfl ?_
  refine f_get C hin8 0 3 rfl rfl (Nat.le_of_ble_eq_true rfl) (by decide +kernel) rfl rfl dX8_edition_1 ?_
  refine f_iload_n C 1 dX8_edition_4 rfl rfl ?_
  refine f_calli C (c_X0_has hX p1 ⟨by omega, by omega⟩ st) (cwV 1 C.1.2.2.2.2 gX8_edition_X0_has rfl rfl rfl (by decide +kernel) ⟨Nat.le_of_ble_eq_true rfl, Nat.le_of_ble_eq_true rfl⟩) 4 rfl rfl rfl rfl rfl (Nat.le_of_ble_eq_true rfl) ⟨Nat.zero_le _, Nat.zero_le _⟩ dX8_edition_5 (fun z u hz1 hu => ?_)
  obtain ⟨qz1, hu, rz1⟩ := hu; replace hu := hu.symm; subst hu; subst qz1
  refine f_if_ne C 13 ⟨by omega, by omega⟩ dX8_edition_8 (by decide) (fun c2 => ?_) (fun c2 => ?_)
  · refine f_iload_n C 2 dX8_edition_13 rfl rfl ?_
    by_cases c3 : p2 = 0
    · refine f_tabIn C 40 0 c3 ⟨by decide, by decide⟩ (by decide) (by decide) rfl (by decide) dX8_edition_14 ?_
      refine f_aload_n C 0 dX8_edition_40 rfl rfl ?_
      refine f_get C hin8 0 3 rfl rfl (Nat.le_of_ble_eq_true rfl) (by decide +kernel) rfl rfl dX8_edition_41 ?_
      refine f_iload_n C 1 dX8_edition_44 rfl rfl ?_
      refine f_calll C (c_X0_actsFrom hX p1 ⟨by omega, by omega⟩ st) (cwV 1 C.1.2.2.2.2 gX8_edition_X0_actsFrom rfl rfl rfl (by decide +kernel) ⟨Nat.le_of_ble_eq_true rfl, Nat.le_of_ble_eq_true rfl⟩) 4 rfl rfl rfl rfl rfl (Nat.le_of_ble_eq_true rfl) ⟨Nat.zero_le _, Nat.zero_le _⟩ dX8_edition_45 (fun z u hz4 hu => ?_)
      obtain ⟨qz4, hu, rz4⟩ := hu; replace hu := hu.symm; subst hu; subst qz4
      refine f_l2i C dX8_edition_48 ?_
      exact f_iret C hret hlk dX8_edition_49 ⟨by omega, by omega⟩ (hp _ (by rw [F_X8_edition, if_neg c2, if_pos c3]))
    by_cases c5 : p2 = 1
    · refine f_tabIn C 50 1 c5 ⟨by decide, by decide⟩ (by decide) (by decide) rfl (by decide) dX8_edition_14 ?_
      refine f_aload_n C 0 dX8_edition_50 rfl rfl ?_
      refine f_get C hin8 0 3 rfl rfl (Nat.le_of_ble_eq_true rfl) (by decide +kernel) rfl rfl dX8_edition_51 ?_
      refine f_iload_n C 1 dX8_edition_54 rfl rfl ?_
      refine f_calll C (c_X0_knownFrom hX p1 ⟨by omega, by omega⟩ st) (cwV 1 C.1.2.2.2.2 gX8_edition_X0_knownFrom rfl rfl rfl (by decide +kernel) ⟨Nat.le_of_ble_eq_true rfl, Nat.le_of_ble_eq_true rfl⟩) 4 rfl rfl rfl rfl rfl (Nat.le_of_ble_eq_true rfl) ⟨Nat.zero_le _, Nat.zero_le _⟩ dX8_edition_55 (fun z u hz6 hu => ?_)
      obtain ⟨qz6, hu, rz6⟩ := hu; replace hu := hu.symm; subst hu; subst qz6
      refine f_l2i C dX8_edition_58 ?_
      exact f_iret C hret hlk dX8_edition_59 ⟨by omega, by omega⟩ (hp _ (by rw [F_X8_edition, if_neg c2, if_neg c3, if_pos c5]))
    by_cases c7 : p2 = 2
    · refine f_tabIn C 60 2 c7 ⟨by decide, by decide⟩ (by decide) (by decide) rfl (by decide) dX8_edition_14 ?_
      refine f_aload_n C 0 dX8_edition_60 rfl rfl ?_
      refine f_get C hin8 0 3 rfl rfl (Nat.le_of_ble_eq_true rfl) (by decide +kernel) rfl rfl dX8_edition_61 ?_
      refine f_iload_n C 1 dX8_edition_64 rfl rfl ?_
      refine f_calll C (c_X0_ruleCount hX p1 ⟨by omega, by omega⟩ st) (cwV 1 C.1.2.2.2.2 gX8_edition_X0_ruleCount rfl rfl rfl (by decide +kernel) ⟨Nat.le_of_ble_eq_true rfl, Nat.le_of_ble_eq_true rfl⟩) 4 rfl rfl rfl rfl rfl (Nat.le_of_ble_eq_true rfl) ⟨Nat.zero_le _, Nat.zero_le _⟩ dX8_edition_65 (fun z u hz8 hu => ?_)
      obtain ⟨qz8, hu, rz8⟩ := hu; replace hu := hu.symm; subst hu; subst qz8
      refine f_l2i C dX8_edition_68 ?_
      exact f_iret C hret hlk dX8_edition_69 ⟨by omega, by omega⟩ (hp _ (by rw [F_X8_edition, if_neg c2, if_neg c3, if_neg c5, if_pos c7]))
    refine f_tabOut C 70 ⟨by omega, by omega⟩ (by omega) (by decide) dX8_edition_14 ?_
    refine f_iconst C dX8_edition_70 ?_
    exact f_iret C hret hlk dX8_edition_71 ⟨by decide, by decide⟩ (hp _ (by rw [F_X8_edition, if_neg c2, if_neg c3, if_neg c5, if_neg c7]))
  refine f_iconst C dX8_edition_11 ?_
  exact f_iret C hret hlk dX8_edition_12 ⟨by decide, by decide⟩ (hp _ (by rw [F_X8_edition, if_pos c2]))

def F_X8_cap (p1 : Int) (p2 : Int) (st : fS) : Int × fS := if (F_X8_isMonth p1 st) = 0 then (0, st) else (if p2 < 0 then (0, st) else (if p2 ≤ 1000000000000 then (1, rset st 23 p1 p2) else (0, st)))
abbrev rm_X8_cap : Room := { frames := 1, cells := 0, slots := 0, locals := 23 }
set_option maxRecDepth 100000 in
set_option maxHeartbeats 8000000 in
theorem c_X8_cap {l : Launch} {D : va_G} {cI cJ cZ cB : ClassId} {a : Nat → Nat} {E : State → Prop} (hX : xHyp a E) (p1 : Int) (p2 : Int) (h1 : in32 p1) (h2 : in64 p2) (st : fS)  : xMi l D cI cJ cZ cB a E yX8_cap wsX8_cap rm_X8_cap [.ref (a 0), .int (zI p1), .long (zJ p2)] st (fun z u => z = (F_X8_cap p1 p2 st).1 ∧ u = (F_X8_cap p1 p2 st).2 ∧ (z = 0 ∨ z = 1)) := by
  refine fB_open (cc := cX8_cap) (maxL := 4) (ret := (some .boolean)) (by decide) rfl (Nat.le_of_ble_eq_true rfl) hX.2 ?_
  intro p e s m below meth c C hret hlk
  have hin8 : ∀ w ∈ u_ws RX8 TX8 8, w ∈ wsX8_cap := by decide +kernel
  have hp : ∀ (z : Int) (u : fS), z = (F_X8_cap p1 p2 st).1 → u = (F_X8_cap p1 p2 st).2 → (z = 0 ∨ z = 1) → z = (F_X8_cap p1 p2 st).1 ∧ u = (F_X8_cap p1 p2 st).2 ∧ (z = 0 ∨ z = 1) := fun z u h1 h2 r1 => ⟨h1, h2, r1⟩
  refine f_iload_n C 1 dX8_cap_0 rfl rfl ?_
  refine f_callsi C (c_X8_isMonth hX p1 ⟨by omega, by omega⟩ st) (va_cwS 1 C.1.2.2.2.2 gX8_cap_X8_isMonth rfl rfl rfl (by decide +kernel) ⟨Nat.le_of_ble_eq_true rfl, Nat.le_of_ble_eq_true rfl⟩) rfl rfl (Nat.le_of_ble_eq_true rfl) ⟨Nat.zero_le _, Nat.zero_le _⟩ dX8_cap_1 (fun z u hz1 hu => ?_)
  obtain ⟨qz1, hu, rz1⟩ := hu; replace hu := hu.symm; subst hu; subst qz1
  refine f_if_eq C 21 ⟨by omega, by omega⟩ dX8_cap_4 (by decide) (fun c2 => ?_) (fun c2 => ?_)
  · refine f_iconst C dX8_cap_21 ?_
    exact f_zret C hret hlk dX8_cap_22 (by decide) (hp _ _ (by rw [F_X8_cap, if_pos c2]) (by rw [F_X8_cap, if_pos c2]) (by omega))
  refine f_lload_n C 2 dX8_cap_7 rfl rfl ?_
  refine f_lconst C (z := 0) dX8_cap_8 rfl ?_
  refine f_lc_if_lt C 21 ⟨by omega, by omega⟩ ⟨by decide, by decide⟩ dX8_cap_9 dX8_cap_10 (by decide) (fun c3 => ?_) (fun c3 => ?_)
  · refine f_iconst C dX8_cap_21 ?_
    exact f_zret C hret hlk dX8_cap_22 (by decide) (hp _ _ (by rw [F_X8_cap, if_neg c2, if_pos c3]) (by rw [F_X8_cap, if_neg c2, if_pos c3]) (by omega))
  refine f_lload_n C 2 dX8_cap_13 rfl rfl ?_
  refine f_ldc2 C (v := 1000000000000) (z := 1000000000000) (by decide +kernel) (by decide) dX8_cap_14 ?_
  refine f_lc_if_le C 23 ⟨by omega, by omega⟩ ⟨by decide, by decide⟩ dX8_cap_17 dX8_cap_18 (by decide) (fun c4 => ?_) (fun c4 => ?_)
  · refine f_aload_n C 0 dX8_cap_23 rfl rfl ?_
    refine f_get C hin8 0 6 rfl rfl (Nat.le_of_ble_eq_true rfl) (by decide +kernel) rfl rfl dX8_cap_24 ?_
    refine f_iload_n C 1 dX8_cap_27 rfl rfl ?_
    refine f_lload_n C 2 dX8_cap_28 rfl rfl ?_
    refine f_callv C (c_Row_set hX 23 (Nat.le_of_ble_eq_true rfl) p1 p2 ⟨by omega, by omega⟩ (show (-1) ≤ p2 ∧ p2 ≤ 1000000000000 by omega) st) (cwV 2 C.1.2.2.2.2 gX8_cap_X5_set rfl rfl rfl (by decide +kernel) ⟨Nat.le_of_ble_eq_true rfl, Nat.le_of_ble_eq_true rfl⟩) 31 (wX_row cJ a st (r := 23) (Nat.le_of_ble_eq_true rfl)) rfl rfl rfl rfl (Nat.le_of_ble_eq_true rfl) ⟨Nat.zero_le _, Nat.zero_le _⟩ dX8_cap_29 (fun u hu => ?_)
    replace hu := hu.symm; subst hu
    refine f_iconst C dX8_cap_32 ?_
    exact f_zret C hret hlk dX8_cap_33 (by decide) (hp _ _ (by rw [F_X8_cap, if_neg c2, if_neg c3, if_pos c4]) (by rw [F_X8_cap, if_neg c2, if_neg c3, if_pos c4]) (by omega))
  refine f_iconst C dX8_cap_21 ?_
  exact f_zret C hret hlk dX8_cap_22 (by decide) (hp _ _ (by rw [F_X8_cap, if_neg c2, if_neg c3, if_neg c4]) (by rw [F_X8_cap, if_neg c2, if_neg c3, if_neg c4]) (by omega))

def F_X8_relief (p1 : Int) (p2 : Int) (p3 : Int) (p5 : Int) (st : fS) : Int × fS := if (F_X3_has p1 st) = 0 then (0, st) else (if (F_X8_isKind p2 st) = 0 then (0, st) else (if (F_X8_isDay p3 st) = 0 then (0, st) else (if (F_X8_isDay p5 st) = 0 then (0, st) else (if p3 ≤ p5 then ((F_X4_add p1 p2 p3 p5 st).1, (F_X4_add p1 p2 p3 p5 st).2) else (0, st)))))
abbrev rm_X8_relief : Room := { frames := 2, cells := 0, slots := 0, locals := 49 }
set_option maxRecDepth 100000 in
set_option maxHeartbeats 8000000 in
theorem c_X8_relief {l : Launch} {D : va_G} {cI cJ cZ cB : ClassId} {a : Nat → Nat} {E : State → Prop} (hX : xHyp a E) (p1 : Int) (p2 : Int) (p3 : Int) (p5 : Int) (h1 : in32 p1) (h2 : in32 p2) (h3 : in64 p3) (h5 : in64 p5) (st : fS)  : xMi l D cI cJ cZ cB a E yX8_relief wsX8_relief rm_X8_relief [.ref (a 0), .int (zI p1), .int (zI p2), .long (zJ p3), .long (zJ p5)] st (fun z u => z = (F_X8_relief p1 p2 p3 p5 st).1 ∧ u = (F_X8_relief p1 p2 p3 p5 st).2 ∧ (z = 0 ∨ z = 1)) := by
  refine fB_open (cc := cX8_relief) (maxL := 7) (ret := (some .boolean)) (by decide) rfl (Nat.le_of_ble_eq_true rfl) hX.2 ?_
  intro p e s m below meth c C hret hlk
  have hin8 : ∀ w ∈ u_ws RX8 TX8 8, w ∈ wsX8_relief := by decide +kernel
  have hp : ∀ (z : Int) (u : fS), z = (F_X8_relief p1 p2 p3 p5 st).1 → u = (F_X8_relief p1 p2 p3 p5 st).2 → (z = 0 ∨ z = 1) → z = (F_X8_relief p1 p2 p3 p5 st).1 ∧ u = (F_X8_relief p1 p2 p3 p5 st).2 ∧ (z = 0 ∨ z = 1) := fun z u h1 h2 r1 => ⟨h1, h2, r1⟩
  refine f_aload_n C 0 dX8_relief_0 rfl rfl ?_
  refine f_get C hin8 0 0 rfl rfl (Nat.le_of_ble_eq_true rfl) (by decide +kernel) rfl rfl dX8_relief_1 ?_
  refine f_iload_n C 1 dX8_relief_4 rfl rfl ?_
  refine f_calli C (c_X3_has hX p1 ⟨by omega, by omega⟩ st) (cwV 1 C.1.2.2.2.2 gX8_relief_X3_has rfl rfl rfl (by decide +kernel) ⟨Nat.le_of_ble_eq_true rfl, Nat.le_of_ble_eq_true rfl⟩) 1 rfl rfl rfl rfl rfl (Nat.le_of_ble_eq_true rfl) ⟨Nat.zero_le _, Nat.zero_le _⟩ dX8_relief_5 (fun z u hz1 hu => ?_)
  obtain ⟨qz1, hu, rz1⟩ := hu; replace hu := hu.symm; subst hu; subst qz1
  refine f_if_eq C 40 ⟨by omega, by omega⟩ dX8_relief_8 (by decide) (fun c2 => ?_) (fun c2 => ?_)
  · refine f_iconst C dX8_relief_40 ?_
    exact f_zret C hret hlk dX8_relief_41 (by decide) (hp _ _ (by rw [F_X8_relief, if_pos c2]) (by rw [F_X8_relief, if_pos c2]) (by omega))
  refine f_iload_n C 2 dX8_relief_11 rfl rfl ?_
  refine f_callsi C (c_X8_isKind hX p2 ⟨by omega, by omega⟩ st) (va_cwS 1 C.1.2.2.2.2 gX8_relief_X8_isKind rfl rfl rfl (by decide +kernel) ⟨Nat.le_of_ble_eq_true rfl, Nat.le_of_ble_eq_true rfl⟩) rfl rfl (Nat.le_of_ble_eq_true rfl) ⟨Nat.zero_le _, Nat.zero_le _⟩ dX8_relief_12 (fun z u hz3 hu => ?_)
  obtain ⟨qz3, hu, rz3⟩ := hu; replace hu := hu.symm; subst hu; subst qz3
  refine f_if_eq C 40 ⟨by omega, by omega⟩ dX8_relief_15 (by decide) (fun c4 => ?_) (fun c4 => ?_)
  · refine f_iconst C dX8_relief_40 ?_
    exact f_zret C hret hlk dX8_relief_41 (by decide) (hp _ _ (by rw [F_X8_relief, if_neg c2, if_pos c4]) (by rw [F_X8_relief, if_neg c2, if_pos c4]) (by omega))
  refine f_lload_n C 3 dX8_relief_18 rfl rfl ?_
  refine f_callsi C (c_X8_isDay hX p3 ⟨by omega, by omega⟩ st) (va_cwS 1 C.1.2.2.2.2 gX8_relief_X8_isDay rfl rfl rfl (by decide +kernel) ⟨Nat.le_of_ble_eq_true rfl, Nat.le_of_ble_eq_true rfl⟩) rfl rfl (Nat.le_of_ble_eq_true rfl) ⟨Nat.zero_le _, Nat.zero_le _⟩ dX8_relief_19 (fun z u hz5 hu => ?_)
  obtain ⟨qz5, hu, rz5⟩ := hu; replace hu := hu.symm; subst hu; subst qz5
  refine f_if_eq C 40 ⟨by omega, by omega⟩ dX8_relief_22 (by decide) (fun c6 => ?_) (fun c6 => ?_)
  · refine f_iconst C dX8_relief_40 ?_
    exact f_zret C hret hlk dX8_relief_41 (by decide) (hp _ _ (by rw [F_X8_relief, if_neg c2, if_neg c4, if_pos c6]) (by rw [F_X8_relief, if_neg c2, if_neg c4, if_pos c6]) (by omega))
  refine f_lload C 5 dX8_relief_25 rfl ?_
  refine f_callsi C (c_X8_isDay hX p5 ⟨by omega, by omega⟩ st) (va_cwS 1 C.1.2.2.2.2 gX8_relief_X8_isDay rfl rfl rfl (by decide +kernel) ⟨Nat.le_of_ble_eq_true rfl, Nat.le_of_ble_eq_true rfl⟩) rfl rfl (Nat.le_of_ble_eq_true rfl) ⟨Nat.zero_le _, Nat.zero_le _⟩ dX8_relief_27 (fun z u hz7 hu => ?_)
  obtain ⟨qz7, hu, rz7⟩ := hu; replace hu := hu.symm; subst hu; subst qz7
  refine f_if_eq C 40 ⟨by omega, by omega⟩ dX8_relief_30 (by decide) (fun c8 => ?_) (fun c8 => ?_)
  · refine f_iconst C dX8_relief_40 ?_
    exact f_zret C hret hlk dX8_relief_41 (by decide) (hp _ _ (by rw [F_X8_relief, if_neg c2, if_neg c4, if_neg c6, if_pos c8]) (by rw [F_X8_relief, if_neg c2, if_neg c4, if_neg c6, if_pos c8]) (by omega))
  refine f_lload_n C 3 dX8_relief_33 rfl rfl ?_
  refine f_lload C 5 dX8_relief_34 rfl ?_
  refine f_lc_if_le C 42 ⟨by omega, by omega⟩ ⟨by omega, by omega⟩ dX8_relief_36 dX8_relief_37 (by decide) (fun c9 => ?_) (fun c9 => ?_)
  · refine f_aload_n C 0 dX8_relief_42 rfl rfl ?_
    refine f_get C hin8 0 5 rfl rfl (Nat.le_of_ble_eq_true rfl) (by decide +kernel) rfl rfl dX8_relief_43 ?_
    refine f_iload_n C 1 dX8_relief_46 rfl rfl ?_
    refine f_iload_n C 2 dX8_relief_47 rfl rfl ?_
    refine f_lload_n C 3 dX8_relief_48 rfl rfl ?_
    refine f_lload C 5 dX8_relief_49 rfl ?_
    refine f_calli C (c_X4_add hX p1 p2 p3 p5 ⟨by omega, by omega⟩ ⟨by omega, by omega⟩ ⟨by omega, by omega⟩ ⟨by omega, by omega⟩ st (show 0 ≤ p1 ∧ p1 ≤ 3 by omega) (show 0 ≤ p2 ∧ p2 ≤ 5 by omega) (show 0 ≤ p3 ∧ p3 ≤ 3599 by omega) (show 0 ≤ p5 ∧ p5 ≤ 3599 by omega)) (cwV 4 C.1.2.2.2.2 gX8_relief_X4_add rfl rfl rfl (by decide +kernel) ⟨Nat.le_of_ble_eq_true rfl, Nat.le_of_ble_eq_true rfl⟩) 6 rfl rfl rfl rfl rfl (Nat.le_of_ble_eq_true rfl) ⟨Nat.zero_le _, Nat.zero_le _⟩ dX8_relief_51 (fun z u hz10 hu => ?_)
    obtain ⟨qz10, hu, rz10⟩ := hu; replace hu := hu.symm; subst hu; subst qz10
    exact f_zret C hret hlk dX8_relief_54 (by omega) (hp _ _ (by rw [F_X8_relief, if_neg c2, if_neg c4, if_neg c6, if_neg c8, if_pos c9]) (by rw [F_X8_relief, if_neg c2, if_neg c4, if_neg c6, if_neg c8, if_pos c9]) (by omega))
  refine f_iconst C dX8_relief_40 ?_
  exact f_zret C hret hlk dX8_relief_41 (by decide) (hp _ _ (by rw [F_X8_relief, if_neg c2, if_neg c4, if_neg c6, if_neg c8, if_neg c9]) (by rw [F_X8_relief, if_neg c2, if_neg c4, if_neg c6, if_neg c8, if_neg c9]) (by omega))

def F_X8_weight (p1 : Int) (p2 : Int) (p3 : Int) (st : fS) : Int × fS := if (F_X3_hasFlat p1 p2 st) = 0 then (0, st) else (if p3 < 0 then (0, st) else (if p3 ≤ 1000 then (1, rset st 1 (p1 * 6 + p2) p3) else (0, st)))
abbrev rm_X8_weight : Room := { frames := 2, cells := 0, slots := 0, locals := 46 }
set_option maxRecDepth 100000 in
set_option maxHeartbeats 8000000 in
theorem c_X8_weight {l : Launch} {D : va_G} {cI cJ cZ cB : ClassId} {a : Nat → Nat} {E : State → Prop} (hX : xHyp a E) (p1 : Int) (p2 : Int) (p3 : Int) (h1 : in32 p1) (h2 : in32 p2) (h3 : in32 p3) (st : fS)  : xMi l D cI cJ cZ cB a E yX8_weight wsX8_weight rm_X8_weight [.ref (a 0), .int (zI p1), .int (zI p2), .int (zI p3)] st (fun z u => z = (F_X8_weight p1 p2 p3 st).1 ∧ u = (F_X8_weight p1 p2 p3 st).2 ∧ (z = 0 ∨ z = 1)) := by
  refine fB_open (cc := cX8_weight) (maxL := 4) (ret := (some .boolean)) (by decide) rfl (Nat.le_of_ble_eq_true rfl) hX.2 ?_
  intro p e s m below meth c C hret hlk
  have hin8 : ∀ w ∈ u_ws RX8 TX8 8, w ∈ wsX8_weight := by decide +kernel
  have hp : ∀ (z : Int) (u : fS), z = (F_X8_weight p1 p2 p3 st).1 → u = (F_X8_weight p1 p2 p3 st).2 → (z = 0 ∨ z = 1) → z = (F_X8_weight p1 p2 p3 st).1 ∧ u = (F_X8_weight p1 p2 p3 st).2 ∧ (z = 0 ∨ z = 1) := fun z u h1 h2 r1 => ⟨h1, h2, r1⟩
  refine f_aload_n C 0 dX8_weight_0 rfl rfl ?_
  refine f_get C hin8 0 0 rfl rfl (Nat.le_of_ble_eq_true rfl) (by decide +kernel) rfl rfl dX8_weight_1 ?_
  refine f_iload_n C 1 dX8_weight_4 rfl rfl ?_
  refine f_iload_n C 2 dX8_weight_5 rfl rfl ?_
  refine f_calli C (c_X3_hasFlat hX p1 p2 ⟨by omega, by omega⟩ ⟨by omega, by omega⟩ st) (cwV 2 C.1.2.2.2.2 gX8_weight_X3_hasFlat rfl rfl rfl (by decide +kernel) ⟨Nat.le_of_ble_eq_true rfl, Nat.le_of_ble_eq_true rfl⟩) 1 rfl rfl rfl rfl rfl (Nat.le_of_ble_eq_true rfl) ⟨Nat.zero_le _, Nat.zero_le _⟩ dX8_weight_6 (fun z u hz1 hu => ?_)
  obtain ⟨qz1, hu, rz1⟩ := hu; replace hu := hu.symm; subst hu; subst qz1
  refine f_if_eq C 23 ⟨by omega, by omega⟩ dX8_weight_9 (by decide) (fun c2 => ?_) (fun c2 => ?_)
  · refine f_iconst C dX8_weight_23 ?_
    exact f_zret C hret hlk dX8_weight_24 (by decide) (hp _ _ (by rw [F_X8_weight, if_pos c2]) (by rw [F_X8_weight, if_pos c2]) (by omega))
  refine f_iload_n C 3 dX8_weight_12 rfl rfl ?_
  refine f_if_lt C 23 ⟨by omega, by omega⟩ dX8_weight_13 (by decide) (fun c3 => ?_) (fun c3 => ?_)
  · refine f_iconst C dX8_weight_23 ?_
    exact f_zret C hret hlk dX8_weight_24 (by decide) (hp _ _ (by rw [F_X8_weight, if_neg c2, if_pos c3]) (by rw [F_X8_weight, if_neg c2, if_pos c3]) (by omega))
  refine f_iload_n C 3 dX8_weight_16 rfl rfl ?_
  refine f_sipush C dX8_weight_17 (by decide) ?_
  refine f_icmp_le C 25 ⟨by omega, by omega⟩ ⟨by decide, by decide⟩ dX8_weight_20 (by decide) (fun c4 => ?_) (fun c4 => ?_)
  · refine f_aload_n C 0 dX8_weight_25 rfl rfl ?_
    refine f_get C hin8 0 0 rfl rfl (Nat.le_of_ble_eq_true rfl) (by decide +kernel) rfl rfl dX8_weight_26 ?_
    refine f_iload_n C 1 dX8_weight_29 rfl rfl ?_
    refine f_iload_n C 2 dX8_weight_30 rfl rfl ?_
    refine f_iload_n C 3 dX8_weight_31 rfl rfl ?_
    refine f_callv C (c_X3_setWeight hX p1 p2 p3 ⟨by omega, by omega⟩ ⟨by omega, by omega⟩ ⟨by omega, by omega⟩ st (show (-1000000) ≤ p1 ∧ p1 ≤ 1000000 by omega) (show (-1000000) ≤ p2 ∧ p2 ≤ 1000000 by omega) (show 0 ≤ p3 ∧ p3 ≤ 1000 by omega)) (cwV 3 C.1.2.2.2.2 gX8_weight_X3_setWeight rfl rfl rfl (by decide +kernel) ⟨Nat.le_of_ble_eq_true rfl, Nat.le_of_ble_eq_true rfl⟩) 1 rfl rfl rfl rfl rfl (Nat.le_of_ble_eq_true rfl) ⟨Nat.zero_le _, Nat.zero_le _⟩ dX8_weight_32 (fun u hu => ?_)
    replace hu : rset st 1 (p1 * 6 + p2) p3 = u := hu.symm; subst hu
    refine f_iconst C dX8_weight_35 ?_
    exact f_zret C hret hlk dX8_weight_36 (by decide) (hp _ _ (by rw [F_X8_weight, if_neg c2, if_neg c3, if_pos c4]) (by rw [F_X8_weight, if_neg c2, if_neg c3, if_pos c4]) (by omega))
  refine f_iconst C dX8_weight_23 ?_
  exact f_zret C hret hlk dX8_weight_24 (by decide) (hp _ _ (by rw [F_X8_weight, if_neg c2, if_neg c3, if_neg c4]) (by rw [F_X8_weight, if_neg c2, if_neg c3, if_neg c4]) (by omega))

def F_X8_bill (p1 : Int) (p2 : Int) (p3 : Int) (st : fS) : Int := F_X8_billOf p1 p2 p3 st
abbrev rm_X8_bill : Room := { frames := 5, cells := 0, slots := 0, locals := 140 }
set_option maxRecDepth 100000 in
set_option maxHeartbeats 8000000 in
theorem c_X8_bill {l : Launch} {D : va_G} {cI cJ cZ cB : ClassId} {a : Nat → Nat} {E : State → Prop} (hX : xHyp a E) (p1 : Int) (p2 : Int) (p3 : Int) (h1 : in32 p1) (h2 : in32 p2) (h3 : in64 p3) (st : fS) (hI : xSteps st) : xMl l D cI cJ cZ cB a E yX8_bill wsX8_bill rm_X8_bill [.ref (a 0), .int (zI p1), .int (zI p2), .long (zJ p3)] st (fun z u => z = F_X8_bill p1 p2 p3 st ∧ u = st ∧ (z = -9223372036854775808 ∨ (0 ≤ z ∧ z ≤ 23999976000000))) := by
  refine fB_open (cc := cX8_bill) (maxL := 5) (ret := (some .long)) (by decide) rfl (Nat.le_of_ble_eq_true rfl) hX.2 ?_
  intro p e s m below meth c C hret hlk
  have hp : ∀ z : Int, z = F_X8_bill p1 p2 p3 st → (z = -9223372036854775808 ∨ (0 ≤ z ∧ z ≤ 23999976000000)) → z = F_X8_bill p1 p2 p3 st ∧ st = st ∧ (z = -9223372036854775808 ∨ (0 ≤ z ∧ z ≤ 23999976000000)) := fun z h r1 => ⟨h, rfl, r1⟩
  refine f_aload_n C 0 dX8_bill_0 rfl rfl ?_
  refine f_iload_n C 1 dX8_bill_1 rfl rfl ?_
  refine f_iload_n C 2 dX8_bill_2 rfl rfl ?_
  refine f_lload_n C 3 dX8_bill_3 rfl rfl ?_
  refine f_calll C (c_X8_billOf hX p1 p2 p3 ⟨by omega, by omega⟩ ⟨by omega, by omega⟩ ⟨by omega, by omega⟩ st hI) (cwV 3 C.1.2.2.2.2 gX8_bill_X8_billOf rfl rfl rfl (by decide +kernel) ⟨Nat.le_of_ble_eq_true rfl, Nat.le_of_ble_eq_true rfl⟩) 0 rfl rfl rfl rfl rfl (Nat.le_of_ble_eq_true rfl) ⟨Nat.zero_le _, Nat.zero_le _⟩ dX8_bill_4 (fun z u hz1 hu => ?_)
  obtain ⟨qz1, hu, rz1⟩ := hu; replace hu := hu.symm; subst hu; subst qz1
  exact f_lret C hret hlk dX8_bill_7 ⟨by omega, by omega⟩ (hp _ (by rw [F_X8_bill]) (by omega))

def F_X8_line (p1 : Int) (p2 : Int) (st : fS) : Int := if (F_X2_has p1 st) = 0 then (-1) else (if p2 = 0 then F_X2_factOf p1 st else (if p2 = 1 then F_X2_centsOf p1 st else (if p2 = 2 then F_X2_editionOf p1 st else (if p2 = 3 then F_X2_lackOf p1 st else (-1)))))
abbrev rm_X8_line : Room := { frames := 2, cells := 0, slots := 0, locals := 42 }
set_option maxRecDepth 100000 in
set_option maxHeartbeats 8000000 in
theorem c_X8_line {l : Launch} {D : va_G} {cI cJ cZ cB : ClassId} {a : Nat → Nat} {E : State → Prop} (hX : xHyp a E) (p1 : Int) (p2 : Int) (h1 : in32 p1) (h2 : in32 p2) (st : fS)  : xMl l D cI cJ cZ cB a E yX8_line wsX8_line rm_X8_line [.ref (a 0), .int (zI p1), .int (zI p2)] st (fun z u => z = F_X8_line p1 p2 st ∧ u = st) := by
  refine fB_open (cc := cX8_line) (maxL := 3) (ret := (some .long)) (by decide) rfl (Nat.le_of_ble_eq_true rfl) hX.2 ?_
  intro p e s m below meth c C hret hlk
  have hin8 : ∀ w ∈ u_ws RX8 TX8 8, w ∈ wsX8_line := by decide +kernel
  have hp : ∀ z : Int, z = F_X8_line p1 p2 st → z = F_X8_line p1 p2 st ∧ st = st := fun z h => ⟨h, rfl⟩
  refine f_aload_n C 0 dX8_line_0 rfl rfl ?_
  refine f_get C hin8 0 7 rfl rfl (Nat.le_of_ble_eq_true rfl) (by decide +kernel) rfl rfl dX8_line_1 ?_
  refine f_iload_n C 1 dX8_line_4 rfl rfl ?_
  refine f_calli C (c_X2_has hX p1 ⟨by omega, by omega⟩ st) (cwV 1 C.1.2.2.2.2 gX8_line_X2_has rfl rfl rfl (by decide +kernel) ⟨Nat.le_of_ble_eq_true rfl, Nat.le_of_ble_eq_true rfl⟩) 7 rfl rfl rfl rfl rfl (Nat.le_of_ble_eq_true rfl) ⟨Nat.zero_le _, Nat.zero_le _⟩ dX8_line_5 (fun z u hz1 hu => ?_)
  obtain ⟨qz1, hu, rz1⟩ := hu; replace hu := hu.symm; subst hu; subst qz1
  refine f_if_ne C 15 ⟨by omega, by omega⟩ dX8_line_8 (by decide) (fun c2 => ?_) (fun c2 => ?_)
  · refine f_iload_n C 2 dX8_line_15 rfl rfl ?_
    by_cases c3 : p2 = 0
    · refine f_tabIn C 48 0 c3 ⟨by decide, by decide⟩ (by decide) (by decide) rfl (by decide) dX8_line_16 ?_
      refine f_aload_n C 0 dX8_line_48 rfl rfl ?_
      refine f_get C hin8 0 7 rfl rfl (Nat.le_of_ble_eq_true rfl) (by decide +kernel) rfl rfl dX8_line_49 ?_
      refine f_iload_n C 1 dX8_line_52 rfl rfl ?_
      refine f_calll C (c_X2_factOf hX p1 ⟨by omega, by omega⟩ st) (cwV 1 C.1.2.2.2.2 gX8_line_X2_factOf rfl rfl rfl (by decide +kernel) ⟨Nat.le_of_ble_eq_true rfl, Nat.le_of_ble_eq_true rfl⟩) 7 rfl rfl rfl rfl rfl (Nat.le_of_ble_eq_true rfl) ⟨Nat.zero_le _, Nat.zero_le _⟩ dX8_line_53 (fun z u hz4 hu => ?_)
      obtain ⟨qz4, hu, rz4⟩ := hu; replace hu := hu.symm; subst hu; subst qz4
      exact f_lret C hret hlk dX8_line_56 ⟨by omega, by omega⟩ (hp _ (by rw [F_X8_line, if_neg c2, if_pos c3]))
    by_cases c5 : p2 = 1
    · refine f_tabIn C 57 1 c5 ⟨by decide, by decide⟩ (by decide) (by decide) rfl (by decide) dX8_line_16 ?_
      refine f_aload_n C 0 dX8_line_57 rfl rfl ?_
      refine f_get C hin8 0 7 rfl rfl (Nat.le_of_ble_eq_true rfl) (by decide +kernel) rfl rfl dX8_line_58 ?_
      refine f_iload_n C 1 dX8_line_61 rfl rfl ?_
      refine f_calll C (c_X2_centsOf hX p1 ⟨by omega, by omega⟩ st) (cwV 1 C.1.2.2.2.2 gX8_line_X2_centsOf rfl rfl rfl (by decide +kernel) ⟨Nat.le_of_ble_eq_true rfl, Nat.le_of_ble_eq_true rfl⟩) 7 rfl rfl rfl rfl rfl (Nat.le_of_ble_eq_true rfl) ⟨Nat.zero_le _, Nat.zero_le _⟩ dX8_line_62 (fun z u hz6 hu => ?_)
      obtain ⟨qz6, hu⟩ := hu; replace hu := hu.symm; subst hu; subst qz6
      exact f_lret C hret hlk dX8_line_65 ⟨by omega, by omega⟩ (hp _ (by rw [F_X8_line, if_neg c2, if_neg c3, if_pos c5]))
    by_cases c7 : p2 = 2
    · refine f_tabIn C 66 2 c7 ⟨by decide, by decide⟩ (by decide) (by decide) rfl (by decide) dX8_line_16 ?_
      refine f_aload_n C 0 dX8_line_66 rfl rfl ?_
      refine f_get C hin8 0 7 rfl rfl (Nat.le_of_ble_eq_true rfl) (by decide +kernel) rfl rfl dX8_line_67 ?_
      refine f_iload_n C 1 dX8_line_70 rfl rfl ?_
      refine f_calll C (c_X2_editionOf hX p1 ⟨by omega, by omega⟩ st) (cwV 1 C.1.2.2.2.2 gX8_line_X2_editionOf rfl rfl rfl (by decide +kernel) ⟨Nat.le_of_ble_eq_true rfl, Nat.le_of_ble_eq_true rfl⟩) 7 rfl rfl rfl rfl rfl (Nat.le_of_ble_eq_true rfl) ⟨Nat.zero_le _, Nat.zero_le _⟩ dX8_line_71 (fun z u hz8 hu => ?_)
      obtain ⟨qz8, hu, rz8⟩ := hu; replace hu := hu.symm; subst hu; subst qz8
      exact f_lret C hret hlk dX8_line_74 ⟨by omega, by omega⟩ (hp _ (by rw [F_X8_line, if_neg c2, if_neg c3, if_neg c5, if_pos c7]))
    by_cases c9 : p2 = 3
    · refine f_tabIn C 75 3 c9 ⟨by decide, by decide⟩ (by decide) (by decide) rfl (by decide) dX8_line_16 ?_
      refine f_aload_n C 0 dX8_line_75 rfl rfl ?_
      refine f_get C hin8 0 7 rfl rfl (Nat.le_of_ble_eq_true rfl) (by decide +kernel) rfl rfl dX8_line_76 ?_
      refine f_iload_n C 1 dX8_line_79 rfl rfl ?_
      refine f_calll C (c_X2_lackOf hX p1 ⟨by omega, by omega⟩ st) (cwV 1 C.1.2.2.2.2 gX8_line_X2_lackOf rfl rfl rfl (by decide +kernel) ⟨Nat.le_of_ble_eq_true rfl, Nat.le_of_ble_eq_true rfl⟩) 7 rfl rfl rfl rfl rfl (Nat.le_of_ble_eq_true rfl) ⟨Nat.zero_le _, Nat.zero_le _⟩ dX8_line_80 (fun z u hz10 hu => ?_)
      obtain ⟨qz10, hu, rz10⟩ := hu; replace hu := hu.symm; subst hu; subst qz10
      exact f_lret C hret hlk dX8_line_83 ⟨by omega, by omega⟩ (hp _ (by rw [F_X8_line, if_neg c2, if_neg c3, if_neg c5, if_neg c7, if_pos c9]))
    refine f_tabOut C 84 ⟨by omega, by omega⟩ (by omega) (by decide) dX8_line_16 ?_
    refine f_ldc2 C (v := (-1)) (z := (-1)) (by decide +kernel) (by decide) dX8_line_84 ?_
    exact f_lret C hret hlk dX8_line_87 ⟨by decide, by decide⟩ (hp _ (by rw [F_X8_line, if_neg c2, if_neg c3, if_neg c5, if_neg c7, if_neg c9]))
  refine f_ldc2 C (v := (-1)) (z := (-1)) (by decide +kernel) (by decide) dX8_line_11 ?_
  exact f_lret C hret hlk dX8_line_14 ⟨by decide, by decide⟩ (hp _ (by rw [F_X8_line, if_pos c2]))

def F_X8_open (p1 : Int) (st : fS) : Int := F_X2_openFact p1 st
abbrev rm_X8_open : Room := { frames := 2, cells := 0, slots := 0, locals := 44 }
set_option maxRecDepth 100000 in
set_option maxHeartbeats 8000000 in
theorem c_X8_open {l : Launch} {D : va_G} {cI cJ cZ cB : ClassId} {a : Nat → Nat} {E : State → Prop} (hX : xHyp a E) (p1 : Int) (h1 : in32 p1) (st : fS)  : xMi l D cI cJ cZ cB a E yX8_open wsX8_open rm_X8_open [.ref (a 0), .int (zI p1)] st (fun z u => z = F_X8_open p1 st ∧ u = st) := by
  refine fB_open (cc := cX8_open) (maxL := 2) (ret := (some .int)) (by decide) rfl (Nat.le_of_ble_eq_true rfl) hX.2 ?_
  intro p e s m below meth c C hret hlk
  have hin8 : ∀ w ∈ u_ws RX8 TX8 8, w ∈ wsX8_open := by decide +kernel
  have hp : ∀ z : Int, z = F_X8_open p1 st → z = F_X8_open p1 st ∧ st = st := fun z h => ⟨h, rfl⟩
  refine f_aload_n C 0 dX8_open_0 rfl rfl ?_
  refine f_get C hin8 0 7 rfl rfl (Nat.le_of_ble_eq_true rfl) (by decide +kernel) rfl rfl dX8_open_1 ?_
  refine f_iload_n C 1 dX8_open_4 rfl rfl ?_
  refine f_calli C (c_X2_openFact hX p1 ⟨by omega, by omega⟩ st) (cwV 1 C.1.2.2.2.2 gX8_open_X2_openFact rfl rfl rfl (by decide +kernel) ⟨Nat.le_of_ble_eq_true rfl, Nat.le_of_ble_eq_true rfl⟩) 7 rfl rfl rfl rfl rfl (Nat.le_of_ble_eq_true rfl) ⟨Nat.zero_le _, Nat.zero_le _⟩ dX8_open_5 (fun z u hz1 hu => ?_)
  obtain ⟨qz1, hu⟩ := hu; replace hu := hu.symm; subst hu; subst qz1
  exact f_iret C hret hlk dX8_open_8 ⟨by omega, by omega⟩ (hp _ (by rw [F_X8_open]))

def F_X8_write (p1 : Int) (st : fS) : Int := F_X2_printedByte p1 st
abbrev rm_X8_write : Room := { frames := 2, cells := 0, slots := 0, locals := 42 }
set_option maxRecDepth 100000 in
set_option maxHeartbeats 8000000 in
theorem c_X8_write {l : Launch} {D : va_G} {cI cJ cZ cB : ClassId} {a : Nat → Nat} {E : State → Prop} (hX : xHyp a E) (p1 : Int) (h1 : in32 p1) (st : fS)  : xMi l D cI cJ cZ cB a E yX8_write wsX8_write rm_X8_write [.ref (a 0), .int (zI p1)] st (fun z u => z = F_X8_write p1 st ∧ u = st) := by
  refine fB_open (cc := cX8_write) (maxL := 2) (ret := (some .int)) (by decide) rfl (Nat.le_of_ble_eq_true rfl) hX.2 ?_
  intro p e s m below meth c C hret hlk
  have hin8 : ∀ w ∈ u_ws RX8 TX8 8, w ∈ wsX8_write := by decide +kernel
  have hp : ∀ z : Int, z = F_X8_write p1 st → z = F_X8_write p1 st ∧ st = st := fun z h => ⟨h, rfl⟩
  refine f_aload_n C 0 dX8_write_0 rfl rfl ?_
  refine f_get C hin8 0 7 rfl rfl (Nat.le_of_ble_eq_true rfl) (by decide +kernel) rfl rfl dX8_write_1 ?_
  refine f_iload_n C 1 dX8_write_4 rfl rfl ?_
  refine f_calli C (c_X2_printedByte hX p1 ⟨by omega, by omega⟩ st) (cwV 1 C.1.2.2.2.2 gX8_write_X2_printedByte rfl rfl rfl (by decide +kernel) ⟨Nat.le_of_ble_eq_true rfl, Nat.le_of_ble_eq_true rfl⟩) 7 rfl rfl rfl rfl rfl (Nat.le_of_ble_eq_true rfl) ⟨Nat.zero_le _, Nat.zero_le _⟩ dX8_write_5 (fun z u hz1 hu => ?_)
  obtain ⟨qz1, hu⟩ := hu; replace hu := hu.symm; subst hu; subst qz1
  exact f_iret C hret hlk dX8_write_8 ⟨by omega, by omega⟩ (hp _ (by rw [F_X8_write]))

def F_X8_flat (p1 : Int) (p2 : Int) (p3 : Int) (p5 : Int) (st : fS) : Int := if (F_X3_hasFlat p1 p5 st) = 0 then (-9223372036854775808) else (if (F_X8_billOf p1 p2 p3 st) = (-9223372036854775808) then (-9223372036854775808) else F_X3_shareOf p1 p5 (F_X8_billOf p1 p2 p3 st) st)
abbrev rm_X8_flat : Room := { frames := 5, cells := 0, slots := 0, locals := 140 }
set_option maxRecDepth 100000 in
set_option maxHeartbeats 8000000 in
theorem c_X8_flat {l : Launch} {D : va_G} {cI cJ cZ cB : ClassId} {a : Nat → Nat} {E : State → Prop} (hX : xHyp a E) (p1 : Int) (p2 : Int) (p3 : Int) (p5 : Int) (h1 : in32 p1) (h2 : in32 p2) (h3 : in64 p3) (h5 : in32 p5) (st : fS) (hI : xSteps st) : xMl l D cI cJ cZ cB a E yX8_flat wsX8_flat rm_X8_flat [.ref (a 0), .int (zI p1), .int (zI p2), .long (zJ p3), .int (zI p5)] st (fun z u => z = F_X8_flat p1 p2 p3 p5 st ∧ u = st) := by
  refine fB_open (cc := cX8_flat) (maxL := 8) (ret := (some .long)) (by decide) rfl (Nat.le_of_ble_eq_true rfl) hX.2 ?_
  intro p e s m below meth c C hret hlk
  have hin8 : ∀ w ∈ u_ws RX8 TX8 8, w ∈ wsX8_flat := by decide +kernel
  have hp : ∀ z : Int, z = F_X8_flat p1 p2 p3 p5 st → z = F_X8_flat p1 p2 p3 p5 st ∧ st = st := fun z h => ⟨h, rfl⟩
  refine f_aload_n C 0 dX8_flat_0 rfl rfl ?_
  refine f_get C hin8 0 0 rfl rfl (Nat.le_of_ble_eq_true rfl) (by decide +kernel) rfl rfl dX8_flat_1 ?_
  refine f_iload_n C 1 dX8_flat_4 rfl rfl ?_
  refine f_iload C 5 dX8_flat_5 rfl ?_
  refine f_calli C (c_X3_hasFlat hX p1 p5 ⟨by omega, by omega⟩ ⟨by omega, by omega⟩ st) (cwV 2 C.1.2.2.2.2 gX8_flat_X3_hasFlat rfl rfl rfl (by decide +kernel) ⟨Nat.le_of_ble_eq_true rfl, Nat.le_of_ble_eq_true rfl⟩) 1 rfl rfl rfl rfl rfl (Nat.le_of_ble_eq_true rfl) ⟨Nat.zero_le _, Nat.zero_le _⟩ dX8_flat_7 (fun z u hz1 hu => ?_)
  obtain ⟨qz1, hu, rz1⟩ := hu; replace hu := hu.symm; subst hu; subst qz1
  refine f_if_ne C 17 ⟨by omega, by omega⟩ dX8_flat_10 (by decide) (fun c2 => ?_) (fun c2 => ?_)
  · refine f_aload_n C 0 dX8_flat_17 rfl rfl ?_
    refine f_iload_n C 1 dX8_flat_18 rfl rfl ?_
    refine f_iload_n C 2 dX8_flat_19 rfl rfl ?_
    refine f_lload_n C 3 dX8_flat_20 rfl rfl ?_
    refine f_calll C (c_X8_billOf hX p1 p2 p3 ⟨by omega, by omega⟩ ⟨by omega, by omega⟩ ⟨by omega, by omega⟩ st hI) (cwV 3 C.1.2.2.2.2 gX8_flat_X8_billOf rfl rfl rfl (by decide +kernel) ⟨Nat.le_of_ble_eq_true rfl, Nat.le_of_ble_eq_true rfl⟩) 0 rfl rfl rfl rfl rfl (Nat.le_of_ble_eq_true rfl) ⟨Nat.zero_le _, Nat.zero_le _⟩ dX8_flat_21 (fun z u hz3 hu => ?_)
    obtain ⟨qz3, hu, rz3⟩ := hu; replace hu := hu.symm; subst hu; subst qz3
    refine f_lstore C (lv' := [(6, .long (zJ (F_X8_billOf p1 p2 p3 st))), (0, .ref (a 0)), (1, .int (zI p1)), (2, .int (zI p2)), (3, .long (zJ p3)), (5, .int (zI p5))]) dX8_flat_24 (Nat.le_of_ble_eq_true rfl) rfl ?_
    refine f_lload C 6 dX8_flat_26 rfl ?_
    refine f_ldc2 C (v := (-9223372036854775808)) (z := (-9223372036854775808)) (by decide +kernel) (by decide) dX8_flat_28 ?_
    refine f_lc_if_ne C 39 ⟨by omega, by omega⟩ ⟨by decide, by decide⟩ dX8_flat_31 dX8_flat_32 (by decide) (fun c4 => ?_) (fun c4 => ?_)
    · refine f_aload_n C 0 dX8_flat_39 rfl rfl ?_
      refine f_get C hin8 0 0 rfl rfl (Nat.le_of_ble_eq_true rfl) (by decide +kernel) rfl rfl dX8_flat_40 ?_
      refine f_iload_n C 1 dX8_flat_43 rfl rfl ?_
      refine f_iload C 5 dX8_flat_44 rfl ?_
      refine f_lload C 6 dX8_flat_46 rfl ?_
      refine f_calll C (c_X3_shareOf hX p1 p5 (F_X8_billOf p1 p2 p3 st) ⟨by omega, by omega⟩ ⟨by omega, by omega⟩ ⟨by omega, by omega⟩ st (show (-1000000) ≤ p1 ∧ p1 ≤ 1000000 by omega) (show (-1000000) ≤ p5 ∧ p5 ≤ 1000000 by omega) (show 0 ≤ (F_X8_billOf p1 p2 p3 st) ∧ (F_X8_billOf p1 p2 p3 st) ≤ 100000000000000 by omega)) (cwV 3 C.1.2.2.2.2 gX8_flat_X3_shareOf rfl rfl rfl (by decide +kernel) ⟨Nat.le_of_ble_eq_true rfl, Nat.le_of_ble_eq_true rfl⟩) 1 rfl rfl rfl rfl rfl (Nat.le_of_ble_eq_true rfl) ⟨Nat.zero_le _, Nat.zero_le _⟩ dX8_flat_48 (fun z u hz5 hu => ?_)
      obtain ⟨qz5, hu, rz5⟩ := hu; replace hu := hu.symm; subst hu; subst qz5
      exact f_lret C hret hlk dX8_flat_51 ⟨by omega, by omega⟩ (hp _ (by rw [F_X8_flat, if_neg c2, if_neg c4]))
    refine f_ldc2 C (v := (-9223372036854775808)) (z := (-9223372036854775808)) (by decide +kernel) (by decide) dX8_flat_35 ?_
    exact f_lret C hret hlk dX8_flat_38 ⟨by decide, by decide⟩ (hp _ (by rw [F_X8_flat, if_neg c2, if_pos c4]))
  refine f_ldc2 C (v := (-9223372036854775808)) (z := (-9223372036854775808)) (by decide +kernel) (by decide) dX8_flat_13 ?_
  exact f_lret C hret hlk dX8_flat_16 ⟨by decide, by decide⟩ (hp _ (by rw [F_X8_flat, if_pos c2]))

def F_X8_issue (p1 : Int) (p2 : Int) (p3 : Int) (st : fS) : Int × fS := if (F_X8_billOf p1 p2 p3 st) = (-9223372036854775808) then ((-9223372036854775808), st) else ((F_X8_billOf p1 p2 p3 st) - (F_X3_issuedOf p1 p2 st), rset st 2 (p1 * 120 + p2) (F_X8_billOf p1 p2 p3 st))
abbrev rm_X8_issue : Room := { frames := 5, cells := 0, slots := 0, locals := 140 }
set_option maxRecDepth 100000 in
set_option maxHeartbeats 8000000 in
theorem c_X8_issue {l : Launch} {D : va_G} {cI cJ cZ cB : ClassId} {a : Nat → Nat} {E : State → Prop} (hX : xHyp a E) (p1 : Int) (p2 : Int) (p3 : Int) (h1 : in32 p1) (h2 : in32 p2) (h3 : in64 p3) (st : fS) (hI : xSteps st) : xMl l D cI cJ cZ cB a E yX8_issue wsX8_issue rm_X8_issue [.ref (a 0), .int (zI p1), .int (zI p2), .long (zJ p3)] st (fun z u => z = (F_X8_issue p1 p2 p3 st).1 ∧ u = (F_X8_issue p1 p2 p3 st).2) := by
  refine fB_open (cc := cX8_issue) (maxL := 9) (ret := (some .long)) (by decide) rfl (Nat.le_of_ble_eq_true rfl) hX.2 ?_
  intro p e s m below meth c C hret hlk
  have hin8 : ∀ w ∈ u_ws RX8 TX8 8, w ∈ wsX8_issue := by decide +kernel
  have hp : ∀ (z : Int) (u : fS), z = (F_X8_issue p1 p2 p3 st).1 → u = (F_X8_issue p1 p2 p3 st).2 → z = (F_X8_issue p1 p2 p3 st).1 ∧ u = (F_X8_issue p1 p2 p3 st).2 := fun z u h1 h2 => ⟨h1, h2⟩
  refine f_aload_n C 0 dX8_issue_0 rfl rfl ?_
  refine f_iload_n C 1 dX8_issue_1 rfl rfl ?_
  refine f_iload_n C 2 dX8_issue_2 rfl rfl ?_
  refine f_lload_n C 3 dX8_issue_3 rfl rfl ?_
  refine f_calll C (c_X8_billOf hX p1 p2 p3 ⟨by omega, by omega⟩ ⟨by omega, by omega⟩ ⟨by omega, by omega⟩ st hI) (cwV 3 C.1.2.2.2.2 gX8_issue_X8_billOf rfl rfl rfl (by decide +kernel) ⟨Nat.le_of_ble_eq_true rfl, Nat.le_of_ble_eq_true rfl⟩) 0 rfl rfl rfl rfl rfl (Nat.le_of_ble_eq_true rfl) ⟨Nat.zero_le _, Nat.zero_le _⟩ dX8_issue_4 (fun z u hz1 hu => ?_)
  obtain ⟨qz1, hu, rz1⟩ := hu; replace hu := hu.symm; subst hu; subst qz1
  refine f_lstore C (lv' := [(5, .long (zJ (F_X8_billOf p1 p2 p3 st))), (0, .ref (a 0)), (1, .int (zI p1)), (2, .int (zI p2)), (3, .long (zJ p3))]) dX8_issue_7 (Nat.le_of_ble_eq_true rfl) rfl ?_
  refine f_lload C 5 dX8_issue_9 rfl ?_
  refine f_ldc2 C (v := (-9223372036854775808)) (z := (-9223372036854775808)) (by decide +kernel) (by decide) dX8_issue_11 ?_
  refine f_lc_if_ne C 22 ⟨by omega, by omega⟩ ⟨by decide, by decide⟩ dX8_issue_14 dX8_issue_15 (by decide) (fun c2 => ?_) (fun c2 => ?_)
  · refine f_lload C 5 dX8_issue_22 rfl ?_
    refine f_aload_n C 0 dX8_issue_24 rfl rfl ?_
    refine f_get C hin8 0 0 rfl rfl (Nat.le_of_ble_eq_true rfl) (by decide +kernel) rfl rfl dX8_issue_25 ?_
    refine f_iload_n C 1 dX8_issue_28 rfl rfl ?_
    refine f_iload_n C 2 dX8_issue_29 rfl rfl ?_
    refine f_calll C (c_X3_issuedOf hX p1 p2 ⟨by omega, by omega⟩ ⟨by omega, by omega⟩ st (show (-1000000) ≤ p1 ∧ p1 ≤ 1000000 by omega) (show (-1000000) ≤ p2 ∧ p2 ≤ 1000000 by omega)) (cwV 2 C.1.2.2.2.2 gX8_issue_X3_issuedOf rfl rfl rfl (by decide +kernel) ⟨Nat.le_of_ble_eq_true rfl, Nat.le_of_ble_eq_true rfl⟩) 1 rfl rfl rfl rfl rfl (Nat.le_of_ble_eq_true rfl) ⟨Nat.zero_le _, Nat.zero_le _⟩ dX8_issue_30 (fun z u hz3 hu => ?_)
    obtain ⟨qz3, hu, rz3⟩ := hu; replace hu := hu.symm; subst hu; subst qz3
    refine f_lsub C dX8_issue_33 ?_
    refine f_lstore C (lv' := [(7, .long (zJ ((F_X8_billOf p1 p2 p3 st) - (F_X3_issuedOf p1 p2 st)))), (5, .long (zJ (F_X8_billOf p1 p2 p3 st))), (0, .ref (a 0)), (1, .int (zI p1)), (2, .int (zI p2)), (3, .long (zJ p3))]) dX8_issue_34 (Nat.le_of_ble_eq_true rfl) rfl ?_
    refine f_aload_n C 0 dX8_issue_36 rfl rfl ?_
    refine f_get C hin8 0 0 rfl rfl (Nat.le_of_ble_eq_true rfl) (by decide +kernel) rfl rfl dX8_issue_37 ?_
    refine f_iload_n C 1 dX8_issue_40 rfl rfl ?_
    refine f_iload_n C 2 dX8_issue_41 rfl rfl ?_
    refine f_lload C 5 dX8_issue_42 rfl ?_
    refine f_callv C (c_X3_setIssued hX p1 p2 (F_X8_billOf p1 p2 p3 st) ⟨by omega, by omega⟩ ⟨by omega, by omega⟩ ⟨by omega, by omega⟩ st (show (-1000000) ≤ p1 ∧ p1 ≤ 1000000 by omega) (show (-1000000) ≤ p2 ∧ p2 ≤ 1000000 by omega) (show (-10000000000000000) ≤ (F_X8_billOf p1 p2 p3 st) ∧ (F_X8_billOf p1 p2 p3 st) ≤ 10000000000000000 by omega)) (cwV 3 C.1.2.2.2.2 gX8_issue_X3_setIssued rfl rfl rfl (by decide +kernel) ⟨Nat.le_of_ble_eq_true rfl, Nat.le_of_ble_eq_true rfl⟩) 1 rfl rfl rfl rfl rfl (Nat.le_of_ble_eq_true rfl) ⟨Nat.zero_le _, Nat.zero_le _⟩ dX8_issue_44 (fun u hu => ?_)
    replace hu : rset st 2 (p1 * 120 + p2) (F_X8_billOf p1 p2 p3 st) = u := hu.symm; subst hu
    refine f_lload C 7 dX8_issue_47 rfl ?_
    exact f_lret C hret hlk dX8_issue_49 ⟨by omega, by omega⟩ (hp _ _ (by rw [F_X8_issue, if_neg c2]) (by rw [F_X8_issue, if_neg c2]))
  refine f_ldc2 C (v := (-9223372036854775808)) (z := (-9223372036854775808)) (by decide +kernel) (by decide) dX8_issue_18 ?_
  exact f_lret C hret hlk dX8_issue_21 ⟨by decide, by decide⟩ (hp _ _ (by rw [F_X8_issue, if_pos c2]) (by rw [F_X8_issue, if_pos c2]))

def F_X8_issued (p1 : Int) (p2 : Int) (st : fS) : Int := if (F_X3_has p1 st) = 0 then (-9223372036854775808) else (if (F_X8_isMonth p2 st) = 0 then (-9223372036854775808) else F_X3_issuedOf p1 p2 st)
abbrev rm_X8_issued : Room := { frames := 2, cells := 0, slots := 0, locals := 43 }
set_option maxRecDepth 100000 in
set_option maxHeartbeats 8000000 in
theorem c_X8_issued {l : Launch} {D : va_G} {cI cJ cZ cB : ClassId} {a : Nat → Nat} {E : State → Prop} (hX : xHyp a E) (p1 : Int) (p2 : Int) (h1 : in32 p1) (h2 : in32 p2) (st : fS)  : xMl l D cI cJ cZ cB a E yX8_issued wsX8_issued rm_X8_issued [.ref (a 0), .int (zI p1), .int (zI p2)] st (fun z u => z = F_X8_issued p1 p2 st ∧ u = st) := by
  refine fB_open (cc := cX8_issued) (maxL := 3) (ret := (some .long)) (by decide) rfl (Nat.le_of_ble_eq_true rfl) hX.2 ?_
  intro p e s m below meth c C hret hlk
  have hin8 : ∀ w ∈ u_ws RX8 TX8 8, w ∈ wsX8_issued := by decide +kernel
  have hp : ∀ z : Int, z = F_X8_issued p1 p2 st → z = F_X8_issued p1 p2 st ∧ st = st := fun z h => ⟨h, rfl⟩
  refine f_aload_n C 0 dX8_issued_0 rfl rfl ?_
  refine f_get C hin8 0 0 rfl rfl (Nat.le_of_ble_eq_true rfl) (by decide +kernel) rfl rfl dX8_issued_1 ?_
  refine f_iload_n C 1 dX8_issued_4 rfl rfl ?_
  refine f_calli C (c_X3_has hX p1 ⟨by omega, by omega⟩ st) (cwV 1 C.1.2.2.2.2 gX8_issued_X3_has rfl rfl rfl (by decide +kernel) ⟨Nat.le_of_ble_eq_true rfl, Nat.le_of_ble_eq_true rfl⟩) 1 rfl rfl rfl rfl rfl (Nat.le_of_ble_eq_true rfl) ⟨Nat.zero_le _, Nat.zero_le _⟩ dX8_issued_5 (fun z u hz1 hu => ?_)
  obtain ⟨qz1, hu, rz1⟩ := hu; replace hu := hu.symm; subst hu; subst qz1
  refine f_if_eq C 18 ⟨by omega, by omega⟩ dX8_issued_8 (by decide) (fun c2 => ?_) (fun c2 => ?_)
  · refine f_ldc2 C (v := (-9223372036854775808)) (z := (-9223372036854775808)) (by decide +kernel) (by decide) dX8_issued_18 ?_
    exact f_lret C hret hlk dX8_issued_21 ⟨by decide, by decide⟩ (hp _ (by rw [F_X8_issued, if_pos c2]))
  refine f_iload_n C 2 dX8_issued_11 rfl rfl ?_
  refine f_callsi C (c_X8_isMonth hX p2 ⟨by omega, by omega⟩ st) (va_cwS 1 C.1.2.2.2.2 gX8_issued_X8_isMonth rfl rfl rfl (by decide +kernel) ⟨Nat.le_of_ble_eq_true rfl, Nat.le_of_ble_eq_true rfl⟩) rfl rfl (Nat.le_of_ble_eq_true rfl) ⟨Nat.zero_le _, Nat.zero_le _⟩ dX8_issued_12 (fun z u hz3 hu => ?_)
  obtain ⟨qz3, hu, rz3⟩ := hu; replace hu := hu.symm; subst hu; subst qz3
  refine f_if_ne C 22 ⟨by omega, by omega⟩ dX8_issued_15 (by decide) (fun c4 => ?_) (fun c4 => ?_)
  · refine f_aload_n C 0 dX8_issued_22 rfl rfl ?_
    refine f_get C hin8 0 0 rfl rfl (Nat.le_of_ble_eq_true rfl) (by decide +kernel) rfl rfl dX8_issued_23 ?_
    refine f_iload_n C 1 dX8_issued_26 rfl rfl ?_
    refine f_iload_n C 2 dX8_issued_27 rfl rfl ?_
    refine f_calll C (c_X3_issuedOf hX p1 p2 ⟨by omega, by omega⟩ ⟨by omega, by omega⟩ st (show (-1000000) ≤ p1 ∧ p1 ≤ 1000000 by omega) (show (-1000000) ≤ p2 ∧ p2 ≤ 1000000 by omega)) (cwV 2 C.1.2.2.2.2 gX8_issued_X3_issuedOf rfl rfl rfl (by decide +kernel) ⟨Nat.le_of_ble_eq_true rfl, Nat.le_of_ble_eq_true rfl⟩) 1 rfl rfl rfl rfl rfl (Nat.le_of_ble_eq_true rfl) ⟨Nat.zero_le _, Nat.zero_le _⟩ dX8_issued_28 (fun z u hz5 hu => ?_)
    obtain ⟨qz5, hu, rz5⟩ := hu; replace hu := hu.symm; subst hu; subst qz5
    exact f_lret C hret hlk dX8_issued_31 ⟨by omega, by omega⟩ (hp _ (by rw [F_X8_issued, if_neg c2, if_neg c4]))
  refine f_ldc2 C (v := (-9223372036854775808)) (z := (-9223372036854775808)) (by decide +kernel) (by decide) dX8_issued_18 ?_
  exact f_lret C hret hlk dX8_issued_21 ⟨by decide, by decide⟩ (hp _ (by rw [F_X8_issued, if_neg c2, if_pos c4]))

def F_X8_reverse (p1 : Int) (p2 : Int) (st : fS) : Int × fS := if (F_X3_has p1 st) = 0 then ((-9223372036854775808), st) else (if (F_X8_isMonth p2 st) = 0 then ((-9223372036854775808), st) else (-(F_X3_issuedOf p1 p2 st), rset st 2 (p1 * 120 + p2) 0))
abbrev rm_X8_reverse : Room := { frames := 2, cells := 0, slots := 0, locals := 47 }
set_option maxRecDepth 100000 in
set_option maxHeartbeats 8000000 in
theorem c_X8_reverse {l : Launch} {D : va_G} {cI cJ cZ cB : ClassId} {a : Nat → Nat} {E : State → Prop} (hX : xHyp a E) (p1 : Int) (p2 : Int) (h1 : in32 p1) (h2 : in32 p2) (st : fS)  : xMl l D cI cJ cZ cB a E yX8_reverse wsX8_reverse rm_X8_reverse [.ref (a 0), .int (zI p1), .int (zI p2)] st (fun z u => z = (F_X8_reverse p1 p2 st).1 ∧ u = (F_X8_reverse p1 p2 st).2) := by
  refine fB_open (cc := cX8_reverse) (maxL := 5) (ret := (some .long)) (by decide) rfl (Nat.le_of_ble_eq_true rfl) hX.2 ?_
  intro p e s m below meth c C hret hlk
  have hin8 : ∀ w ∈ u_ws RX8 TX8 8, w ∈ wsX8_reverse := by decide +kernel
  have hp : ∀ (z : Int) (u : fS), z = (F_X8_reverse p1 p2 st).1 → u = (F_X8_reverse p1 p2 st).2 → z = (F_X8_reverse p1 p2 st).1 ∧ u = (F_X8_reverse p1 p2 st).2 := fun z u h1 h2 => ⟨h1, h2⟩
  refine f_aload_n C 0 dX8_reverse_0 rfl rfl ?_
  refine f_get C hin8 0 0 rfl rfl (Nat.le_of_ble_eq_true rfl) (by decide +kernel) rfl rfl dX8_reverse_1 ?_
  refine f_iload_n C 1 dX8_reverse_4 rfl rfl ?_
  refine f_calli C (c_X3_has hX p1 ⟨by omega, by omega⟩ st) (cwV 1 C.1.2.2.2.2 gX8_reverse_X3_has rfl rfl rfl (by decide +kernel) ⟨Nat.le_of_ble_eq_true rfl, Nat.le_of_ble_eq_true rfl⟩) 1 rfl rfl rfl rfl rfl (Nat.le_of_ble_eq_true rfl) ⟨Nat.zero_le _, Nat.zero_le _⟩ dX8_reverse_5 (fun z u hz1 hu => ?_)
  obtain ⟨qz1, hu, rz1⟩ := hu; replace hu := hu.symm; subst hu; subst qz1
  refine f_if_eq C 18 ⟨by omega, by omega⟩ dX8_reverse_8 (by decide) (fun c2 => ?_) (fun c2 => ?_)
  · refine f_ldc2 C (v := (-9223372036854775808)) (z := (-9223372036854775808)) (by decide +kernel) (by decide) dX8_reverse_18 ?_
    exact f_lret C hret hlk dX8_reverse_21 ⟨by decide, by decide⟩ (hp _ _ (by rw [F_X8_reverse, if_pos c2]) (by rw [F_X8_reverse, if_pos c2]))
  refine f_iload_n C 2 dX8_reverse_11 rfl rfl ?_
  refine f_callsi C (c_X8_isMonth hX p2 ⟨by omega, by omega⟩ st) (va_cwS 1 C.1.2.2.2.2 gX8_reverse_X8_isMonth rfl rfl rfl (by decide +kernel) ⟨Nat.le_of_ble_eq_true rfl, Nat.le_of_ble_eq_true rfl⟩) rfl rfl (Nat.le_of_ble_eq_true rfl) ⟨Nat.zero_le _, Nat.zero_le _⟩ dX8_reverse_12 (fun z u hz3 hu => ?_)
  obtain ⟨qz3, hu, rz3⟩ := hu; replace hu := hu.symm; subst hu; subst qz3
  refine f_if_ne C 22 ⟨by omega, by omega⟩ dX8_reverse_15 (by decide) (fun c4 => ?_) (fun c4 => ?_)
  · refine f_aload_n C 0 dX8_reverse_22 rfl rfl ?_
    refine f_get C hin8 0 0 rfl rfl (Nat.le_of_ble_eq_true rfl) (by decide +kernel) rfl rfl dX8_reverse_23 ?_
    refine f_iload_n C 1 dX8_reverse_26 rfl rfl ?_
    refine f_iload_n C 2 dX8_reverse_27 rfl rfl ?_
    refine f_calll C (c_X3_issuedOf hX p1 p2 ⟨by omega, by omega⟩ ⟨by omega, by omega⟩ st (show (-1000000) ≤ p1 ∧ p1 ≤ 1000000 by omega) (show (-1000000) ≤ p2 ∧ p2 ≤ 1000000 by omega)) (cwV 2 C.1.2.2.2.2 gX8_reverse_X3_issuedOf rfl rfl rfl (by decide +kernel) ⟨Nat.le_of_ble_eq_true rfl, Nat.le_of_ble_eq_true rfl⟩) 1 rfl rfl rfl rfl rfl (Nat.le_of_ble_eq_true rfl) ⟨Nat.zero_le _, Nat.zero_le _⟩ dX8_reverse_28 (fun z u hz5 hu => ?_)
    obtain ⟨qz5, hu, rz5⟩ := hu; replace hu := hu.symm; subst hu; subst qz5
    refine f_lstore_n C 3 (lv' := [(3, .long (zJ (F_X3_issuedOf p1 p2 st))), (0, .ref (a 0)), (1, .int (zI p1)), (2, .int (zI p2))]) dX8_reverse_31 rfl (Nat.le_of_ble_eq_true rfl) rfl ?_
    refine f_aload_n C 0 dX8_reverse_32 rfl rfl ?_
    refine f_get C hin8 0 0 rfl rfl (Nat.le_of_ble_eq_true rfl) (by decide +kernel) rfl rfl dX8_reverse_33 ?_
    refine f_iload_n C 1 dX8_reverse_36 rfl rfl ?_
    refine f_iload_n C 2 dX8_reverse_37 rfl rfl ?_
    refine f_lconst C (z := 0) dX8_reverse_38 rfl ?_
    refine f_callv C (c_X3_setIssued hX p1 p2 0 ⟨by omega, by omega⟩ ⟨by omega, by omega⟩ ⟨by decide, by decide⟩ st (show (-1000000) ≤ p1 ∧ p1 ≤ 1000000 by omega) (show (-1000000) ≤ p2 ∧ p2 ≤ 1000000 by omega) (show (-10000000000000000) ≤ (0 : Int) ∧ (0 : Int) ≤ 10000000000000000 by omega)) (cwV 3 C.1.2.2.2.2 gX8_reverse_X3_setIssued rfl rfl rfl (by decide +kernel) ⟨Nat.le_of_ble_eq_true rfl, Nat.le_of_ble_eq_true rfl⟩) 1 rfl rfl rfl rfl rfl (Nat.le_of_ble_eq_true rfl) ⟨Nat.zero_le _, Nat.zero_le _⟩ dX8_reverse_39 (fun u hu => ?_)
    replace hu : rset st 2 (p1 * 120 + p2) 0 = u := hu.symm; subst hu
    refine f_lload_n C 3 dX8_reverse_42 rfl rfl ?_
    refine f_lneg C dX8_reverse_43 ?_
    exact f_lret C hret hlk dX8_reverse_44 ⟨by omega, by omega⟩ (hp _ _ (by rw [F_X8_reverse, if_neg c2, if_neg c4]) (by rw [F_X8_reverse, if_neg c2, if_neg c4]))
  refine f_ldc2 C (v := (-9223372036854775808)) (z := (-9223372036854775808)) (by decide +kernel) (by decide) dX8_reverse_18 ?_
  exact f_lret C hret hlk dX8_reverse_21 ⟨by decide, by decide⟩ (hp _ _ (by rw [F_X8_reverse, if_neg c2, if_pos c4]) (by rw [F_X8_reverse, if_neg c2, if_pos c4]))
