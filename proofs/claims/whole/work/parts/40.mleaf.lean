/-! ===== PART 40: the reference, leaves (laid by program) ===== -/
def F_X9_isDay (p0 : Int) (st : fS) : Int := if p0 < 0 then 0 else (if 3600 ≤ p0 then 0 else 1)
abbrev rm_X9_isDay : Room := { frames := 0, cells := 0, slots := 0, locals := 0 }
set_option maxRecDepth 100000 in
set_option maxHeartbeats 8000000 in
theorem c_X9_isDay {l : Launch} {D : va_G} {cI cJ cZ cB : ClassId} {b : Nat → Nat} {E : State → Prop} (hX : mHyp b E) (p0 : Int) (h0 : in64 p0) (st : fS)  : mMi l D cI cJ cZ cB b E yX9_isDay wsX9_isDay rm_X9_isDay [.long (zJ p0)] st (fun z u => z = F_X9_isDay p0 st ∧ u = st ∧ ((z = 1 ∧ (0 ≤ p0 ∧ p0 < 3600)) ∨ (z = 0 ∧ ¬ (0 ≤ p0 ∧ p0 < 3600)))) := by
  refine fB_open (cc := cX9_isDay) (maxL := 2) (ret := (some .boolean)) (by decide) rfl (Nat.le_of_ble_eq_true rfl) hX.2 ?_
  intro p e s m below meth c C hret hlk
  have hp : ∀ z : Int, z = F_X9_isDay p0 st → ((z = 1 ∧ (0 ≤ p0 ∧ p0 < 3600)) ∨ (z = 0 ∧ ¬ (0 ≤ p0 ∧ p0 < 3600))) → z = F_X9_isDay p0 st ∧ st = st ∧ ((z = 1 ∧ (0 ≤ p0 ∧ p0 < 3600)) ∨ (z = 0 ∧ ¬ (0 ≤ p0 ∧ p0 < 3600))) := fun z h r1 => ⟨h, rfl, r1⟩
  refine f_lload_n C 0 dX9_isDay_0 rfl rfl ?_
  refine f_lconst C (z := 0) dX9_isDay_1 rfl ?_
  refine f_lc_if_lt C 18 ⟨by omega, by omega⟩ ⟨by decide, by decide⟩ dX9_isDay_2 dX9_isDay_3 (by decide) (fun c1 => ?_) (fun c1 => ?_)
  · refine f_iconst C dX9_isDay_18 ?_
    exact f_zret C hret hlk dX9_isDay_19 (by decide) (hp _ (by rw [F_X9_isDay, if_pos c1]) (by omega))
  refine f_lload_n C 0 dX9_isDay_6 rfl rfl ?_
  refine f_ldc2 C (v := 3600) (z := 3600) (by decide +kernel) (by decide) dX9_isDay_7 ?_
  refine f_lc_if_ge C 18 ⟨by omega, by omega⟩ ⟨by decide, by decide⟩ dX9_isDay_10 dX9_isDay_11 (by decide) (fun c2 => ?_) (fun c2 => ?_)
  · refine f_iconst C dX9_isDay_18 ?_
    exact f_zret C hret hlk dX9_isDay_19 (by decide) (hp _ (by rw [F_X9_isDay, if_neg c1, if_pos c2]) (by omega))
  refine f_iconst C dX9_isDay_14 ?_
  refine f_goto C 19 dX9_isDay_15 (by decide) ?_
  exact f_zret C hret hlk dX9_isDay_19 (by decide) (hp _ (by rw [F_X9_isDay, if_neg c1, if_neg c2]) (by omega))

def F_X9_isKind (p0 : Int) (st : fS) : Int := if p0 < 0 then 0 else (if 6 ≤ p0 then 0 else 1)
abbrev rm_X9_isKind : Room := { frames := 0, cells := 0, slots := 0, locals := 0 }
set_option maxRecDepth 100000 in
set_option maxHeartbeats 8000000 in
theorem c_X9_isKind {l : Launch} {D : va_G} {cI cJ cZ cB : ClassId} {b : Nat → Nat} {E : State → Prop} (hX : mHyp b E) (p0 : Int) (h0 : in32 p0) (st : fS)  : mMi l D cI cJ cZ cB b E yX9_isKind wsX9_isKind rm_X9_isKind [.int (zI p0)] st (fun z u => z = F_X9_isKind p0 st ∧ u = st ∧ ((z = 1 ∧ (0 ≤ p0 ∧ p0 < 6)) ∨ (z = 0 ∧ ¬ (0 ≤ p0 ∧ p0 < 6)))) := by
  refine fB_open (cc := cX9_isKind) (maxL := 1) (ret := (some .boolean)) (by decide) rfl (Nat.le_of_ble_eq_true rfl) hX.2 ?_
  intro p e s m below meth c C hret hlk
  have hp : ∀ z : Int, z = F_X9_isKind p0 st → ((z = 1 ∧ (0 ≤ p0 ∧ p0 < 6)) ∨ (z = 0 ∧ ¬ (0 ≤ p0 ∧ p0 < 6))) → z = F_X9_isKind p0 st ∧ st = st ∧ ((z = 1 ∧ (0 ≤ p0 ∧ p0 < 6)) ∨ (z = 0 ∧ ¬ (0 ≤ p0 ∧ p0 < 6))) := fun z h r1 => ⟨h, rfl, r1⟩
  refine f_iload_n C 0 dX9_isKind_0 rfl rfl ?_
  refine f_if_lt C 14 ⟨by omega, by omega⟩ dX9_isKind_1 (by decide) (fun c1 => ?_) (fun c1 => ?_)
  · refine f_iconst C dX9_isKind_14 ?_
    exact f_zret C hret hlk dX9_isKind_15 (by decide) (hp _ (by rw [F_X9_isKind, if_pos c1]) (by omega))
  refine f_iload_n C 0 dX9_isKind_4 rfl rfl ?_
  refine f_bipush C dX9_isKind_5 (by decide) ?_
  refine f_icmp_ge C 14 ⟨by omega, by omega⟩ ⟨by decide, by decide⟩ dX9_isKind_7 (by decide) (fun c2 => ?_) (fun c2 => ?_)
  · refine f_iconst C dX9_isKind_14 ?_
    exact f_zret C hret hlk dX9_isKind_15 (by decide) (hp _ (by rw [F_X9_isKind, if_neg c1, if_pos c2]) (by omega))
  refine f_iconst C dX9_isKind_10 ?_
  refine f_goto C 15 dX9_isKind_11 (by decide) ?_
  exact f_zret C hret hlk dX9_isKind_15 (by decide) (hp _ (by rw [F_X9_isKind, if_neg c1, if_neg c2]) (by omega))

def F_X9_isMonth (p0 : Int) (st : fS) : Int := if p0 < 0 then 0 else (if 120 ≤ p0 then 0 else 1)
abbrev rm_X9_isMonth : Room := { frames := 0, cells := 0, slots := 0, locals := 0 }
set_option maxRecDepth 100000 in
set_option maxHeartbeats 8000000 in
theorem c_X9_isMonth {l : Launch} {D : va_G} {cI cJ cZ cB : ClassId} {b : Nat → Nat} {E : State → Prop} (hX : mHyp b E) (p0 : Int) (h0 : in32 p0) (st : fS)  : mMi l D cI cJ cZ cB b E yX9_isMonth wsX9_isMonth rm_X9_isMonth [.int (zI p0)] st (fun z u => z = F_X9_isMonth p0 st ∧ u = st ∧ ((z = 1 ∧ (0 ≤ p0 ∧ p0 < 120)) ∨ (z = 0 ∧ ¬ (0 ≤ p0 ∧ p0 < 120)))) := by
  refine fB_open (cc := cX9_isMonth) (maxL := 1) (ret := (some .boolean)) (by decide) rfl (Nat.le_of_ble_eq_true rfl) hX.2 ?_
  intro p e s m below meth c C hret hlk
  have hp : ∀ z : Int, z = F_X9_isMonth p0 st → ((z = 1 ∧ (0 ≤ p0 ∧ p0 < 120)) ∨ (z = 0 ∧ ¬ (0 ≤ p0 ∧ p0 < 120))) → z = F_X9_isMonth p0 st ∧ st = st ∧ ((z = 1 ∧ (0 ≤ p0 ∧ p0 < 120)) ∨ (z = 0 ∧ ¬ (0 ≤ p0 ∧ p0 < 120))) := fun z h r1 => ⟨h, rfl, r1⟩
  refine f_iload_n C 0 dX9_isMonth_0 rfl rfl ?_
  refine f_if_lt C 14 ⟨by omega, by omega⟩ dX9_isMonth_1 (by decide) (fun c1 => ?_) (fun c1 => ?_)
  · refine f_iconst C dX9_isMonth_14 ?_
    exact f_zret C hret hlk dX9_isMonth_15 (by decide) (hp _ (by rw [F_X9_isMonth, if_pos c1]) (by omega))
  refine f_iload_n C 0 dX9_isMonth_4 rfl rfl ?_
  refine f_bipush C dX9_isMonth_5 (by decide) ?_
  refine f_icmp_ge C 14 ⟨by omega, by omega⟩ ⟨by decide, by decide⟩ dX9_isMonth_7 (by decide) (fun c2 => ?_) (fun c2 => ?_)
  · refine f_iconst C dX9_isMonth_14 ?_
    exact f_zret C hret hlk dX9_isMonth_15 (by decide) (hp _ (by rw [F_X9_isMonth, if_neg c1, if_pos c2]) (by omega))
  refine f_iconst C dX9_isMonth_10 ?_
  refine f_goto C 15 dX9_isMonth_11 (by decide) ?_
  exact f_zret C hret hlk dX9_isMonth_15 (by decide) (hp _ (by rw [F_X9_isMonth, if_neg c1, if_neg c2]) (by omega))

def F_X9_isHouse (p1 : Int) (st : fS) : Int := if p1 < 0 then 0 else (if (st.1 0) ≤ p1 then 0 else 1)
abbrev rm_X9_isHouse : Room := { frames := 0, cells := 0, slots := 0, locals := 0 }
set_option maxRecDepth 100000 in
set_option maxHeartbeats 8000000 in
theorem c_X9_isHouse {l : Launch} {D : va_G} {cI cJ cZ cB : ClassId} {b : Nat → Nat} {E : State → Prop} (hX : mHyp b E) (p1 : Int) (h1 : in32 p1) (st : fS)  : mMi l D cI cJ cZ cB b E yX9_isHouse wsX9_isHouse rm_X9_isHouse [.ref (b 0), .int (zI p1)] st (fun z u => z = F_X9_isHouse p1 st ∧ u = st ∧ (((z = 1 ∧ (0 ≤ p1 ∧ p1 < st.1 0)) ∨ (z = 0 ∧ ¬ (0 ≤ p1 ∧ p1 < st.1 0))) ∧ 0 ≤ st.1 0 ∧ st.1 0 ≤ 4)) := by
  refine fB_open (cc := cX9_isHouse) (maxL := 2) (ret := (some .boolean)) (by decide) rfl (Nat.le_of_ble_eq_true rfl) hX.2 ?_
  intro p e s m below meth c C hret hlk
  have hin9 : ∀ w ∈ u_ws RX9 TX9 43, w ∈ wsX9_isHouse := by decide +kernel
  have hp : ∀ z : Int, z = F_X9_isHouse p1 st → (((z = 1 ∧ (0 ≤ p1 ∧ p1 < st.1 0)) ∨ (z = 0 ∧ ¬ (0 ≤ p1 ∧ p1 < st.1 0))) ∧ 0 ≤ st.1 0 ∧ st.1 0 ≤ 4) → z = F_X9_isHouse p1 st ∧ st = st ∧ (((z = 1 ∧ (0 ≤ p1 ∧ p1 < st.1 0)) ∨ (z = 0 ∧ ¬ (0 ≤ p1 ∧ p1 < st.1 0))) ∧ 0 ≤ st.1 0 ∧ st.1 0 ≤ 4) := fun z h r1 => ⟨h, rfl, r1⟩
  refine f_iload_n C 1 dX9_isHouse_0 rfl rfl ?_
  refine f_if_lt C 16 ⟨by omega, by omega⟩ dX9_isHouse_1 (by decide) (fun c1 => ?_) (fun c1 => ?_)
  · refine f_iconst C dX9_isHouse_16 ?_
    refine f_ok (fun hZ => ?_)
    have ky : 0 ≤ st.1 0 ∧ st.1 0 ≤ 4 := hZ.1 0
    exact f_zret C hret hlk dX9_isHouse_17 (by decide) (hp _ (by rw [F_X9_isHouse, if_pos c1]) (by omega))
  refine f_iload_n C 1 dX9_isHouse_4 rfl rfl ?_
  refine f_aload_n C 0 dX9_isHouse_5 rfl rfl ?_
  refine f_ok (fun hO2 => ?_)
  have k3 : 0 ≤ st.1 0 ∧ st.1 0 ≤ 4 := hO2.1 0
  refine f_get C (v := .int (zI (st.1 0))) hin9 0 0 rfl rfl (Nat.le_of_ble_eq_true rfl) (by decide +kernel) rfl rfl dX9_isHouse_6 ?_
  refine f_icmp_ge C 16 ⟨by omega, by omega⟩ ⟨by omega, by omega⟩ dX9_isHouse_9 (by decide) (fun c4 => ?_) (fun c4 => ?_)
  · refine f_iconst C dX9_isHouse_16 ?_
    refine f_ok (fun hZ => ?_)
    have ky : 0 ≤ st.1 0 ∧ st.1 0 ≤ 4 := hZ.1 0
    exact f_zret C hret hlk dX9_isHouse_17 (by decide) (hp _ (by rw [F_X9_isHouse, if_neg c1, if_pos c4]) (by omega))
  refine f_iconst C dX9_isHouse_12 ?_
  refine f_goto C 17 dX9_isHouse_13 (by decide) ?_
  refine f_ok (fun hZ => ?_)
  have ky : 0 ≤ st.1 0 ∧ st.1 0 ≤ 4 := hZ.1 0
  exact f_zret C hret hlk dX9_isHouse_17 (by decide) (hp _ (by rw [F_X9_isHouse, if_neg c1, if_neg c4]) (by omega))

def F_X9_isFlat (p1 p2 : Int) (st : fS) : Int := if (F_X9_isHouse p1 st) = 0 then 0 else (if p2 < 0 then 0 else (if (st.2 1 p1) ≤ p2 then 0 else 1))
abbrev rm_X9_isFlat : Room := { frames := 1, cells := 0, slots := 0, locals := 21 }
set_option maxRecDepth 100000 in
set_option maxHeartbeats 8000000 in
theorem c_X9_isFlat {l : Launch} {D : va_G} {cI cJ cZ cB : ClassId} {b : Nat → Nat} {E : State → Prop} (hX : mHyp b E) (p1 p2 : Int) (h1 : in32 p1) (h2 : in32 p2) (st : fS)  : mMi l D cI cJ cZ cB b E yX9_isFlat wsX9_isFlat rm_X9_isFlat [.ref (b 0), .int (zI p1), .int (zI p2)] st (fun z u => z = F_X9_isFlat p1 p2 st ∧ u = st ∧ (((z = 1 ∧ ((0 ≤ p1 ∧ p1 < st.1 0) ∧ (0 ≤ p2 ∧ p2 < st.2 1 p1))) ∨ (z = 0 ∧ ¬ ((0 ≤ p1 ∧ p1 < st.1 0) ∧ (0 ≤ p2 ∧ p2 < st.2 1 p1)))) ∧ (0 ≤ st.1 0 ∧ st.1 0 ≤ 4) ∧ st.2 1 p1 ≤ 6)) := by
  refine fB_open (cc := cX9_isFlat) (maxL := 3) (ret := (some .boolean)) (by decide) rfl (Nat.le_of_ble_eq_true rfl) hX.2 ?_
  intro p e s m below meth c C hret hlk
  have hin9 : ∀ w ∈ u_ws RX9 TX9 43, w ∈ wsX9_isFlat := by decide +kernel
  have hp : ∀ z : Int, z = F_X9_isFlat p1 p2 st → (((z = 1 ∧ ((0 ≤ p1 ∧ p1 < st.1 0) ∧ (0 ≤ p2 ∧ p2 < st.2 1 p1))) ∨ (z = 0 ∧ ¬ ((0 ≤ p1 ∧ p1 < st.1 0) ∧ (0 ≤ p2 ∧ p2 < st.2 1 p1)))) ∧ (0 ≤ st.1 0 ∧ st.1 0 ≤ 4) ∧ st.2 1 p1 ≤ 6) → z = F_X9_isFlat p1 p2 st ∧ st = st ∧ (((z = 1 ∧ ((0 ≤ p1 ∧ p1 < st.1 0) ∧ (0 ≤ p2 ∧ p2 < st.2 1 p1))) ∨ (z = 0 ∧ ¬ ((0 ≤ p1 ∧ p1 < st.1 0) ∧ (0 ≤ p2 ∧ p2 < st.2 1 p1)))) ∧ (0 ≤ st.1 0 ∧ st.1 0 ≤ 4) ∧ st.2 1 p1 ≤ 6) := fun z h r1 => ⟨h, rfl, r1⟩
  refine f_aload_n C 0 dX9_isFlat_0 rfl rfl ?_
  refine f_iload_n C 1 dX9_isFlat_1 rfl rfl ?_
  refine f_calli C (c_X9_isHouse hX p1 ⟨by omega, by omega⟩ st) (cwV 1 C.1.2.2.2.2 gX9_isFlat_X9_isHouse rfl rfl rfl (by decide +kernel) ⟨Nat.le_of_ble_eq_true rfl, Nat.le_of_ble_eq_true rfl⟩) 0 rfl rfl rfl rfl rfl (Nat.le_of_ble_eq_true rfl) ⟨Nat.zero_le _, Nat.zero_le _⟩ dX9_isFlat_2 (fun z u hz1 hu => ?_)
  obtain ⟨qz1, hu, rz1⟩ := hu; replace hu := hu.symm; subst hu; subst qz1
  refine f_if_eq C 26 ⟨by omega, by omega⟩ dX9_isFlat_5 (by decide) (fun c2 => ?_) (fun c2 => ?_)
  · refine f_iconst C dX9_isFlat_26 ?_
    refine f_ok (fun hZ => ?_)
    have kz : 0 ≤ st.2 1 p1 ∧ st.2 1 p1 ≤ 6 := hZ.2 1 p1
    exact f_zret C hret hlk dX9_isFlat_27 (by decide) (hp _ (by rw [F_X9_isFlat, if_pos c2]) (by omega))
  refine f_iload_n C 2 dX9_isFlat_8 rfl rfl ?_
  refine f_if_lt C 26 ⟨by omega, by omega⟩ dX9_isFlat_9 (by decide) (fun c3 => ?_) (fun c3 => ?_)
  · refine f_iconst C dX9_isFlat_26 ?_
    refine f_ok (fun hZ => ?_)
    have kz : 0 ≤ st.2 1 p1 ∧ st.2 1 p1 ≤ 6 := hZ.2 1 p1
    exact f_zret C hret hlk dX9_isFlat_27 (by decide) (hp _ (by rw [F_X9_isFlat, if_neg c2, if_pos c3]) (by omega))
  refine f_iload_n C 2 dX9_isFlat_12 rfl rfl ?_
  refine f_aload_n C 0 dX9_isFlat_13 rfl rfl ?_
  refine f_get C hin9 0 1 rfl rfl (Nat.le_of_ble_eq_true rfl) (by decide +kernel) rfl rfl dX9_isFlat_14 ?_
  refine f_iload_n C 1 dX9_isFlat_17 rfl rfl ?_
  refine f_iald C (f := st.2 1) 1 0 rfl rfl ⟨by omega, by omega⟩ (Nat.le_of_ble_eq_true rfl) dX9_isFlat_18 ?_
  refine f_ok (fun hO4 => ?_)
  have k5 : 0 ≤ st.2 1 p1 ∧ st.2 1 p1 ≤ 6 := hO4.2 1 p1
  refine f_icmp_ge C 26 ⟨by omega, by omega⟩ ⟨by omega, by omega⟩ dX9_isFlat_19 (by decide) (fun c6 => ?_) (fun c6 => ?_)
  · refine f_iconst C dX9_isFlat_26 ?_
    refine f_ok (fun hZ => ?_)
    have kz : 0 ≤ st.2 1 p1 ∧ st.2 1 p1 ≤ 6 := hZ.2 1 p1
    exact f_zret C hret hlk dX9_isFlat_27 (by decide) (hp _ (by rw [F_X9_isFlat, if_neg c2, if_neg c3, if_pos c6]) (by omega))
  refine f_iconst C dX9_isFlat_22 ?_
  refine f_goto C 27 dX9_isFlat_23 (by decide) ?_
  refine f_ok (fun hZ => ?_)
  have kz : 0 ≤ st.2 1 p1 ∧ st.2 1 p1 ≤ 6 := hZ.2 1 p1
  exact f_zret C hret hlk dX9_isFlat_27 (by decide) (hp _ (by rw [F_X9_isFlat, if_neg c2, if_neg c3, if_neg c6]) (by omega))

def F_X9_isAsked (p1 p2 p3 : Int) (st : fS) : Int := if (F_X9_isHouse p1 st) = 0 then 0 else (if (F_X9_isMonth p2 st) = 0 then 0 else (if (F_X9_isDay p3 st) = 0 then 0 else 1))
abbrev rm_X9_isAsked : Room := { frames := 1, cells := 0, slots := 0, locals := 21 }
set_option maxRecDepth 100000 in
set_option maxHeartbeats 8000000 in
theorem c_X9_isAsked {l : Launch} {D : va_G} {cI cJ cZ cB : ClassId} {b : Nat → Nat} {E : State → Prop} (hX : mHyp b E) (p1 p2 p3 : Int) (h1 : in32 p1) (h2 : in32 p2) (h3 : in64 p3) (st : fS)  : mMi l D cI cJ cZ cB b E yX9_isAsked wsX9_isAsked rm_X9_isAsked [.ref (b 0), .int (zI p1), .int (zI p2), .long (zJ p3)] st (fun z u => z = F_X9_isAsked p1 p2 p3 st ∧ u = st ∧ ((z = 1 ∧ ((0 ≤ p1 ∧ p1 < st.1 0 ∧ st.1 0 ≤ 4) ∧ (0 ≤ p2 ∧ p2 < 120) ∧ (0 ≤ p3 ∧ p3 < 3600))) ∨ (z = 0 ∧ ¬ ((0 ≤ p1 ∧ p1 < st.1 0 ∧ st.1 0 ≤ 4) ∧ (0 ≤ p2 ∧ p2 < 120) ∧ (0 ≤ p3 ∧ p3 < 3600))))) := by
  refine fB_open (cc := cX9_isAsked) (maxL := 5) (ret := (some .boolean)) (by decide) rfl (Nat.le_of_ble_eq_true rfl) hX.2 ?_
  intro p e s m below meth c C hret hlk
  have hp : ∀ z : Int, z = F_X9_isAsked p1 p2 p3 st → ((z = 1 ∧ ((0 ≤ p1 ∧ p1 < st.1 0 ∧ st.1 0 ≤ 4) ∧ (0 ≤ p2 ∧ p2 < 120) ∧ (0 ≤ p3 ∧ p3 < 3600))) ∨ (z = 0 ∧ ¬ ((0 ≤ p1 ∧ p1 < st.1 0 ∧ st.1 0 ≤ 4) ∧ (0 ≤ p2 ∧ p2 < 120) ∧ (0 ≤ p3 ∧ p3 < 3600)))) → z = F_X9_isAsked p1 p2 p3 st ∧ st = st ∧ ((z = 1 ∧ ((0 ≤ p1 ∧ p1 < st.1 0 ∧ st.1 0 ≤ 4) ∧ (0 ≤ p2 ∧ p2 < 120) ∧ (0 ≤ p3 ∧ p3 < 3600))) ∨ (z = 0 ∧ ¬ ((0 ≤ p1 ∧ p1 < st.1 0 ∧ st.1 0 ≤ 4) ∧ (0 ≤ p2 ∧ p2 < 120) ∧ (0 ≤ p3 ∧ p3 < 3600)))) := fun z h r1 => ⟨h, rfl, r1⟩
  refine f_aload_n C 0 dX9_isAsked_0 rfl rfl ?_
  refine f_iload_n C 1 dX9_isAsked_1 rfl rfl ?_
  refine f_calli C (c_X9_isHouse hX p1 ⟨by omega, by omega⟩ st) (cwV 1 C.1.2.2.2.2 gX9_isAsked_X9_isHouse rfl rfl rfl (by decide +kernel) ⟨Nat.le_of_ble_eq_true rfl, Nat.le_of_ble_eq_true rfl⟩) 0 rfl rfl rfl rfl rfl (Nat.le_of_ble_eq_true rfl) ⟨Nat.zero_le _, Nat.zero_le _⟩ dX9_isAsked_2 (fun z u hz1 hu => ?_)
  obtain ⟨qz1, hu, rz1⟩ := hu; replace hu := hu.symm; subst hu; subst qz1
  refine f_if_eq C 26 ⟨by omega, by omega⟩ dX9_isAsked_5 (by decide) (fun c2 => ?_) (fun c2 => ?_)
  · refine f_iconst C dX9_isAsked_26 ?_
    exact f_zret C hret hlk dX9_isAsked_27 (by decide) (hp _ (by rw [F_X9_isAsked, if_pos c2]) (by omega))
  refine f_iload_n C 2 dX9_isAsked_8 rfl rfl ?_
  refine f_callsi C (c_X9_isMonth hX p2 ⟨by omega, by omega⟩ st) (va_cwS 1 C.1.2.2.2.2 gX9_isAsked_X9_isMonth rfl rfl rfl (by decide +kernel) ⟨Nat.le_of_ble_eq_true rfl, Nat.le_of_ble_eq_true rfl⟩) rfl rfl (Nat.le_of_ble_eq_true rfl) ⟨Nat.zero_le _, Nat.zero_le _⟩ dX9_isAsked_9 (fun z u hz3 hu => ?_)
  obtain ⟨qz3, hu, rz3⟩ := hu; replace hu := hu.symm; subst hu; subst qz3
  refine f_if_eq C 26 ⟨by omega, by omega⟩ dX9_isAsked_12 (by decide) (fun c4 => ?_) (fun c4 => ?_)
  · refine f_iconst C dX9_isAsked_26 ?_
    exact f_zret C hret hlk dX9_isAsked_27 (by decide) (hp _ (by rw [F_X9_isAsked, if_neg c2, if_pos c4]) (by omega))
  refine f_lload_n C 3 dX9_isAsked_15 rfl rfl ?_
  refine f_callsi C (c_X9_isDay hX p3 ⟨by omega, by omega⟩ st) (va_cwS 1 C.1.2.2.2.2 gX9_isAsked_X9_isDay rfl rfl rfl (by decide +kernel) ⟨Nat.le_of_ble_eq_true rfl, Nat.le_of_ble_eq_true rfl⟩) rfl rfl (Nat.le_of_ble_eq_true rfl) ⟨Nat.zero_le _, Nat.zero_le _⟩ dX9_isAsked_16 (fun z u hz5 hu => ?_)
  obtain ⟨qz5, hu, rz5⟩ := hu; replace hu := hu.symm; subst hu; subst qz5
  refine f_if_eq C 26 ⟨by omega, by omega⟩ dX9_isAsked_19 (by decide) (fun c6 => ?_) (fun c6 => ?_)
  · refine f_iconst C dX9_isAsked_26 ?_
    exact f_zret C hret hlk dX9_isAsked_27 (by decide) (hp _ (by rw [F_X9_isAsked, if_neg c2, if_neg c4, if_pos c6]) (by omega))
  refine f_iconst C dX9_isAsked_22 ?_
  refine f_goto C 27 dX9_isAsked_23 (by decide) ?_
  exact f_zret C hret hlk dX9_isAsked_27 (by decide) (hp _ (by rw [F_X9_isAsked, if_neg c2, if_neg c4, if_neg c6]) (by omega))

def F_X9_house (p1 : Int) (st : fS) : Int × fS := if (st.1 0) = 4 then ((-1), st) else (if p1 < 1 then ((-1), st) else (if p1 ≤ 6 then (((st.1 0) + 1) - 1, sN (sR st 1 (f_up (st.2 1) (st.1 0) p1)) 0 ((st.1 0) + 1)) else ((-1), st)))
abbrev rm_X9_house : Room := { frames := 0, cells := 0, slots := 0, locals := 0 }
set_option maxRecDepth 100000 in
set_option maxHeartbeats 8000000 in
theorem c_X9_house {l : Launch} {D : va_G} {cI cJ cZ cB : ClassId} {b : Nat → Nat} {E : State → Prop} (hX : mHyp b E) (p1 : Int) (h1 : in32 p1) (st : fS)  : mMi l D cI cJ cZ cB b E yX9_house wsX9_house rm_X9_house [.ref (b 0), .int (zI p1)] st (fun z u => z = (F_X9_house p1 st).1 ∧ u = (F_X9_house p1 st).2) := by
  refine fB_open (cc := cX9_house) (maxL := 2) (ret := (some .int)) (by decide) rfl (Nat.le_of_ble_eq_true rfl) hX.2 ?_
  intro p e s m below meth c C hret hlk
  have hin9 : ∀ w ∈ u_ws RX9 TX9 43, w ∈ wsX9_house := by decide +kernel
  have hp : ∀ (z : Int) (u : fS), z = (F_X9_house p1 st).1 → u = (F_X9_house p1 st).2 → z = (F_X9_house p1 st).1 ∧ u = (F_X9_house p1 st).2 := fun z u h1 h2 => ⟨h1, h2⟩
  refine f_aload_n C 0 dX9_house_0 rfl rfl ?_
  refine f_ok (fun hO1 => ?_)
  have k2 : 0 ≤ st.1 0 ∧ st.1 0 ≤ 4 := hO1.1 0
  refine f_get C (v := .int (zI (st.1 0))) hin9 0 0 rfl rfl (Nat.le_of_ble_eq_true rfl) (by decide +kernel) rfl rfl dX9_house_1 ?_
  refine f_iconst C dX9_house_4 ?_
  refine f_icmp_eq C 19 ⟨by omega, by omega⟩ ⟨by decide, by decide⟩ dX9_house_5 (by decide) (fun c3 => ?_) (fun c3 => ?_)
  · refine f_iconst C dX9_house_19 ?_
    exact f_iret C hret hlk dX9_house_20 ⟨by decide, by decide⟩ (hp _ _ (by rw [F_X9_house, if_pos c3]) (by rw [F_X9_house, if_pos c3]))
  refine f_iload_n C 1 dX9_house_8 rfl rfl ?_
  refine f_iconst C dX9_house_9 ?_
  refine f_icmp_lt C 19 ⟨by omega, by omega⟩ ⟨by decide, by decide⟩ dX9_house_10 (by decide) (fun c4 => ?_) (fun c4 => ?_)
  · refine f_iconst C dX9_house_19 ?_
    exact f_iret C hret hlk dX9_house_20 ⟨by decide, by decide⟩ (hp _ _ (by rw [F_X9_house, if_neg c3, if_pos c4]) (by rw [F_X9_house, if_neg c3, if_pos c4]))
  refine f_iload_n C 1 dX9_house_13 rfl rfl ?_
  refine f_bipush C dX9_house_14 (by decide) ?_
  refine f_icmp_le C 21 ⟨by omega, by omega⟩ ⟨by decide, by decide⟩ dX9_house_16 (by decide) (fun c5 => ?_) (fun c5 => ?_)
  · refine f_aload_n C 0 dX9_house_21 rfl rfl ?_
    refine f_get C hin9 0 1 rfl rfl (Nat.le_of_ble_eq_true rfl) (by decide +kernel) rfl rfl dX9_house_22 ?_
    refine f_aload_n C 0 dX9_house_25 rfl rfl ?_
    refine f_get C (v := .int (zI (st.1 0))) hin9 0 0 rfl rfl (Nat.le_of_ble_eq_true rfl) (by decide +kernel) rfl rfl dX9_house_26 ?_
    refine f_iload_n C 1 dX9_house_29 rfl rfl ?_
    refine f_iast C (mD hX.1 cI cJ cZ cB) (u := sR st 1 (f_up (st.2 1) (st.1 0) p1)) (f := st.2 1) 1 0 rfl rfl ⟨by omega, by omega⟩ (Nat.le_of_ble_eq_true rfl) rfl (fun h => fOk_up h (r := 1) (show 0 ≤ p1 ∧ p1 ≤ 6 by omega)) dX9_house_30 ?_
    refine f_aload_n C 0 dX9_house_31 rfl rfl ?_
    refine f_dup C dX9_house_32 rfl ?_
    refine f_ok (fun hO6 => ?_)
    have k7 : 0 ≤ st.1 0 ∧ st.1 0 ≤ 4 := hO6.1 0
    refine f_get C (v := .int (zI (st.1 0))) hin9 0 0 rfl rfl (Nat.le_of_ble_eq_true rfl) (by decide +kernel) rfl rfl dX9_house_33 ?_
    refine f_iconst C dX9_house_36 ?_
    refine f_iadd C dX9_house_37 ?_
    refine f_put C (mD hX.1 cI cJ cZ cB) hin9 tyX9 tyX9_ok nmX9 0 0 rfl rfl (Nat.le_of_ble_eq_true rfl) (by decide +kernel) rfl rfl (ty := .int) (by decide +kernel) rfl rfl (Nat.le_of_ble_eq_true rfl) (u := sN (sR st 1 (f_up (st.2 1) (st.1 0) p1)) 0 ((st.1 0) + 1)) rfl (fun h => fOk_N h (show 0 ≤ ((st.1 0) + 1) ∧ ((st.1 0) + 1) ≤ 4 by omega)) dX9_house_38 ?_
    refine f_aload_n C 0 dX9_house_41 rfl rfl ?_
    refine f_get C (v := .int (zI ((st.1 0) + 1))) hin9 0 0 rfl rfl (Nat.le_of_ble_eq_true rfl) (by decide +kernel) rfl rfl dX9_house_42 ?_
    refine f_iconst C dX9_house_45 ?_
    refine f_isub C dX9_house_46 ?_
    exact f_iret C hret hlk dX9_house_47 ⟨by omega, by omega⟩ (hp _ _ (by rw [F_X9_house, if_neg c3, if_neg c4, if_pos c5]) (by rw [F_X9_house, if_neg c3, if_neg c4, if_pos c5]))
  refine f_iconst C dX9_house_19 ?_
  exact f_iret C hret hlk dX9_house_20 ⟨by decide, by decide⟩ (hp _ _ (by rw [F_X9_house, if_neg c3, if_neg c4, if_neg c5]) (by rw [F_X9_house, if_neg c3, if_neg c4, if_neg c5]))

def F_X9_fact (p1 p2 p3 p5 p7 : Int) (st : fS) : Int × fS := if (st.1 3) = 24 then ((-1), st) else (if (F_X9_isHouse p1 st) = 0 then ((-1), st) else (if (F_X9_isKind p2 st) = 0 then ((-1), st) else (if (F_X9_isDay p3 st) = 0 then ((-1), st) else (if p5 < 0 then ((-1), st) else (if 1000000 < p5 then ((-1), st) else (if (F_X9_isDay p7 st) = 0 then ((-1), st) else (((st.1 3) + 1) - 1, sN (sR (sR (sR (sR (sR st 4 (f_up (st.2 4) (st.1 3) p1)) 5 (f_up (st.2 5) (st.1 3) p2)) 6 (f_up (st.2 6) (st.1 3) p3)) 7 (f_up (st.2 7) (st.1 3) p5)) 8 (f_up (st.2 8) (st.1 3) p7)) 3 ((st.1 3) + 1))))))))
abbrev rm_X9_fact : Room := { frames := 1, cells := 0, slots := 0, locals := 21 }
set_option maxRecDepth 100000 in
set_option maxHeartbeats 8000000 in
theorem c_X9_fact {l : Launch} {D : va_G} {cI cJ cZ cB : ClassId} {b : Nat → Nat} {E : State → Prop} (hX : mHyp b E) (p1 p2 p3 p5 p7 : Int) (h1 : in32 p1) (h2 : in32 p2) (h3 : in64 p3) (h5 : in64 p5) (h7 : in64 p7) (st : fS)  : mMi l D cI cJ cZ cB b E yX9_fact wsX9_fact rm_X9_fact [.ref (b 0), .int (zI p1), .int (zI p2), .long (zJ p3), .long (zJ p5), .long (zJ p7)] st (fun z u => z = (F_X9_fact p1 p2 p3 p5 p7 st).1 ∧ u = (F_X9_fact p1 p2 p3 p5 p7 st).2) := by
  refine fB_open (cc := cX9_fact) (maxL := 9) (ret := (some .int)) (by decide) rfl (Nat.le_of_ble_eq_true rfl) hX.2 ?_
  intro p e s m below meth c C hret hlk
  have hin9 : ∀ w ∈ u_ws RX9 TX9 43, w ∈ wsX9_fact := by decide +kernel
  have hp : ∀ (z : Int) (u : fS), z = (F_X9_fact p1 p2 p3 p5 p7 st).1 → u = (F_X9_fact p1 p2 p3 p5 p7 st).2 → z = (F_X9_fact p1 p2 p3 p5 p7 st).1 ∧ u = (F_X9_fact p1 p2 p3 p5 p7 st).2 := fun z u h1 h2 => ⟨h1, h2⟩
  refine f_aload_n C 0 dX9_fact_0 rfl rfl ?_
  refine f_ok (fun hO1 => ?_)
  have k2 : 0 ≤ st.1 3 ∧ st.1 3 ≤ 24 := hO1.1 3
  refine f_get C (v := .int (zI (st.1 3))) hin9 0 3 rfl rfl (Nat.le_of_ble_eq_true rfl) (by decide +kernel) rfl rfl dX9_fact_1 ?_
  refine f_bipush C dX9_fact_4 (by decide) ?_
  refine f_icmp_eq C 55 ⟨by omega, by omega⟩ ⟨by decide, by decide⟩ dX9_fact_6 (by decide) (fun c3 => ?_) (fun c3 => ?_)
  · refine f_iconst C dX9_fact_55 ?_
    exact f_iret C hret hlk dX9_fact_56 ⟨by decide, by decide⟩ (hp _ _ (by rw [F_X9_fact, if_pos c3]) (by rw [F_X9_fact, if_pos c3]))
  refine f_aload_n C 0 dX9_fact_9 rfl rfl ?_
  refine f_iload_n C 1 dX9_fact_10 rfl rfl ?_
  refine f_calli C (c_X9_isHouse hX p1 ⟨by omega, by omega⟩ st) (cwV 1 C.1.2.2.2.2 gX9_fact_X9_isHouse rfl rfl rfl (by decide +kernel) ⟨Nat.le_of_ble_eq_true rfl, Nat.le_of_ble_eq_true rfl⟩) 0 rfl rfl rfl rfl rfl (Nat.le_of_ble_eq_true rfl) ⟨Nat.zero_le _, Nat.zero_le _⟩ dX9_fact_11 (fun z u hz4 hu => ?_)
  obtain ⟨qz4, hu, rz4⟩ := hu; replace hu := hu.symm; subst hu; subst qz4
  refine f_if_eq C 55 ⟨by omega, by omega⟩ dX9_fact_14 (by decide) (fun c5 => ?_) (fun c5 => ?_)
  · refine f_iconst C dX9_fact_55 ?_
    exact f_iret C hret hlk dX9_fact_56 ⟨by decide, by decide⟩ (hp _ _ (by rw [F_X9_fact, if_neg c3, if_pos c5]) (by rw [F_X9_fact, if_neg c3, if_pos c5]))
  refine f_iload_n C 2 dX9_fact_17 rfl rfl ?_
  refine f_callsi C (c_X9_isKind hX p2 ⟨by omega, by omega⟩ st) (va_cwS 1 C.1.2.2.2.2 gX9_fact_X9_isKind rfl rfl rfl (by decide +kernel) ⟨Nat.le_of_ble_eq_true rfl, Nat.le_of_ble_eq_true rfl⟩) rfl rfl (Nat.le_of_ble_eq_true rfl) ⟨Nat.zero_le _, Nat.zero_le _⟩ dX9_fact_18 (fun z u hz6 hu => ?_)
  obtain ⟨qz6, hu, rz6⟩ := hu; replace hu := hu.symm; subst hu; subst qz6
  refine f_if_eq C 55 ⟨by omega, by omega⟩ dX9_fact_21 (by decide) (fun c7 => ?_) (fun c7 => ?_)
  · refine f_iconst C dX9_fact_55 ?_
    exact f_iret C hret hlk dX9_fact_56 ⟨by decide, by decide⟩ (hp _ _ (by rw [F_X9_fact, if_neg c3, if_neg c5, if_pos c7]) (by rw [F_X9_fact, if_neg c3, if_neg c5, if_pos c7]))
  refine f_lload_n C 3 dX9_fact_24 rfl rfl ?_
  refine f_callsi C (c_X9_isDay hX p3 ⟨by omega, by omega⟩ st) (va_cwS 1 C.1.2.2.2.2 gX9_fact_X9_isDay rfl rfl rfl (by decide +kernel) ⟨Nat.le_of_ble_eq_true rfl, Nat.le_of_ble_eq_true rfl⟩) rfl rfl (Nat.le_of_ble_eq_true rfl) ⟨Nat.zero_le _, Nat.zero_le _⟩ dX9_fact_25 (fun z u hz8 hu => ?_)
  obtain ⟨qz8, hu, rz8⟩ := hu; replace hu := hu.symm; subst hu; subst qz8
  refine f_if_eq C 55 ⟨by omega, by omega⟩ dX9_fact_28 (by decide) (fun c9 => ?_) (fun c9 => ?_)
  · refine f_iconst C dX9_fact_55 ?_
    exact f_iret C hret hlk dX9_fact_56 ⟨by decide, by decide⟩ (hp _ _ (by rw [F_X9_fact, if_neg c3, if_neg c5, if_neg c7, if_pos c9]) (by rw [F_X9_fact, if_neg c3, if_neg c5, if_neg c7, if_pos c9]))
  refine f_lload C 5 dX9_fact_31 rfl ?_
  refine f_lconst C (z := 0) dX9_fact_33 rfl ?_
  refine f_lc_if_lt C 55 ⟨by omega, by omega⟩ ⟨by decide, by decide⟩ dX9_fact_34 dX9_fact_35 (by decide) (fun c10 => ?_) (fun c10 => ?_)
  · refine f_iconst C dX9_fact_55 ?_
    exact f_iret C hret hlk dX9_fact_56 ⟨by decide, by decide⟩ (hp _ _ (by rw [F_X9_fact, if_neg c3, if_neg c5, if_neg c7, if_neg c9, if_pos c10]) (by rw [F_X9_fact, if_neg c3, if_neg c5, if_neg c7, if_neg c9, if_pos c10]))
  refine f_lload C 5 dX9_fact_38 rfl ?_
  refine f_ldc2 C (v := 1000000) (z := 1000000) (by decide +kernel) (by decide) dX9_fact_40 ?_
  refine f_lc_if_gt C 55 ⟨by omega, by omega⟩ ⟨by decide, by decide⟩ dX9_fact_43 dX9_fact_44 (by decide) (fun c11 => ?_) (fun c11 => ?_)
  · refine f_iconst C dX9_fact_55 ?_
    exact f_iret C hret hlk dX9_fact_56 ⟨by decide, by decide⟩ (hp _ _ (by rw [F_X9_fact, if_neg c3, if_neg c5, if_neg c7, if_neg c9, if_neg c10, if_pos c11]) (by rw [F_X9_fact, if_neg c3, if_neg c5, if_neg c7, if_neg c9, if_neg c10, if_pos c11]))
  refine f_lload C 7 dX9_fact_47 rfl ?_
  refine f_callsi C (c_X9_isDay hX p7 ⟨by omega, by omega⟩ st) (va_cwS 1 C.1.2.2.2.2 gX9_fact_X9_isDay rfl rfl rfl (by decide +kernel) ⟨Nat.le_of_ble_eq_true rfl, Nat.le_of_ble_eq_true rfl⟩) rfl rfl (Nat.le_of_ble_eq_true rfl) ⟨Nat.zero_le _, Nat.zero_le _⟩ dX9_fact_49 (fun z u hz12 hu => ?_)
  obtain ⟨qz12, hu, rz12⟩ := hu; replace hu := hu.symm; subst hu; subst qz12
  refine f_if_ne C 57 ⟨by omega, by omega⟩ dX9_fact_52 (by decide) (fun c13 => ?_) (fun c13 => ?_)
  · refine f_aload_n C 0 dX9_fact_57 rfl rfl ?_
    refine f_get C hin9 0 4 rfl rfl (Nat.le_of_ble_eq_true rfl) (by decide +kernel) rfl rfl dX9_fact_58 ?_
    refine f_aload_n C 0 dX9_fact_61 rfl rfl ?_
    refine f_get C (v := .int (zI (st.1 3))) hin9 0 3 rfl rfl (Nat.le_of_ble_eq_true rfl) (by decide +kernel) rfl rfl dX9_fact_62 ?_
    refine f_iload_n C 1 dX9_fact_65 rfl rfl ?_
    refine f_iast C (mD hX.1 cI cJ cZ cB) (u := sR st 4 (f_up (st.2 4) (st.1 3) p1)) (f := st.2 4) 3 0 rfl rfl ⟨by omega, by omega⟩ (Nat.le_of_ble_eq_true rfl) rfl (fun h => fOk_up h (r := 4) (show 0 ≤ p1 ∧ p1 ≤ 3 by omega)) dX9_fact_66 ?_
    refine f_aload_n C 0 dX9_fact_67 rfl rfl ?_
    refine f_get C hin9 0 5 rfl rfl (Nat.le_of_ble_eq_true rfl) (by decide +kernel) rfl rfl dX9_fact_68 ?_
    refine f_aload_n C 0 dX9_fact_71 rfl rfl ?_
    refine f_ok (fun hO14 => ?_)
    have k15 : 0 ≤ st.1 3 ∧ st.1 3 ≤ 24 := hO14.1 3
    refine f_get C (v := .int (zI (st.1 3))) hin9 0 3 rfl rfl (Nat.le_of_ble_eq_true rfl) (by decide +kernel) rfl rfl dX9_fact_72 ?_
    refine f_iload_n C 2 dX9_fact_75 rfl rfl ?_
    refine f_iast C (mD hX.1 cI cJ cZ cB) (u := sR (sR st 4 (f_up (st.2 4) (st.1 3) p1)) 5 (f_up (st.2 5) (st.1 3) p2)) (f := st.2 5) 4 0 rfl rfl ⟨by omega, by omega⟩ (Nat.le_of_ble_eq_true rfl) rfl (fun h => fOk_up h (r := 5) (show 0 ≤ p2 ∧ p2 ≤ 5 by omega)) dX9_fact_76 ?_
    refine f_aload_n C 0 dX9_fact_77 rfl rfl ?_
    refine f_get C hin9 0 6 rfl rfl (Nat.le_of_ble_eq_true rfl) (by decide +kernel) rfl rfl dX9_fact_78 ?_
    refine f_aload_n C 0 dX9_fact_81 rfl rfl ?_
    refine f_ok (fun hO16 => ?_)
    have k17 : 0 ≤ st.1 3 ∧ st.1 3 ≤ 24 := hO16.1 3
    refine f_get C (v := .int (zI (st.1 3))) hin9 0 3 rfl rfl (Nat.le_of_ble_eq_true rfl) (by decide +kernel) rfl rfl dX9_fact_82 ?_
    refine f_lload_n C 3 dX9_fact_85 rfl rfl ?_
    refine f_l2i C dX9_fact_86 ?_
    refine f_iast C (mD hX.1 cI cJ cZ cB) (u := sR (sR (sR st 4 (f_up (st.2 4) (st.1 3) p1)) 5 (f_up (st.2 5) (st.1 3) p2)) 6 (f_up (st.2 6) (st.1 3) p3)) (f := st.2 6) 5 0 rfl rfl ⟨by omega, by omega⟩ (Nat.le_of_ble_eq_true rfl) rfl (fun h => fOk_up h (r := 6) (show 0 ≤ p3 ∧ p3 ≤ 3599 by omega)) dX9_fact_87 ?_
    refine f_aload_n C 0 dX9_fact_88 rfl rfl ?_
    refine f_get C hin9 0 7 rfl rfl (Nat.le_of_ble_eq_true rfl) (by decide +kernel) rfl rfl dX9_fact_89 ?_
    refine f_aload_n C 0 dX9_fact_92 rfl rfl ?_
    refine f_ok (fun hO18 => ?_)
    have k19 : 0 ≤ st.1 3 ∧ st.1 3 ≤ 24 := hO18.1 3
    refine f_get C (v := .int (zI (st.1 3))) hin9 0 3 rfl rfl (Nat.le_of_ble_eq_true rfl) (by decide +kernel) rfl rfl dX9_fact_93 ?_
    refine f_lload C 5 dX9_fact_96 rfl ?_
    refine f_l2i C dX9_fact_98 ?_
    refine f_iast C (mD hX.1 cI cJ cZ cB) (u := sR (sR (sR (sR st 4 (f_up (st.2 4) (st.1 3) p1)) 5 (f_up (st.2 5) (st.1 3) p2)) 6 (f_up (st.2 6) (st.1 3) p3)) 7 (f_up (st.2 7) (st.1 3) p5)) (f := st.2 7) 6 0 rfl rfl ⟨by omega, by omega⟩ (Nat.le_of_ble_eq_true rfl) rfl (fun h => fOk_up h (r := 7) (show 0 ≤ p5 ∧ p5 ≤ 1000000 by omega)) dX9_fact_99 ?_
    refine f_aload_n C 0 dX9_fact_100 rfl rfl ?_
    refine f_get C hin9 0 8 rfl rfl (Nat.le_of_ble_eq_true rfl) (by decide +kernel) rfl rfl dX9_fact_101 ?_
    refine f_aload_n C 0 dX9_fact_104 rfl rfl ?_
    refine f_ok (fun hO20 => ?_)
    have k21 : 0 ≤ st.1 3 ∧ st.1 3 ≤ 24 := hO20.1 3
    refine f_get C (v := .int (zI (st.1 3))) hin9 0 3 rfl rfl (Nat.le_of_ble_eq_true rfl) (by decide +kernel) rfl rfl dX9_fact_105 ?_
    refine f_lload C 7 dX9_fact_108 rfl ?_
    refine f_l2i C dX9_fact_110 ?_
    refine f_iast C (mD hX.1 cI cJ cZ cB) (u := sR (sR (sR (sR (sR st 4 (f_up (st.2 4) (st.1 3) p1)) 5 (f_up (st.2 5) (st.1 3) p2)) 6 (f_up (st.2 6) (st.1 3) p3)) 7 (f_up (st.2 7) (st.1 3) p5)) 8 (f_up (st.2 8) (st.1 3) p7)) (f := st.2 8) 7 0 rfl rfl ⟨by omega, by omega⟩ (Nat.le_of_ble_eq_true rfl) rfl (fun h => fOk_up h (r := 8) (show 0 ≤ p7 ∧ p7 ≤ 3599 by omega)) dX9_fact_111 ?_
    refine f_aload_n C 0 dX9_fact_112 rfl rfl ?_
    refine f_dup C dX9_fact_113 rfl ?_
    refine f_ok (fun hO22 => ?_)
    have k23 : 0 ≤ st.1 3 ∧ st.1 3 ≤ 24 := hO22.1 3
    refine f_get C (v := .int (zI (st.1 3))) hin9 0 3 rfl rfl (Nat.le_of_ble_eq_true rfl) (by decide +kernel) rfl rfl dX9_fact_114 ?_
    refine f_iconst C dX9_fact_117 ?_
    refine f_iadd C dX9_fact_118 ?_
    refine f_put C (mD hX.1 cI cJ cZ cB) hin9 tyX9 tyX9_ok nmX9 0 3 rfl rfl (Nat.le_of_ble_eq_true rfl) (by decide +kernel) rfl rfl (ty := .int) (by decide +kernel) rfl rfl (Nat.le_of_ble_eq_true rfl) (u := sN (sR (sR (sR (sR (sR st 4 (f_up (st.2 4) (st.1 3) p1)) 5 (f_up (st.2 5) (st.1 3) p2)) 6 (f_up (st.2 6) (st.1 3) p3)) 7 (f_up (st.2 7) (st.1 3) p5)) 8 (f_up (st.2 8) (st.1 3) p7)) 3 ((st.1 3) + 1)) rfl (fun h => fOk_N h (show 0 ≤ ((st.1 3) + 1) ∧ ((st.1 3) + 1) ≤ 24 by omega)) dX9_fact_119 ?_
    refine f_aload_n C 0 dX9_fact_122 rfl rfl ?_
    refine f_get C (v := .int (zI ((st.1 3) + 1))) hin9 0 3 rfl rfl (Nat.le_of_ble_eq_true rfl) (by decide +kernel) rfl rfl dX9_fact_123 ?_
    refine f_iconst C dX9_fact_126 ?_
    refine f_isub C dX9_fact_127 ?_
    exact f_iret C hret hlk dX9_fact_128 ⟨by omega, by omega⟩ (hp _ _ (by rw [F_X9_fact, if_neg c3, if_neg c5, if_neg c7, if_neg c9, if_neg c10, if_neg c11, if_neg c13]) (by rw [F_X9_fact, if_neg c3, if_neg c5, if_neg c7, if_neg c9, if_neg c10, if_neg c11, if_neg c13]))
  refine f_iconst C dX9_fact_55 ?_
  exact f_iret C hret hlk dX9_fact_56 ⟨by decide, by decide⟩ (hp _ _ (by rw [F_X9_fact, if_neg c3, if_neg c5, if_neg c7, if_neg c9, if_neg c10, if_neg c11, if_pos c13]) (by rw [F_X9_fact, if_neg c3, if_neg c5, if_neg c7, if_neg c9, if_neg c10, if_neg c11, if_pos c13]))

def F_X9_unit (p1 : Int) (st : fS) : Int × fS := if p1 < 0 then (0, st) else (if 255 < p1 then (0, st) else (if (st.1 9) = 600 then (0, st) else (1, sN (sR st 10 (f_up (st.2 10) (st.1 9) p1)) 9 ((st.1 9) + 1))))
abbrev rm_X9_unit : Room := { frames := 0, cells := 0, slots := 0, locals := 0 }
set_option maxRecDepth 100000 in
set_option maxHeartbeats 8000000 in
theorem c_X9_unit {l : Launch} {D : va_G} {cI cJ cZ cB : ClassId} {b : Nat → Nat} {E : State → Prop} (hX : mHyp b E) (p1 : Int) (h1 : in32 p1) (st : fS)  : mMi l D cI cJ cZ cB b E yX9_unit wsX9_unit rm_X9_unit [.ref (b 0), .int (zI p1)] st (fun z u => z = (F_X9_unit p1 st).1 ∧ u = (F_X9_unit p1 st).2 ∧ (z = 0 ∨ z = 1)) := by
  refine fB_open (cc := cX9_unit) (maxL := 2) (ret := (some .boolean)) (by decide) rfl (Nat.le_of_ble_eq_true rfl) hX.2 ?_
  intro p e s m below meth c C hret hlk
  have hin9 : ∀ w ∈ u_ws RX9 TX9 43, w ∈ wsX9_unit := by decide +kernel
  have hp : ∀ (z : Int) (u : fS), z = (F_X9_unit p1 st).1 → u = (F_X9_unit p1 st).2 → (z = 0 ∨ z = 1) → z = (F_X9_unit p1 st).1 ∧ u = (F_X9_unit p1 st).2 ∧ (z = 0 ∨ z = 1) := fun z u h1 h2 r1 => ⟨h1, h2, r1⟩
  refine f_iload_n C 1 dX9_unit_0 rfl rfl ?_
  refine f_if_lt C 21 ⟨by omega, by omega⟩ dX9_unit_1 (by decide) (fun c1 => ?_) (fun c1 => ?_)
  · refine f_iconst C dX9_unit_21 ?_
    exact f_zret C hret hlk dX9_unit_22 (by decide) (hp _ _ (by rw [F_X9_unit, if_pos c1]) (by rw [F_X9_unit, if_pos c1]) (by omega))
  refine f_iload_n C 1 dX9_unit_4 rfl rfl ?_
  refine f_sipush C dX9_unit_5 (by decide) ?_
  refine f_icmp_gt C 21 ⟨by omega, by omega⟩ ⟨by decide, by decide⟩ dX9_unit_8 (by decide) (fun c2 => ?_) (fun c2 => ?_)
  · refine f_iconst C dX9_unit_21 ?_
    exact f_zret C hret hlk dX9_unit_22 (by decide) (hp _ _ (by rw [F_X9_unit, if_neg c1, if_pos c2]) (by rw [F_X9_unit, if_neg c1, if_pos c2]) (by omega))
  refine f_aload_n C 0 dX9_unit_11 rfl rfl ?_
  refine f_ok (fun hO3 => ?_)
  have k4 : 0 ≤ st.1 9 ∧ st.1 9 ≤ 600 := hO3.1 9
  refine f_get C (v := .int (zI (st.1 9))) hin9 0 9 rfl rfl (Nat.le_of_ble_eq_true rfl) (by decide +kernel) rfl rfl dX9_unit_12 ?_
  refine f_sipush C dX9_unit_15 (by decide) ?_
  refine f_icmp_ne C 23 ⟨by omega, by omega⟩ ⟨by decide, by decide⟩ dX9_unit_18 (by decide) (fun c5 => ?_) (fun c5 => ?_)
  · refine f_aload_n C 0 dX9_unit_23 rfl rfl ?_
    refine f_get C hin9 0 10 rfl rfl (Nat.le_of_ble_eq_true rfl) (by decide +kernel) rfl rfl dX9_unit_24 ?_
    refine f_aload_n C 0 dX9_unit_27 rfl rfl ?_
    refine f_get C (v := .int (zI (st.1 9))) hin9 0 9 rfl rfl (Nat.le_of_ble_eq_true rfl) (by decide +kernel) rfl rfl dX9_unit_28 ?_
    refine f_iload_n C 1 dX9_unit_31 rfl rfl ?_
    refine f_iast C (mD hX.1 cI cJ cZ cB) (u := sR st 10 (f_up (st.2 10) (st.1 9) p1)) (f := st.2 10) 8 0 rfl rfl ⟨by omega, by omega⟩ (Nat.le_of_ble_eq_true rfl) rfl (fun h => fOk_up h (r := 10) (show 0 ≤ p1 ∧ p1 ≤ 255 by omega)) dX9_unit_32 ?_
    refine f_aload_n C 0 dX9_unit_33 rfl rfl ?_
    refine f_dup C dX9_unit_34 rfl ?_
    refine f_ok (fun hO6 => ?_)
    have k7 : 0 ≤ st.1 9 ∧ st.1 9 ≤ 600 := hO6.1 9
    refine f_get C (v := .int (zI (st.1 9))) hin9 0 9 rfl rfl (Nat.le_of_ble_eq_true rfl) (by decide +kernel) rfl rfl dX9_unit_35 ?_
    refine f_iconst C dX9_unit_38 ?_
    refine f_iadd C dX9_unit_39 ?_
    refine f_put C (mD hX.1 cI cJ cZ cB) hin9 tyX9 tyX9_ok nmX9 0 9 rfl rfl (Nat.le_of_ble_eq_true rfl) (by decide +kernel) rfl rfl (ty := .int) (by decide +kernel) rfl rfl (Nat.le_of_ble_eq_true rfl) (u := sN (sR st 10 (f_up (st.2 10) (st.1 9) p1)) 9 ((st.1 9) + 1)) rfl (fun h => fOk_N h (show 0 ≤ ((st.1 9) + 1) ∧ ((st.1 9) + 1) ≤ 600 by omega)) dX9_unit_40 ?_
    refine f_iconst C dX9_unit_43 ?_
    exact f_zret C hret hlk dX9_unit_44 (by decide) (hp _ _ (by rw [F_X9_unit, if_neg c1, if_neg c2, if_neg c5]) (by rw [F_X9_unit, if_neg c1, if_neg c2, if_neg c5]) (by omega))
  refine f_iconst C dX9_unit_21 ?_
  exact f_zret C hret hlk dX9_unit_22 (by decide) (hp _ _ (by rw [F_X9_unit, if_neg c1, if_neg c2, if_pos c5]) (by rw [F_X9_unit, if_neg c1, if_neg c2, if_pos c5]) (by omega))

def F_X9_cap (p1 p2 : Int) (st : fS) : Int × fS := if (F_X9_isMonth p1 st) = 0 then (0, st) else (if p2 < 0 then (0, st) else (if p2 ≤ 1000000000000 then (1, sR st 24 (f_up (st.2 24) p1 p2)) else (0, st)))
abbrev rm_X9_cap : Room := { frames := 1, cells := 0, slots := 0, locals := 20 }
set_option maxRecDepth 100000 in
set_option maxHeartbeats 8000000 in
theorem c_X9_cap {l : Launch} {D : va_G} {cI cJ cZ cB : ClassId} {b : Nat → Nat} {E : State → Prop} (hX : mHyp b E) (p1 p2 : Int) (h1 : in32 p1) (h2 : in64 p2) (st : fS)  : mMi l D cI cJ cZ cB b E yX9_cap wsX9_cap rm_X9_cap [.ref (b 0), .int (zI p1), .long (zJ p2)] st (fun z u => z = (F_X9_cap p1 p2 st).1 ∧ u = (F_X9_cap p1 p2 st).2 ∧ (z = 0 ∨ z = 1)) := by
  refine fB_open (cc := cX9_cap) (maxL := 4) (ret := (some .boolean)) (by decide) rfl (Nat.le_of_ble_eq_true rfl) hX.2 ?_
  intro p e s m below meth c C hret hlk
  have hin9 : ∀ w ∈ u_ws RX9 TX9 43, w ∈ wsX9_cap := by decide +kernel
  have hp : ∀ (z : Int) (u : fS), z = (F_X9_cap p1 p2 st).1 → u = (F_X9_cap p1 p2 st).2 → (z = 0 ∨ z = 1) → z = (F_X9_cap p1 p2 st).1 ∧ u = (F_X9_cap p1 p2 st).2 ∧ (z = 0 ∨ z = 1) := fun z u h1 h2 r1 => ⟨h1, h2, r1⟩
  refine f_iload_n C 1 dX9_cap_0 rfl rfl ?_
  refine f_callsi C (c_X9_isMonth hX p1 ⟨by omega, by omega⟩ st) (va_cwS 1 C.1.2.2.2.2 gX9_cap_X9_isMonth rfl rfl rfl (by decide +kernel) ⟨Nat.le_of_ble_eq_true rfl, Nat.le_of_ble_eq_true rfl⟩) rfl rfl (Nat.le_of_ble_eq_true rfl) ⟨Nat.zero_le _, Nat.zero_le _⟩ dX9_cap_1 (fun z u hz1 hu => ?_)
  obtain ⟨qz1, hu, rz1⟩ := hu; replace hu := hu.symm; subst hu; subst qz1
  refine f_if_eq C 21 ⟨by omega, by omega⟩ dX9_cap_4 (by decide) (fun c2 => ?_) (fun c2 => ?_)
  · refine f_iconst C dX9_cap_21 ?_
    exact f_zret C hret hlk dX9_cap_22 (by decide) (hp _ _ (by rw [F_X9_cap, if_pos c2]) (by rw [F_X9_cap, if_pos c2]) (by omega))
  refine f_lload_n C 2 dX9_cap_7 rfl rfl ?_
  refine f_lconst C (z := 0) dX9_cap_8 rfl ?_
  refine f_lc_if_lt C 21 ⟨by omega, by omega⟩ ⟨by decide, by decide⟩ dX9_cap_9 dX9_cap_10 (by decide) (fun c3 => ?_) (fun c3 => ?_)
  · refine f_iconst C dX9_cap_21 ?_
    exact f_zret C hret hlk dX9_cap_22 (by decide) (hp _ _ (by rw [F_X9_cap, if_neg c2, if_pos c3]) (by rw [F_X9_cap, if_neg c2, if_pos c3]) (by omega))
  refine f_lload_n C 2 dX9_cap_13 rfl rfl ?_
  refine f_ldc2 C (v := 1000000000000) (z := 1000000000000) (by decide +kernel) (by decide) dX9_cap_14 ?_
  refine f_lc_if_le C 23 ⟨by omega, by omega⟩ ⟨by decide, by decide⟩ dX9_cap_17 dX9_cap_18 (by decide) (fun c4 => ?_) (fun c4 => ?_)
  · refine f_aload_n C 0 dX9_cap_23 rfl rfl ?_
    refine f_get C hin9 0 24 rfl rfl (Nat.le_of_ble_eq_true rfl) (by decide +kernel) rfl rfl dX9_cap_24 ?_
    refine f_iload_n C 1 dX9_cap_27 rfl rfl ?_
    refine f_lload_n C 2 dX9_cap_28 rfl rfl ?_
    refine f_last C (mD hX.1 cI cJ cZ cB) (u := sR st 24 (f_up (st.2 24) p1 p2)) (f := st.2 24) 20 1 rfl rfl ⟨by omega, by omega⟩ (Nat.le_of_ble_eq_true rfl) rfl (fun h => fOk_up h (r := 24) (show (-1) ≤ p2 ∧ p2 ≤ 1000000000000 by omega)) dX9_cap_29 ?_
    refine f_iconst C dX9_cap_30 ?_
    exact f_zret C hret hlk dX9_cap_31 (by decide) (hp _ _ (by rw [F_X9_cap, if_neg c2, if_neg c3, if_pos c4]) (by rw [F_X9_cap, if_neg c2, if_neg c3, if_pos c4]) (by omega))
  refine f_iconst C dX9_cap_21 ?_
  exact f_zret C hret hlk dX9_cap_22 (by decide) (hp _ _ (by rw [F_X9_cap, if_neg c2, if_neg c3, if_neg c4]) (by rw [F_X9_cap, if_neg c2, if_neg c3, if_neg c4]) (by omega))

def F_X9_relief (p1 p2 p3 p5 : Int) (st : fS) : Int × fS := if (st.1 25) = 8 then (0, st) else (if (F_X9_isHouse p1 st) = 0 then (0, st) else (if (F_X9_isKind p2 st) = 0 then (0, st) else (if (F_X9_isDay p3 st) = 0 then (0, st) else (if (F_X9_isDay p5 st) = 0 then (0, st) else (if p3 ≤ p5 then (1, sN (sR (sR (sR (sR st 26 (f_up (st.2 26) (st.1 25) p1)) 27 (f_up (st.2 27) (st.1 25) p2)) 28 (f_up (st.2 28) (st.1 25) p3)) 29 (f_up (st.2 29) (st.1 25) p5)) 25 ((st.1 25) + 1)) else (0, st))))))
abbrev rm_X9_relief : Room := { frames := 1, cells := 0, slots := 0, locals := 21 }
set_option maxRecDepth 100000 in
set_option maxHeartbeats 8000000 in
theorem c_X9_relief {l : Launch} {D : va_G} {cI cJ cZ cB : ClassId} {b : Nat → Nat} {E : State → Prop} (hX : mHyp b E) (p1 p2 p3 p5 : Int) (h1 : in32 p1) (h2 : in32 p2) (h3 : in64 p3) (h5 : in64 p5) (st : fS)  : mMi l D cI cJ cZ cB b E yX9_relief wsX9_relief rm_X9_relief [.ref (b 0), .int (zI p1), .int (zI p2), .long (zJ p3), .long (zJ p5)] st (fun z u => z = (F_X9_relief p1 p2 p3 p5 st).1 ∧ u = (F_X9_relief p1 p2 p3 p5 st).2 ∧ (z = 0 ∨ z = 1)) := by
  refine fB_open (cc := cX9_relief) (maxL := 7) (ret := (some .boolean)) (by decide) rfl (Nat.le_of_ble_eq_true rfl) hX.2 ?_
  intro p e s m below meth c C hret hlk
  have hin9 : ∀ w ∈ u_ws RX9 TX9 43, w ∈ wsX9_relief := by decide +kernel
  have hp : ∀ (z : Int) (u : fS), z = (F_X9_relief p1 p2 p3 p5 st).1 → u = (F_X9_relief p1 p2 p3 p5 st).2 → (z = 0 ∨ z = 1) → z = (F_X9_relief p1 p2 p3 p5 st).1 ∧ u = (F_X9_relief p1 p2 p3 p5 st).2 ∧ (z = 0 ∨ z = 1) := fun z u h1 h2 r1 => ⟨h1, h2, r1⟩
  refine f_aload_n C 0 dX9_relief_0 rfl rfl ?_
  refine f_ok (fun hO1 => ?_)
  have k2 : 0 ≤ st.1 25 ∧ st.1 25 ≤ 8 := hO1.1 25
  refine f_get C (v := .int (zI (st.1 25))) hin9 0 25 rfl rfl (Nat.le_of_ble_eq_true rfl) (by decide +kernel) rfl rfl dX9_relief_1 ?_
  refine f_bipush C dX9_relief_4 (by decide) ?_
  refine f_icmp_eq C 46 ⟨by omega, by omega⟩ ⟨by decide, by decide⟩ dX9_relief_6 (by decide) (fun c3 => ?_) (fun c3 => ?_)
  · refine f_iconst C dX9_relief_46 ?_
    exact f_zret C hret hlk dX9_relief_47 (by decide) (hp _ _ (by rw [F_X9_relief, if_pos c3]) (by rw [F_X9_relief, if_pos c3]) (by omega))
  refine f_aload_n C 0 dX9_relief_9 rfl rfl ?_
  refine f_iload_n C 1 dX9_relief_10 rfl rfl ?_
  refine f_calli C (c_X9_isHouse hX p1 ⟨by omega, by omega⟩ st) (cwV 1 C.1.2.2.2.2 gX9_relief_X9_isHouse rfl rfl rfl (by decide +kernel) ⟨Nat.le_of_ble_eq_true rfl, Nat.le_of_ble_eq_true rfl⟩) 0 rfl rfl rfl rfl rfl (Nat.le_of_ble_eq_true rfl) ⟨Nat.zero_le _, Nat.zero_le _⟩ dX9_relief_11 (fun z u hz4 hu => ?_)
  obtain ⟨qz4, hu, rz4⟩ := hu; replace hu := hu.symm; subst hu; subst qz4
  refine f_if_eq C 46 ⟨by omega, by omega⟩ dX9_relief_14 (by decide) (fun c5 => ?_) (fun c5 => ?_)
  · refine f_iconst C dX9_relief_46 ?_
    exact f_zret C hret hlk dX9_relief_47 (by decide) (hp _ _ (by rw [F_X9_relief, if_neg c3, if_pos c5]) (by rw [F_X9_relief, if_neg c3, if_pos c5]) (by omega))
  refine f_iload_n C 2 dX9_relief_17 rfl rfl ?_
  refine f_callsi C (c_X9_isKind hX p2 ⟨by omega, by omega⟩ st) (va_cwS 1 C.1.2.2.2.2 gX9_relief_X9_isKind rfl rfl rfl (by decide +kernel) ⟨Nat.le_of_ble_eq_true rfl, Nat.le_of_ble_eq_true rfl⟩) rfl rfl (Nat.le_of_ble_eq_true rfl) ⟨Nat.zero_le _, Nat.zero_le _⟩ dX9_relief_18 (fun z u hz6 hu => ?_)
  obtain ⟨qz6, hu, rz6⟩ := hu; replace hu := hu.symm; subst hu; subst qz6
  refine f_if_eq C 46 ⟨by omega, by omega⟩ dX9_relief_21 (by decide) (fun c7 => ?_) (fun c7 => ?_)
  · refine f_iconst C dX9_relief_46 ?_
    exact f_zret C hret hlk dX9_relief_47 (by decide) (hp _ _ (by rw [F_X9_relief, if_neg c3, if_neg c5, if_pos c7]) (by rw [F_X9_relief, if_neg c3, if_neg c5, if_pos c7]) (by omega))
  refine f_lload_n C 3 dX9_relief_24 rfl rfl ?_
  refine f_callsi C (c_X9_isDay hX p3 ⟨by omega, by omega⟩ st) (va_cwS 1 C.1.2.2.2.2 gX9_relief_X9_isDay rfl rfl rfl (by decide +kernel) ⟨Nat.le_of_ble_eq_true rfl, Nat.le_of_ble_eq_true rfl⟩) rfl rfl (Nat.le_of_ble_eq_true rfl) ⟨Nat.zero_le _, Nat.zero_le _⟩ dX9_relief_25 (fun z u hz8 hu => ?_)
  obtain ⟨qz8, hu, rz8⟩ := hu; replace hu := hu.symm; subst hu; subst qz8
  refine f_if_eq C 46 ⟨by omega, by omega⟩ dX9_relief_28 (by decide) (fun c9 => ?_) (fun c9 => ?_)
  · refine f_iconst C dX9_relief_46 ?_
    exact f_zret C hret hlk dX9_relief_47 (by decide) (hp _ _ (by rw [F_X9_relief, if_neg c3, if_neg c5, if_neg c7, if_pos c9]) (by rw [F_X9_relief, if_neg c3, if_neg c5, if_neg c7, if_pos c9]) (by omega))
  refine f_lload C 5 dX9_relief_31 rfl ?_
  refine f_callsi C (c_X9_isDay hX p5 ⟨by omega, by omega⟩ st) (va_cwS 1 C.1.2.2.2.2 gX9_relief_X9_isDay rfl rfl rfl (by decide +kernel) ⟨Nat.le_of_ble_eq_true rfl, Nat.le_of_ble_eq_true rfl⟩) rfl rfl (Nat.le_of_ble_eq_true rfl) ⟨Nat.zero_le _, Nat.zero_le _⟩ dX9_relief_33 (fun z u hz10 hu => ?_)
  obtain ⟨qz10, hu, rz10⟩ := hu; replace hu := hu.symm; subst hu; subst qz10
  refine f_if_eq C 46 ⟨by omega, by omega⟩ dX9_relief_36 (by decide) (fun c11 => ?_) (fun c11 => ?_)
  · refine f_iconst C dX9_relief_46 ?_
    exact f_zret C hret hlk dX9_relief_47 (by decide) (hp _ _ (by rw [F_X9_relief, if_neg c3, if_neg c5, if_neg c7, if_neg c9, if_pos c11]) (by rw [F_X9_relief, if_neg c3, if_neg c5, if_neg c7, if_neg c9, if_pos c11]) (by omega))
  refine f_lload_n C 3 dX9_relief_39 rfl rfl ?_
  refine f_lload C 5 dX9_relief_40 rfl ?_
  refine f_lc_if_le C 48 ⟨by omega, by omega⟩ ⟨by omega, by omega⟩ dX9_relief_42 dX9_relief_43 (by decide) (fun c12 => ?_) (fun c12 => ?_)
  · refine f_aload_n C 0 dX9_relief_48 rfl rfl ?_
    refine f_get C hin9 0 26 rfl rfl (Nat.le_of_ble_eq_true rfl) (by decide +kernel) rfl rfl dX9_relief_49 ?_
    refine f_aload_n C 0 dX9_relief_52 rfl rfl ?_
    refine f_get C (v := .int (zI (st.1 25))) hin9 0 25 rfl rfl (Nat.le_of_ble_eq_true rfl) (by decide +kernel) rfl rfl dX9_relief_53 ?_
    refine f_iload_n C 1 dX9_relief_56 rfl rfl ?_
    refine f_iast C (mD hX.1 cI cJ cZ cB) (u := sR st 26 (f_up (st.2 26) (st.1 25) p1)) (f := st.2 26) 21 0 rfl rfl ⟨by omega, by omega⟩ (Nat.le_of_ble_eq_true rfl) rfl (fun h => fOk_up h (r := 26) (show 0 ≤ p1 ∧ p1 ≤ 3 by omega)) dX9_relief_57 ?_
    refine f_aload_n C 0 dX9_relief_58 rfl rfl ?_
    refine f_get C hin9 0 27 rfl rfl (Nat.le_of_ble_eq_true rfl) (by decide +kernel) rfl rfl dX9_relief_59 ?_
    refine f_aload_n C 0 dX9_relief_62 rfl rfl ?_
    refine f_ok (fun hO13 => ?_)
    have k14 : 0 ≤ st.1 25 ∧ st.1 25 ≤ 8 := hO13.1 25
    refine f_get C (v := .int (zI (st.1 25))) hin9 0 25 rfl rfl (Nat.le_of_ble_eq_true rfl) (by decide +kernel) rfl rfl dX9_relief_63 ?_
    refine f_iload_n C 2 dX9_relief_66 rfl rfl ?_
    refine f_iast C (mD hX.1 cI cJ cZ cB) (u := sR (sR st 26 (f_up (st.2 26) (st.1 25) p1)) 27 (f_up (st.2 27) (st.1 25) p2)) (f := st.2 27) 22 0 rfl rfl ⟨by omega, by omega⟩ (Nat.le_of_ble_eq_true rfl) rfl (fun h => fOk_up h (r := 27) (show 0 ≤ p2 ∧ p2 ≤ 5 by omega)) dX9_relief_67 ?_
    refine f_aload_n C 0 dX9_relief_68 rfl rfl ?_
    refine f_get C hin9 0 28 rfl rfl (Nat.le_of_ble_eq_true rfl) (by decide +kernel) rfl rfl dX9_relief_69 ?_
    refine f_aload_n C 0 dX9_relief_72 rfl rfl ?_
    refine f_ok (fun hO15 => ?_)
    have k16 : 0 ≤ st.1 25 ∧ st.1 25 ≤ 8 := hO15.1 25
    refine f_get C (v := .int (zI (st.1 25))) hin9 0 25 rfl rfl (Nat.le_of_ble_eq_true rfl) (by decide +kernel) rfl rfl dX9_relief_73 ?_
    refine f_lload_n C 3 dX9_relief_76 rfl rfl ?_
    refine f_l2i C dX9_relief_77 ?_
    refine f_iast C (mD hX.1 cI cJ cZ cB) (u := sR (sR (sR st 26 (f_up (st.2 26) (st.1 25) p1)) 27 (f_up (st.2 27) (st.1 25) p2)) 28 (f_up (st.2 28) (st.1 25) p3)) (f := st.2 28) 23 0 rfl rfl ⟨by omega, by omega⟩ (Nat.le_of_ble_eq_true rfl) rfl (fun h => fOk_up h (r := 28) (show 0 ≤ p3 ∧ p3 ≤ 3599 by omega)) dX9_relief_78 ?_
    refine f_aload_n C 0 dX9_relief_79 rfl rfl ?_
    refine f_get C hin9 0 29 rfl rfl (Nat.le_of_ble_eq_true rfl) (by decide +kernel) rfl rfl dX9_relief_80 ?_
    refine f_aload_n C 0 dX9_relief_83 rfl rfl ?_
    refine f_ok (fun hO17 => ?_)
    have k18 : 0 ≤ st.1 25 ∧ st.1 25 ≤ 8 := hO17.1 25
    refine f_get C (v := .int (zI (st.1 25))) hin9 0 25 rfl rfl (Nat.le_of_ble_eq_true rfl) (by decide +kernel) rfl rfl dX9_relief_84 ?_
    refine f_lload C 5 dX9_relief_87 rfl ?_
    refine f_l2i C dX9_relief_89 ?_
    refine f_iast C (mD hX.1 cI cJ cZ cB) (u := sR (sR (sR (sR st 26 (f_up (st.2 26) (st.1 25) p1)) 27 (f_up (st.2 27) (st.1 25) p2)) 28 (f_up (st.2 28) (st.1 25) p3)) 29 (f_up (st.2 29) (st.1 25) p5)) (f := st.2 29) 24 0 rfl rfl ⟨by omega, by omega⟩ (Nat.le_of_ble_eq_true rfl) rfl (fun h => fOk_up h (r := 29) (show 0 ≤ p5 ∧ p5 ≤ 3599 by omega)) dX9_relief_90 ?_
    refine f_aload_n C 0 dX9_relief_91 rfl rfl ?_
    refine f_dup C dX9_relief_92 rfl ?_
    refine f_ok (fun hO19 => ?_)
    have k20 : 0 ≤ st.1 25 ∧ st.1 25 ≤ 8 := hO19.1 25
    refine f_get C (v := .int (zI (st.1 25))) hin9 0 25 rfl rfl (Nat.le_of_ble_eq_true rfl) (by decide +kernel) rfl rfl dX9_relief_93 ?_
    refine f_iconst C dX9_relief_96 ?_
    refine f_iadd C dX9_relief_97 ?_
    refine f_put C (mD hX.1 cI cJ cZ cB) hin9 tyX9 tyX9_ok nmX9 0 25 rfl rfl (Nat.le_of_ble_eq_true rfl) (by decide +kernel) rfl rfl (ty := .int) (by decide +kernel) rfl rfl (Nat.le_of_ble_eq_true rfl) (u := sN (sR (sR (sR (sR st 26 (f_up (st.2 26) (st.1 25) p1)) 27 (f_up (st.2 27) (st.1 25) p2)) 28 (f_up (st.2 28) (st.1 25) p3)) 29 (f_up (st.2 29) (st.1 25) p5)) 25 ((st.1 25) + 1)) rfl (fun h => fOk_N h (show 0 ≤ ((st.1 25) + 1) ∧ ((st.1 25) + 1) ≤ 8 by omega)) dX9_relief_98 ?_
    refine f_iconst C dX9_relief_101 ?_
    exact f_zret C hret hlk dX9_relief_102 (by decide) (hp _ _ (by rw [F_X9_relief, if_neg c3, if_neg c5, if_neg c7, if_neg c9, if_neg c11, if_pos c12]) (by rw [F_X9_relief, if_neg c3, if_neg c5, if_neg c7, if_neg c9, if_neg c11, if_pos c12]) (by omega))
  refine f_iconst C dX9_relief_46 ?_
  exact f_zret C hret hlk dX9_relief_47 (by decide) (hp _ _ (by rw [F_X9_relief, if_neg c3, if_neg c5, if_neg c7, if_neg c9, if_neg c11, if_neg c12]) (by rw [F_X9_relief, if_neg c3, if_neg c5, if_neg c7, if_neg c9, if_neg c11, if_neg c12]) (by omega))

def F_X9_weight (p1 p2 p3 : Int) (st : fS) : Int × fS := if (F_X9_isFlat p1 p2 st) = 0 then (0, st) else (if p3 < 0 then (0, st) else (if p3 ≤ 1000 then (1, sR st 2 (f_up (st.2 2) ((6 * p1) + p2) p3)) else (0, st)))
abbrev rm_X9_weight : Room := { frames := 2, cells := 0, slots := 0, locals := 43 }
set_option maxRecDepth 100000 in
set_option maxHeartbeats 8000000 in
theorem c_X9_weight {l : Launch} {D : va_G} {cI cJ cZ cB : ClassId} {b : Nat → Nat} {E : State → Prop} (hX : mHyp b E) (p1 p2 p3 : Int) (h1 : in32 p1) (h2 : in32 p2) (h3 : in32 p3) (st : fS)  : mMi l D cI cJ cZ cB b E yX9_weight wsX9_weight rm_X9_weight [.ref (b 0), .int (zI p1), .int (zI p2), .int (zI p3)] st (fun z u => z = (F_X9_weight p1 p2 p3 st).1 ∧ u = (F_X9_weight p1 p2 p3 st).2 ∧ (z = 0 ∨ z = 1)) := by
  refine fB_open (cc := cX9_weight) (maxL := 4) (ret := (some .boolean)) (by decide) rfl (Nat.le_of_ble_eq_true rfl) hX.2 ?_
  intro p e s m below meth c C hret hlk
  have hin9 : ∀ w ∈ u_ws RX9 TX9 43, w ∈ wsX9_weight := by decide +kernel
  have hp : ∀ (z : Int) (u : fS), z = (F_X9_weight p1 p2 p3 st).1 → u = (F_X9_weight p1 p2 p3 st).2 → (z = 0 ∨ z = 1) → z = (F_X9_weight p1 p2 p3 st).1 ∧ u = (F_X9_weight p1 p2 p3 st).2 ∧ (z = 0 ∨ z = 1) := fun z u h1 h2 r1 => ⟨h1, h2, r1⟩
  refine f_aload_n C 0 dX9_weight_0 rfl rfl ?_
  refine f_iload_n C 1 dX9_weight_1 rfl rfl ?_
  refine f_iload_n C 2 dX9_weight_2 rfl rfl ?_
  refine f_calli C (c_X9_isFlat hX p1 p2 ⟨by omega, by omega⟩ ⟨by omega, by omega⟩ st) (cwV 2 C.1.2.2.2.2 gX9_weight_X9_isFlat rfl rfl rfl (by decide +kernel) ⟨Nat.le_of_ble_eq_true rfl, Nat.le_of_ble_eq_true rfl⟩) 0 rfl rfl rfl rfl rfl (Nat.le_of_ble_eq_true rfl) ⟨Nat.zero_le _, Nat.zero_le _⟩ dX9_weight_3 (fun z u hz1 hu => ?_)
  obtain ⟨qz1, hu, rz1⟩ := hu; replace hu := hu.symm; subst hu; subst qz1
  refine f_if_eq C 20 ⟨by omega, by omega⟩ dX9_weight_6 (by decide) (fun c2 => ?_) (fun c2 => ?_)
  · refine f_iconst C dX9_weight_20 ?_
    exact f_zret C hret hlk dX9_weight_21 (by decide) (hp _ _ (by rw [F_X9_weight, if_pos c2]) (by rw [F_X9_weight, if_pos c2]) (by omega))
  refine f_iload_n C 3 dX9_weight_9 rfl rfl ?_
  refine f_if_lt C 20 ⟨by omega, by omega⟩ dX9_weight_10 (by decide) (fun c3 => ?_) (fun c3 => ?_)
  · refine f_iconst C dX9_weight_20 ?_
    exact f_zret C hret hlk dX9_weight_21 (by decide) (hp _ _ (by rw [F_X9_weight, if_neg c2, if_pos c3]) (by rw [F_X9_weight, if_neg c2, if_pos c3]) (by omega))
  refine f_iload_n C 3 dX9_weight_13 rfl rfl ?_
  refine f_sipush C dX9_weight_14 (by decide) ?_
  refine f_icmp_le C 22 ⟨by omega, by omega⟩ ⟨by decide, by decide⟩ dX9_weight_17 (by decide) (fun c4 => ?_) (fun c4 => ?_)
  · refine f_aload_n C 0 dX9_weight_22 rfl rfl ?_
    refine f_get C hin9 0 2 rfl rfl (Nat.le_of_ble_eq_true rfl) (by decide +kernel) rfl rfl dX9_weight_23 ?_
    refine f_bipush C dX9_weight_26 (by decide) ?_
    refine f_iload_n C 1 dX9_weight_28 rfl rfl ?_
    refine f_imul C dX9_weight_29 ?_
    refine f_iload_n C 2 dX9_weight_30 rfl rfl ?_
    refine f_iadd C dX9_weight_31 ?_
    refine f_iload_n C 3 dX9_weight_32 rfl rfl ?_
    refine f_iast C (mD hX.1 cI cJ cZ cB) (u := sR st 2 (f_up (st.2 2) ((6 * p1) + p2) p3)) (f := st.2 2) 2 0 rfl rfl ⟨by omega, by omega⟩ (Nat.le_of_ble_eq_true rfl) rfl (fun h => fOk_up h (r := 2) (show 0 ≤ p3 ∧ p3 ≤ 1000 by omega)) dX9_weight_33 ?_
    refine f_iconst C dX9_weight_34 ?_
    exact f_zret C hret hlk dX9_weight_35 (by decide) (hp _ _ (by rw [F_X9_weight, if_neg c2, if_neg c3, if_pos c4]) (by rw [F_X9_weight, if_neg c2, if_neg c3, if_pos c4]) (by omega))
  refine f_iconst C dX9_weight_20 ?_
  exact f_zret C hret hlk dX9_weight_21 (by decide) (hp _ _ (by rw [F_X9_weight, if_neg c2, if_neg c3, if_neg c4]) (by rw [F_X9_weight, if_neg c2, if_neg c3, if_neg c4]) (by omega))

def F_X9_line (p1 p2 : Int) (st : fS) : Int := if p1 < 0 then (-1) else (if (st.1 36) ≤ p1 then (-1) else (if p2 < 0 then (-1) else (if p2 ≤ 3 then (if p2 = 0 then st.2 37 p1 else (if p2 = 1 then st.2 38 p1 else (if p2 = 2 then st.2 39 p1 else st.2 40 p1))) else (-1))))
abbrev rm_X9_line : Room := { frames := 0, cells := 0, slots := 0, locals := 0 }
set_option maxRecDepth 100000 in
set_option maxHeartbeats 8000000 in
theorem c_X9_line {l : Launch} {D : va_G} {cI cJ cZ cB : ClassId} {b : Nat → Nat} {E : State → Prop} (hX : mHyp b E) (p1 p2 : Int) (h1 : in32 p1) (h2 : in32 p2) (st : fS)  : mMl l D cI cJ cZ cB b E yX9_line wsX9_line rm_X9_line [.ref (b 0), .int (zI p1), .int (zI p2)] st (fun z u => z = F_X9_line p1 p2 st ∧ u = st) := by
  refine fB_open (cc := cX9_line) (maxL := 3) (ret := (some .long)) (by decide) rfl (Nat.le_of_ble_eq_true rfl) hX.2 ?_
  intro p e s m below meth c C hret hlk
  have hin9 : ∀ w ∈ u_ws RX9 TX9 43, w ∈ wsX9_line := by decide +kernel
  have hp : ∀ z : Int, z = F_X9_line p1 p2 st → z = F_X9_line p1 p2 st ∧ st = st := fun z h => ⟨h, rfl⟩
  refine f_iload_n C 1 dX9_line_0 rfl rfl ?_
  refine f_if_lt C 21 ⟨by omega, by omega⟩ dX9_line_1 (by decide) (fun c1 => ?_) (fun c1 => ?_)
  · refine f_ldc2 C (v := (-1)) (z := (-1)) (by decide +kernel) (by decide) dX9_line_21 ?_
    exact f_lret C hret hlk dX9_line_24 ⟨by decide, by decide⟩ (hp _ (by rw [F_X9_line, if_pos c1]))
  refine f_iload_n C 1 dX9_line_4 rfl rfl ?_
  refine f_aload_n C 0 dX9_line_5 rfl rfl ?_
  refine f_ok (fun hO2 => ?_)
  have k3 : 0 ≤ st.1 36 ∧ st.1 36 ≤ 24 := hO2.1 36
  refine f_get C (v := .int (zI (st.1 36))) hin9 0 36 rfl rfl (Nat.le_of_ble_eq_true rfl) (by decide +kernel) rfl rfl dX9_line_6 ?_
  refine f_icmp_ge C 21 ⟨by omega, by omega⟩ ⟨by omega, by omega⟩ dX9_line_9 (by decide) (fun c4 => ?_) (fun c4 => ?_)
  · refine f_ldc2 C (v := (-1)) (z := (-1)) (by decide +kernel) (by decide) dX9_line_21 ?_
    exact f_lret C hret hlk dX9_line_24 ⟨by decide, by decide⟩ (hp _ (by rw [F_X9_line, if_neg c1, if_pos c4]))
  refine f_iload_n C 2 dX9_line_12 rfl rfl ?_
  refine f_if_lt C 21 ⟨by omega, by omega⟩ dX9_line_13 (by decide) (fun c5 => ?_) (fun c5 => ?_)
  · refine f_ldc2 C (v := (-1)) (z := (-1)) (by decide +kernel) (by decide) dX9_line_21 ?_
    exact f_lret C hret hlk dX9_line_24 ⟨by decide, by decide⟩ (hp _ (by rw [F_X9_line, if_neg c1, if_neg c4, if_pos c5]))
  refine f_iload_n C 2 dX9_line_16 rfl rfl ?_
  refine f_iconst C dX9_line_17 ?_
  refine f_icmp_le C 25 ⟨by omega, by omega⟩ ⟨by decide, by decide⟩ dX9_line_18 (by decide) (fun c6 => ?_) (fun c6 => ?_)
  · refine f_iload_n C 2 dX9_line_25 rfl rfl ?_
    refine f_if_ne C 39 ⟨by omega, by omega⟩ dX9_line_26 (by decide) (fun c7 => ?_) (fun c7 => ?_)
    · refine f_iload_n C 2 dX9_line_39 rfl rfl ?_
      refine f_iconst C dX9_line_40 ?_
      refine f_icmp_ne C 53 ⟨by omega, by omega⟩ ⟨by decide, by decide⟩ dX9_line_41 (by decide) (fun c8 => ?_) (fun c8 => ?_)
      · refine f_iload_n C 2 dX9_line_53 rfl rfl ?_
        refine f_iconst C dX9_line_54 ?_
        refine f_icmp_ne C 68 ⟨by omega, by omega⟩ ⟨by decide, by decide⟩ dX9_line_55 (by decide) (fun c9 => ?_) (fun c9 => ?_)
        · refine f_aload_n C 0 dX9_line_68 rfl rfl ?_
          refine f_get C hin9 0 40 rfl rfl (Nat.le_of_ble_eq_true rfl) (by decide +kernel) rfl rfl dX9_line_69 ?_
          refine f_iload_n C 1 dX9_line_72 rfl rfl ?_
          refine f_iald C (f := st.2 40) 33 0 rfl rfl ⟨by omega, by omega⟩ (Nat.le_of_ble_eq_true rfl) dX9_line_73 ?_
          have k10 : 0 ≤ st.2 40 p1 ∧ st.2 40 p1 ≤ 2 := hO2.2 40 p1
          refine f_i2l C ⟨by omega, by omega⟩ dX9_line_74 ?_
          exact f_lret C hret hlk dX9_line_75 ⟨by omega, by omega⟩ (hp _ (by rw [F_X9_line, if_neg c1, if_neg c4, if_neg c5, if_pos c6, if_neg c7, if_neg c8, if_neg c9]))
        refine f_aload_n C 0 dX9_line_58 rfl rfl ?_
        refine f_get C hin9 0 39 rfl rfl (Nat.le_of_ble_eq_true rfl) (by decide +kernel) rfl rfl dX9_line_59 ?_
        refine f_iload_n C 1 dX9_line_62 rfl rfl ?_
        refine f_iald C (f := st.2 39) 32 0 rfl rfl ⟨by omega, by omega⟩ (Nat.le_of_ble_eq_true rfl) dX9_line_63 ?_
        have k11 : (-1) ≤ st.2 39 p1 ∧ st.2 39 p1 ≤ 5 := hO2.2 39 p1
        refine f_i2l C ⟨by omega, by omega⟩ dX9_line_64 ?_
        refine f_goto C 75 dX9_line_65 (by decide) ?_
        exact f_lret C hret hlk dX9_line_75 ⟨by omega, by omega⟩ (hp _ (by rw [F_X9_line, if_neg c1, if_neg c4, if_neg c5, if_pos c6, if_neg c7, if_neg c8, if_pos c9]))
      refine f_aload_n C 0 dX9_line_44 rfl rfl ?_
      refine f_get C hin9 0 38 rfl rfl (Nat.le_of_ble_eq_true rfl) (by decide +kernel) rfl rfl dX9_line_45 ?_
      refine f_iload_n C 1 dX9_line_48 rfl rfl ?_
      refine f_lald C (f := st.2 38) 31 1 rfl rfl ⟨by omega, by omega⟩ (Nat.le_of_ble_eq_true rfl) dX9_line_49 ?_
      have k12 : (-1) ≤ st.2 38 p1 ∧ st.2 38 p1 ≤ 1000000000000 := hO2.2 38 p1
      refine f_goto C 75 dX9_line_50 (by decide) ?_
      exact f_lret C hret hlk dX9_line_75 ⟨by omega, by omega⟩ (hp _ (by rw [F_X9_line, if_neg c1, if_neg c4, if_neg c5, if_pos c6, if_neg c7, if_pos c8]))
    refine f_aload_n C 0 dX9_line_29 rfl rfl ?_
    refine f_get C hin9 0 37 rfl rfl (Nat.le_of_ble_eq_true rfl) (by decide +kernel) rfl rfl dX9_line_30 ?_
    refine f_iload_n C 1 dX9_line_33 rfl rfl ?_
    refine f_iald C (f := st.2 37) 30 0 rfl rfl ⟨by omega, by omega⟩ (Nat.le_of_ble_eq_true rfl) dX9_line_34 ?_
    have k13 : 0 ≤ st.2 37 p1 ∧ st.2 37 p1 ≤ 23 := hO2.2 37 p1
    refine f_i2l C ⟨by omega, by omega⟩ dX9_line_35 ?_
    refine f_goto C 75 dX9_line_36 (by decide) ?_
    exact f_lret C hret hlk dX9_line_75 ⟨by omega, by omega⟩ (hp _ (by rw [F_X9_line, if_neg c1, if_neg c4, if_neg c5, if_pos c6, if_pos c7]))
  refine f_ldc2 C (v := (-1)) (z := (-1)) (by decide +kernel) (by decide) dX9_line_21 ?_
  exact f_lret C hret hlk dX9_line_24 ⟨by decide, by decide⟩ (hp _ (by rw [F_X9_line, if_neg c1, if_neg c4, if_neg c5, if_neg c6]))

def F_X9_write (p1 : Int) (st : fS) : Int := if p1 < 0 then (-1) else (if p1 < (st.1 41) then st.2 42 p1 else (-1))
abbrev rm_X9_write : Room := { frames := 0, cells := 0, slots := 0, locals := 0 }
set_option maxRecDepth 100000 in
set_option maxHeartbeats 8000000 in
theorem c_X9_write {l : Launch} {D : va_G} {cI cJ cZ cB : ClassId} {b : Nat → Nat} {E : State → Prop} (hX : mHyp b E) (p1 : Int) (h1 : in32 p1) (st : fS)  : mMi l D cI cJ cZ cB b E yX9_write wsX9_write rm_X9_write [.ref (b 0), .int (zI p1)] st (fun z u => z = F_X9_write p1 st ∧ u = st) := by
  refine fB_open (cc := cX9_write) (maxL := 2) (ret := (some .int)) (by decide) rfl (Nat.le_of_ble_eq_true rfl) hX.2 ?_
  intro p e s m below meth c C hret hlk
  have hin9 : ∀ w ∈ u_ws RX9 TX9 43, w ∈ wsX9_write := by decide +kernel
  have hp : ∀ z : Int, z = F_X9_write p1 st → z = F_X9_write p1 st ∧ st = st := fun z h => ⟨h, rfl⟩
  refine f_iload_n C 1 dX9_write_0 rfl rfl ?_
  refine f_if_lt C 12 ⟨by omega, by omega⟩ dX9_write_1 (by decide) (fun c1 => ?_) (fun c1 => ?_)
  · refine f_iconst C dX9_write_12 ?_
    refine f_goto C 22 dX9_write_13 (by decide) ?_
    exact f_iret C hret hlk dX9_write_22 ⟨by decide, by decide⟩ (hp _ (by rw [F_X9_write, if_pos c1]))
  refine f_iload_n C 1 dX9_write_4 rfl rfl ?_
  refine f_aload_n C 0 dX9_write_5 rfl rfl ?_
  refine f_ok (fun hO2 => ?_)
  have k3 : 0 ≤ st.1 41 ∧ st.1 41 ≤ 900 := hO2.1 41
  refine f_get C (v := .int (zI (st.1 41))) hin9 0 41 rfl rfl (Nat.le_of_ble_eq_true rfl) (by decide +kernel) rfl rfl dX9_write_6 ?_
  refine f_icmp_lt C 16 ⟨by omega, by omega⟩ ⟨by omega, by omega⟩ dX9_write_9 (by decide) (fun c4 => ?_) (fun c4 => ?_)
  · refine f_aload_n C 0 dX9_write_16 rfl rfl ?_
    refine f_get C hin9 0 42 rfl rfl (Nat.le_of_ble_eq_true rfl) (by decide +kernel) rfl rfl dX9_write_17 ?_
    refine f_iload_n C 1 dX9_write_20 rfl rfl ?_
    refine f_bald C (f := st.2 42) 34 3 rfl rfl ⟨by omega, by omega⟩ (Nat.le_of_ble_eq_true rfl) dX9_write_21 ?_
    have k5 : (-128) ≤ st.2 42 p1 ∧ st.2 42 p1 ≤ 127 := hO2.2 42 p1
    exact f_iret C hret hlk dX9_write_22 ⟨by omega, by omega⟩ (hp _ (by rw [F_X9_write, if_neg c1, if_pos c4]))
  refine f_iconst C dX9_write_12 ?_
  refine f_goto C 22 dX9_write_13 (by decide) ?_
  exact f_iret C hret hlk dX9_write_22 ⟨by decide, by decide⟩ (hp _ (by rw [F_X9_write, if_neg c1, if_neg c4]))

def F_X9_issued (p1 p2 : Int) (st : fS) : Int := if (F_X9_isHouse p1 st) = 0 then (-9223372036854775808) else (if (F_X9_isMonth p2 st) = 0 then (-9223372036854775808) else st.2 30 ((120 * p1) + p2))
abbrev rm_X9_issued : Room := { frames := 1, cells := 0, slots := 0, locals := 21 }
set_option maxRecDepth 100000 in
set_option maxHeartbeats 8000000 in
theorem c_X9_issued {l : Launch} {D : va_G} {cI cJ cZ cB : ClassId} {b : Nat → Nat} {E : State → Prop} (hX : mHyp b E) (p1 p2 : Int) (h1 : in32 p1) (h2 : in32 p2) (st : fS)  : mMl l D cI cJ cZ cB b E yX9_issued wsX9_issued rm_X9_issued [.ref (b 0), .int (zI p1), .int (zI p2)] st (fun z u => z = F_X9_issued p1 p2 st ∧ u = st) := by
  refine fB_open (cc := cX9_issued) (maxL := 3) (ret := (some .long)) (by decide) rfl (Nat.le_of_ble_eq_true rfl) hX.2 ?_
  intro p e s m below meth c C hret hlk
  have hin9 : ∀ w ∈ u_ws RX9 TX9 43, w ∈ wsX9_issued := by decide +kernel
  have hp : ∀ z : Int, z = F_X9_issued p1 p2 st → z = F_X9_issued p1 p2 st ∧ st = st := fun z h => ⟨h, rfl⟩
  refine f_aload_n C 0 dX9_issued_0 rfl rfl ?_
  refine f_iload_n C 1 dX9_issued_1 rfl rfl ?_
  refine f_calli C (c_X9_isHouse hX p1 ⟨by omega, by omega⟩ st) (cwV 1 C.1.2.2.2.2 gX9_issued_X9_isHouse rfl rfl rfl (by decide +kernel) ⟨Nat.le_of_ble_eq_true rfl, Nat.le_of_ble_eq_true rfl⟩) 0 rfl rfl rfl rfl rfl (Nat.le_of_ble_eq_true rfl) ⟨Nat.zero_le _, Nat.zero_le _⟩ dX9_issued_2 (fun z u hz1 hu => ?_)
  obtain ⟨qz1, hu, rz1⟩ := hu; replace hu := hu.symm; subst hu; subst qz1
  refine f_if_eq C 29 ⟨by omega, by omega⟩ dX9_issued_5 (by decide) (fun c2 => ?_) (fun c2 => ?_)
  · refine f_ldc2 C (v := (-9223372036854775808)) (z := (-9223372036854775808)) (by decide +kernel) (by decide) dX9_issued_29 ?_
    exact f_lret C hret hlk dX9_issued_32 ⟨by decide, by decide⟩ (hp _ (by rw [F_X9_issued, if_pos c2]))
  refine f_iload_n C 2 dX9_issued_8 rfl rfl ?_
  refine f_callsi C (c_X9_isMonth hX p2 ⟨by omega, by omega⟩ st) (va_cwS 1 C.1.2.2.2.2 gX9_issued_X9_isMonth rfl rfl rfl (by decide +kernel) ⟨Nat.le_of_ble_eq_true rfl, Nat.le_of_ble_eq_true rfl⟩) rfl rfl (Nat.le_of_ble_eq_true rfl) ⟨Nat.zero_le _, Nat.zero_le _⟩ dX9_issued_9 (fun z u hz3 hu => ?_)
  obtain ⟨qz3, hu, rz3⟩ := hu; replace hu := hu.symm; subst hu; subst qz3
  refine f_if_eq C 29 ⟨by omega, by omega⟩ dX9_issued_12 (by decide) (fun c4 => ?_) (fun c4 => ?_)
  · refine f_ldc2 C (v := (-9223372036854775808)) (z := (-9223372036854775808)) (by decide +kernel) (by decide) dX9_issued_29 ?_
    exact f_lret C hret hlk dX9_issued_32 ⟨by decide, by decide⟩ (hp _ (by rw [F_X9_issued, if_neg c2, if_pos c4]))
  refine f_aload_n C 0 dX9_issued_15 rfl rfl ?_
  refine f_get C hin9 0 30 rfl rfl (Nat.le_of_ble_eq_true rfl) (by decide +kernel) rfl rfl dX9_issued_16 ?_
  refine f_bipush C dX9_issued_19 (by decide) ?_
  refine f_iload_n C 1 dX9_issued_21 rfl rfl ?_
  refine f_imul C dX9_issued_22 ?_
  refine f_iload_n C 2 dX9_issued_23 rfl rfl ?_
  refine f_iadd C dX9_issued_24 ?_
  refine f_lald C (f := st.2 30) 25 1 rfl rfl ⟨by omega, by omega⟩ (Nat.le_of_ble_eq_true rfl) dX9_issued_25 ?_
  refine f_ok (fun hO5 => ?_)
  have k6 : (-10000000000000000) ≤ st.2 30 ((120 * p1) + p2) ∧ st.2 30 ((120 * p1) + p2) ≤ 10000000000000000 := hO5.2 30 ((120 * p1) + p2)
  refine f_goto C 32 dX9_issued_26 (by decide) ?_
  exact f_lret C hret hlk dX9_issued_32 ⟨by omega, by omega⟩ (hp _ (by rw [F_X9_issued, if_neg c2, if_neg c4]))

def F_X9_reverse (p1 p2 : Int) (st : fS) : Int × fS := if (F_X9_isHouse p1 st) = 0 then ((-9223372036854775808), st) else (if (F_X9_isMonth p2 st) = 0 then ((-9223372036854775808), st) else (-(st.2 30 ((120 * p1) + p2)), sR st 30 (f_up (st.2 30) ((120 * p1) + p2) 0)))
abbrev rm_X9_reverse : Room := { frames := 1, cells := 0, slots := 0, locals := 21 }
set_option maxRecDepth 100000 in
set_option maxHeartbeats 8000000 in
theorem c_X9_reverse {l : Launch} {D : va_G} {cI cJ cZ cB : ClassId} {b : Nat → Nat} {E : State → Prop} (hX : mHyp b E) (p1 p2 : Int) (h1 : in32 p1) (h2 : in32 p2) (st : fS)  : mMl l D cI cJ cZ cB b E yX9_reverse wsX9_reverse rm_X9_reverse [.ref (b 0), .int (zI p1), .int (zI p2)] st (fun z u => z = (F_X9_reverse p1 p2 st).1 ∧ u = (F_X9_reverse p1 p2 st).2) := by
  refine fB_open (cc := cX9_reverse) (maxL := 5) (ret := (some .long)) (by decide) rfl (Nat.le_of_ble_eq_true rfl) hX.2 ?_
  intro p e s m below meth c C hret hlk
  have hin9 : ∀ w ∈ u_ws RX9 TX9 43, w ∈ wsX9_reverse := by decide +kernel
  have hp : ∀ (z : Int) (u : fS), z = (F_X9_reverse p1 p2 st).1 → u = (F_X9_reverse p1 p2 st).2 → z = (F_X9_reverse p1 p2 st).1 ∧ u = (F_X9_reverse p1 p2 st).2 := fun z u h1 h2 => ⟨h1, h2⟩
  refine f_aload_n C 0 dX9_reverse_0 rfl rfl ?_
  refine f_iload_n C 1 dX9_reverse_1 rfl rfl ?_
  refine f_calli C (c_X9_isHouse hX p1 ⟨by omega, by omega⟩ st) (cwV 1 C.1.2.2.2.2 gX9_reverse_X9_isHouse rfl rfl rfl (by decide +kernel) ⟨Nat.le_of_ble_eq_true rfl, Nat.le_of_ble_eq_true rfl⟩) 0 rfl rfl rfl rfl rfl (Nat.le_of_ble_eq_true rfl) ⟨Nat.zero_le _, Nat.zero_le _⟩ dX9_reverse_2 (fun z u hz1 hu => ?_)
  obtain ⟨qz1, hu, rz1⟩ := hu; replace hu := hu.symm; subst hu; subst qz1
  refine f_if_eq C 15 ⟨by omega, by omega⟩ dX9_reverse_5 (by decide) (fun c2 => ?_) (fun c2 => ?_)
  · refine f_ldc2 C (v := (-9223372036854775808)) (z := (-9223372036854775808)) (by decide +kernel) (by decide) dX9_reverse_15 ?_
    exact f_lret C hret hlk dX9_reverse_18 ⟨by decide, by decide⟩ (hp _ _ (by rw [F_X9_reverse, if_pos c2]) (by rw [F_X9_reverse, if_pos c2]))
  refine f_iload_n C 2 dX9_reverse_8 rfl rfl ?_
  refine f_callsi C (c_X9_isMonth hX p2 ⟨by omega, by omega⟩ st) (va_cwS 1 C.1.2.2.2.2 gX9_reverse_X9_isMonth rfl rfl rfl (by decide +kernel) ⟨Nat.le_of_ble_eq_true rfl, Nat.le_of_ble_eq_true rfl⟩) rfl rfl (Nat.le_of_ble_eq_true rfl) ⟨Nat.zero_le _, Nat.zero_le _⟩ dX9_reverse_9 (fun z u hz3 hu => ?_)
  obtain ⟨qz3, hu, rz3⟩ := hu; replace hu := hu.symm; subst hu; subst qz3
  refine f_if_ne C 19 ⟨by omega, by omega⟩ dX9_reverse_12 (by decide) (fun c4 => ?_) (fun c4 => ?_)
  · refine f_aload_n C 0 dX9_reverse_19 rfl rfl ?_
    refine f_get C hin9 0 30 rfl rfl (Nat.le_of_ble_eq_true rfl) (by decide +kernel) rfl rfl dX9_reverse_20 ?_
    refine f_bipush C dX9_reverse_23 (by decide) ?_
    refine f_iload_n C 1 dX9_reverse_25 rfl rfl ?_
    refine f_imul C dX9_reverse_26 ?_
    refine f_iload_n C 2 dX9_reverse_27 rfl rfl ?_
    refine f_iadd C dX9_reverse_28 ?_
    refine f_lald C (f := st.2 30) 25 1 rfl rfl ⟨by omega, by omega⟩ (Nat.le_of_ble_eq_true rfl) dX9_reverse_29 ?_
    refine f_ok (fun hO5 => ?_)
    have k6 : (-10000000000000000) ≤ st.2 30 ((120 * p1) + p2) ∧ st.2 30 ((120 * p1) + p2) ≤ 10000000000000000 := hO5.2 30 ((120 * p1) + p2)
    refine f_lstore_n C 3 (lv' := [(3, .long (zJ (st.2 30 ((120 * p1) + p2)))), (0, .ref (b 0)), (1, .int (zI p1)), (2, .int (zI p2))]) dX9_reverse_30 rfl (Nat.le_of_ble_eq_true rfl) rfl ?_
    refine f_aload_n C 0 dX9_reverse_31 rfl rfl ?_
    refine f_get C hin9 0 30 rfl rfl (Nat.le_of_ble_eq_true rfl) (by decide +kernel) rfl rfl dX9_reverse_32 ?_
    refine f_bipush C dX9_reverse_35 (by decide) ?_
    refine f_iload_n C 1 dX9_reverse_37 rfl rfl ?_
    refine f_imul C dX9_reverse_38 ?_
    refine f_iload_n C 2 dX9_reverse_39 rfl rfl ?_
    refine f_iadd C dX9_reverse_40 ?_
    refine f_lconst C (z := 0) dX9_reverse_41 rfl ?_
    refine f_last C (mD hX.1 cI cJ cZ cB) (u := sR st 30 (f_up (st.2 30) ((120 * p1) + p2) 0)) (f := st.2 30) 25 1 rfl rfl ⟨by omega, by omega⟩ (Nat.le_of_ble_eq_true rfl) rfl (fun h => fOk_up h (r := 30) (show (-10000000000000000) ≤ (0 : Int) ∧ (0 : Int) ≤ 10000000000000000 by omega)) dX9_reverse_42 ?_
    refine f_lload_n C 3 dX9_reverse_43 rfl rfl ?_
    refine f_lneg C dX9_reverse_44 ?_
    exact f_lret C hret hlk dX9_reverse_45 ⟨by omega, by omega⟩ (hp _ _ (by rw [F_X9_reverse, if_neg c2, if_neg c4]) (by rw [F_X9_reverse, if_neg c2, if_neg c4]))
  refine f_ldc2 C (v := (-9223372036854775808)) (z := (-9223372036854775808)) (by decide +kernel) (by decide) dX9_reverse_15 ?_
  exact f_lret C hret hlk dX9_reverse_18 ⟨by decide, by decide⟩ (hp _ _ (by rw [F_X9_reverse, if_neg c2, if_pos c4]) (by rw [F_X9_reverse, if_neg c2, if_pos c4]))

def F_X9_open_4 (v1 : Int) : Nat → Int → Int → fS → Int
  | 0, _, _, _ => 0
  | n + 1, v2, v3, st => if (st.1 36) ≤ v3 then (-1) else (if v1 < 0 then (-1) else (if (st.2 40 v3) = 0 then F_X9_open_4 v1 (n) v2 (v3 + 1) st else (if v2 = 0 then st.2 37 v3 else F_X9_open_4 v1 (n) (v2 + (-1)) (v3 + 1) st)))

def F_X9_open (p1 : Int) (st : fS) : Int := F_X9_open_4 p1 (Int.toNat ((st.1 36) - (0 : Int)) + 1) p1 0 st
abbrev rm_X9_open : Room := { frames := 0, cells := 0, slots := 0, locals := 0 }
set_option maxRecDepth 100000 in
set_option maxHeartbeats 8000000 in
theorem v_X9_open_4 {l : Launch} {D : va_G} {cI cJ cZ cB : ClassId} {b : Nat → Nat} {E : State → Prop} (hX : mHyp b E) (v1 : Int) (hv1 : in32 v1) {p : Program} {e : Env} {s : State} {m : MethodId} {args : Array Value} {below : List Frame} {meth : Method} {c : Code} (C : fC p m c cX9_open 4 s args wsX9_open yX9_open.cls D (fTys cI cJ cZ cB) E (mA b)) (hret : meth.sig.returnType = (some .int)) (hlk : meth.locks = false) {post : Int → fS → Prop} : ∀ (n : Nat) (v2 v3 : Int) (st : fS), in32 v2 → in32 v3 → (0 ≤ v3 ∧ v3 ≤ st.1 36) → (v1 - v3 ≤ v2 ∧ v2 ≤ v1) → (0 ≤ st.1 36 ∧ st.1 36 ≤ 24) → st.1 36 - v3 < n → (∀ z : Int, z = F_X9_open_4 v1 n v2 v3 st → post z st) → fV D (wM cI cJ cZ cB b) mOk (mA b) 4 p l e rm_X9_open s m args below meth c 0 0 (fMQ below (fQi D (wM cI cJ cZ cB b) mOk (mA b) post) args s (mA b)) st 4 [(0, .ref (b 0)), (1, .int (zI v1)), (2, .int (zI v2)), (3, .int (zI v3))] [] := by
  have hin9 : ∀ w ∈ u_ws RX9 TX9 43, w ∈ wsX9_open := by decide +kernel
  intro n
  induction n with
  | zero =>
    intro v2 v3 st hv2 hv3 i0 i1 i2 hm hp
    omega
  | succ n ih =>
    intro v2 v3 st hv2 hv3 i0 i1 i2 hm hp
    refine f_iload_n C 3 dX9_open_4 rfl rfl ?_
    refine f_aload_n C 0 dX9_open_5 rfl rfl ?_
    refine f_ok (fun hO1 => ?_)
    have k2 : 0 ≤ st.1 36 ∧ st.1 36 ≤ 24 := hO1.1 36
    refine f_get C (v := .int (zI (st.1 36))) hin9 0 36 rfl rfl (Nat.le_of_ble_eq_true rfl) (by decide +kernel) rfl rfl dX9_open_6 ?_
    refine f_icmp_ge C 48 ⟨by omega, by omega⟩ ⟨by omega, by omega⟩ dX9_open_9 (by decide) (fun c3 => ?_) (fun c3 => ?_)
    · refine f_iconst C dX9_open_48 ?_
      exact f_iret C hret hlk dX9_open_49 ⟨by decide, by decide⟩ (hp _ (by rw [F_X9_open_4, if_pos c3]))
    refine f_iload_n C 1 dX9_open_12 rfl rfl ?_
    refine f_if_lt C 48 ⟨by omega, by omega⟩ dX9_open_13 (by decide) (fun c4 => ?_) (fun c4 => ?_)
    · refine f_iconst C dX9_open_48 ?_
      exact f_iret C hret hlk dX9_open_49 ⟨by decide, by decide⟩ (hp _ (by rw [F_X9_open_4, if_neg c3, if_pos c4]))
    refine f_aload_n C 0 dX9_open_16 rfl rfl ?_
    refine f_get C hin9 0 40 rfl rfl (Nat.le_of_ble_eq_true rfl) (by decide +kernel) rfl rfl dX9_open_17 ?_
    refine f_iload_n C 3 dX9_open_20 rfl rfl ?_
    refine f_iald C (f := st.2 40) 33 0 rfl rfl ⟨by omega, by omega⟩ (Nat.le_of_ble_eq_true rfl) dX9_open_21 ?_
    have k5 : 0 ≤ st.2 40 v3 ∧ st.2 40 v3 ≤ 2 := hO1.2 40 v3
    refine f_if_ne C 28 ⟨by omega, by omega⟩ dX9_open_22 (by decide) (fun c6 => ?_) (fun c6 => ?_)
    · refine f_iload_n C 2 dX9_open_28 rfl rfl ?_
      refine f_if_ne C 39 ⟨by omega, by omega⟩ dX9_open_29 (by decide) (fun c7 => ?_) (fun c7 => ?_)
      · refine f_iinc C (lv' := [(2, .int (zI (v2 + (-1)))), (0, .ref (b 0)), (1, .int (zI v1)), (3, .int (zI v3))]) 2 dX9_open_39 rfl (Nat.le_of_ble_eq_true rfl) rfl ?_
        refine f_iinc C (lv' := [(3, .int (zI (v3 + 1))), (2, .int (zI (v2 + (-1)))), (0, .ref (b 0)), (1, .int (zI v1))]) 3 dX9_open_42 rfl (Nat.le_of_ble_eq_true rfl) rfl ?_
        refine f_goto C 4 dX9_open_45 (by decide) ?_
        refine f_re (lv' := [(0, .ref (b 0)), (1, .int (zI v1)), (2, .int (zI (v2 + (-1)))), (3, .int (zI (v3 + 1)))]) [2, 3, 1, 0] rfl ?_
        exact ih (v2 + (-1)) (v3 + 1) st ⟨by omega, by omega⟩ ⟨by omega, by omega⟩ (show 0 ≤ (v3 + 1) ∧ (v3 + 1) ≤ (st.1 36) by omega) (show v1 - (v3 + 1) ≤ (v2 + (-1)) ∧ (v2 + (-1)) ≤ v1 by omega) (show 0 ≤ (st.1 36) ∧ (st.1 36) ≤ 24 by omega) (show (st.1 36) - (v3 + 1) < ((n : Nat) : Int) by omega) (fun z e1 => hp z (by rw [F_X9_open_4, if_neg c3, if_neg c4, if_neg c6, if_neg c7]; exact e1))
      refine f_aload_n C 0 dX9_open_32 rfl rfl ?_
      refine f_get C hin9 0 37 rfl rfl (Nat.le_of_ble_eq_true rfl) (by decide +kernel) rfl rfl dX9_open_33 ?_
      refine f_iload_n C 3 dX9_open_36 rfl rfl ?_
      refine f_iald C (f := st.2 37) 30 0 rfl rfl ⟨by omega, by omega⟩ (Nat.le_of_ble_eq_true rfl) dX9_open_37 ?_
      have k8 : 0 ≤ st.2 37 v3 ∧ st.2 37 v3 ≤ 23 := hO1.2 37 v3
      exact f_iret C hret hlk dX9_open_38 ⟨by omega, by omega⟩ (hp _ (by rw [F_X9_open_4, if_neg c3, if_neg c4, if_neg c6, if_pos c7]))
    refine f_goto C 42 dX9_open_25 (by decide) ?_
    refine f_iinc C (lv' := [(3, .int (zI (v3 + 1))), (0, .ref (b 0)), (1, .int (zI v1)), (2, .int (zI v2))]) 3 dX9_open_42 rfl (Nat.le_of_ble_eq_true rfl) rfl ?_
    refine f_goto C 4 dX9_open_45 (by decide) ?_
    refine f_re (lv' := [(0, .ref (b 0)), (1, .int (zI v1)), (2, .int (zI v2)), (3, .int (zI (v3 + 1)))]) [1, 2, 3, 0] rfl ?_
    exact ih v2 (v3 + 1) st ⟨by omega, by omega⟩ ⟨by omega, by omega⟩ (show 0 ≤ (v3 + 1) ∧ (v3 + 1) ≤ (st.1 36) by omega) (show v1 - (v3 + 1) ≤ v2 ∧ v2 ≤ v1 by omega) (show 0 ≤ (st.1 36) ∧ (st.1 36) ≤ 24 by omega) (show (st.1 36) - (v3 + 1) < ((n : Nat) : Int) by omega) (fun z e1 => hp z (by rw [F_X9_open_4, if_neg c3, if_neg c4, if_pos c6]; exact e1))
set_option maxRecDepth 100000 in
set_option maxHeartbeats 8000000 in
theorem c_X9_open {l : Launch} {D : va_G} {cI cJ cZ cB : ClassId} {b : Nat → Nat} {E : State → Prop} (hX : mHyp b E) (p1 : Int) (h1 : in32 p1) (st : fS)  : mMi l D cI cJ cZ cB b E yX9_open wsX9_open rm_X9_open [.ref (b 0), .int (zI p1)] st (fun z u => z = F_X9_open p1 st ∧ u = st) := by
  refine fB_open (cc := cX9_open) (maxL := 4) (ret := (some .int)) (by decide) rfl (Nat.le_of_ble_eq_true rfl) hX.2 ?_
  intro p e s m below meth c C hret hlk
  have hp : ∀ z : Int, z = F_X9_open p1 st → z = F_X9_open p1 st ∧ st = st := fun z h => ⟨h, rfl⟩
  refine f_iload_n C 1 dX9_open_0 rfl rfl ?_
  refine f_istore_n C 2 (lv' := [(2, .int (zI p1)), (0, .ref (b 0)), (1, .int (zI p1))]) dX9_open_1 rfl (Nat.le_of_ble_eq_true rfl) rfl ?_
  refine f_iconst C dX9_open_2 ?_
  refine f_istore_n C 3 (lv' := [(3, .int (zI 0)), (2, .int (zI p1)), (0, .ref (b 0)), (1, .int (zI p1))]) dX9_open_3 rfl (Nat.le_of_ble_eq_true rfl) rfl ?_
  refine f_re (lv' := [(0, .ref (b 0)), (1, .int (zI p1)), (2, .int (zI p1)), (3, .int (zI 0))]) [2, 3, 1, 0] rfl ?_
  refine f_ok (fun hO9 => ?_)
  have k10 : 0 ≤ st.1 36 ∧ st.1 36 ≤ 24 := hO9.1 36
  exact v_X9_open_4 hX p1 ⟨by omega, by omega⟩ C hret hlk (Int.toNat ((st.1 36) - (0 : Int)) + 1) p1 0 st ⟨by omega, by omega⟩ ⟨by omega, by omega⟩ (show 0 ≤ (0 : Int) ∧ (0 : Int) ≤ (st.1 36) by omega) (show p1 - (0 : Int) ≤ p1 ∧ p1 ≤ p1 by omega) (show 0 ≤ (st.1 36) ∧ (st.1 36) ≤ 24 by omega) (show (st.1 36) - (0 : Int) < ((Int.toNat ((st.1 36) - (0 : Int)) + 1 : Nat) : Int) by omega) (fun z e1 => hp z (by rw [F_X9_open]; exact e1))

def F_X9_edition_53 (v1 : Int) : Nat → Int → Int → fS → Int
  | 0, _, _, _ => 0
  | n + 1, v3, v4, st => if 6 ≤ v4 then v3 else (if (st.2 17 ((6 * v1) + v4)) = 0 then F_X9_edition_53 v1 (n) (v3 + 0) (v4 + 1) st else F_X9_edition_53 v1 (n) (v3 + 1) (v4 + 1) st)

def F_X9_edition (p1 p2 : Int) (st : fS) : Int := if p1 < 0 then (-1) else (if (st.1 14) ≤ p1 then (-1) else (if p2 < 0 then (-1) else (if p2 ≤ 2 then (if 2 ≤ p2 then F_X9_edition_53 p1 (Int.toNat (6 - (0 : Int)) + 1) 0 0 st else (if p2 = 0 then st.2 15 p1 else st.2 16 p1)) else (-1))))
abbrev rm_X9_edition : Room := { frames := 0, cells := 0, slots := 0, locals := 0 }
set_option maxRecDepth 100000 in
set_option maxHeartbeats 8000000 in
theorem v_X9_edition_53 {l : Launch} {D : va_G} {cI cJ cZ cB : ClassId} {b : Nat → Nat} {E : State → Prop} (hX : mHyp b E) (v1 : Int) (hv1 : in32 v1) {p : Program} {e : Env} {s : State} {m : MethodId} {args : Array Value} {below : List Frame} {meth : Method} {c : Code} (C : fC p m c cX9_edition 5 s args wsX9_edition yX9_edition.cls D (fTys cI cJ cZ cB) E (mA b)) (hret : meth.sig.returnType = (some .int)) (hlk : meth.locks = false) {post : Int → fS → Prop} : ∀ (n : Nat) (v3 v4 : Int) (st : fS), in32 v3 → in32 v4 → (0 ≤ v4 ∧ v4 ≤ 6) → (0 ≤ v3 ∧ v3 ≤ v4) → (0 ≤ v1 ∧ v1 ≤ 5) → 6 - v4 < n → (∀ z : Int, z = F_X9_edition_53 v1 n v3 v4 st → post z st) → fV D (wM cI cJ cZ cB b) mOk (mA b) 5 p l e rm_X9_edition s m args below meth c 0 0 (fMQ below (fQi D (wM cI cJ cZ cB b) mOk (mA b) post) args s (mA b)) st 53 [(0, .ref (b 0)), (1, .int (zI v1)), (3, .int (zI v3)), (4, .int (zI v4))] [] := by
  have hin9 : ∀ w ∈ u_ws RX9 TX9 43, w ∈ wsX9_edition := by decide +kernel
  intro n
  induction n with
  | zero =>
    intro v3 v4 st hv3 hv4 i0 i1 i2 hm hp
    omega
  | succ n ih =>
    intro v3 v4 st hv3 hv4 i0 i1 i2 hm hp
    refine f_iload C 4 dX9_edition_53 rfl ?_
    refine f_bipush C dX9_edition_55 (by decide) ?_
    refine f_icmp_ge C 89 ⟨by omega, by omega⟩ ⟨by decide, by decide⟩ dX9_edition_57 (by decide) (fun c1 => ?_) (fun c1 => ?_)
    · refine f_iload_n C 3 dX9_edition_89 rfl rfl ?_
      exact f_iret C hret hlk dX9_edition_90 ⟨by omega, by omega⟩ (hp _ (by rw [F_X9_edition_53, if_pos c1]))
    refine f_iload_n C 3 dX9_edition_60 rfl rfl ?_
    refine f_aload_n C 0 dX9_edition_61 rfl rfl ?_
    refine f_get C hin9 0 17 rfl rfl (Nat.le_of_ble_eq_true rfl) (by decide +kernel) rfl rfl dX9_edition_62 ?_
    refine f_bipush C dX9_edition_65 (by decide) ?_
    refine f_iload_n C 1 dX9_edition_67 rfl rfl ?_
    refine f_imul C dX9_edition_68 ?_
    refine f_iload C 4 dX9_edition_69 rfl ?_
    refine f_iadd C dX9_edition_71 ?_
    refine f_zald C (f := st.2 17) 13 2 rfl rfl ⟨by omega, by omega⟩ (Nat.le_of_ble_eq_true rfl) dX9_edition_72 ?_
    refine f_ok (fun hO2 => ?_)
    have k3 : 0 ≤ st.2 17 ((6 * v1) + v4) ∧ st.2 17 ((6 * v1) + v4) ≤ 1 := hO2.2 17 ((6 * v1) + v4)
    refine f_if_eq C 80 ⟨by omega, by omega⟩ dX9_edition_73 (by decide) (fun c4 => ?_) (fun c4 => ?_)
    · refine f_iconst C dX9_edition_80 ?_
      refine f_iadd C dX9_edition_81 ?_
      refine f_istore_n C 3 (lv' := [(3, .int (zI (v3 + 0))), (0, .ref (b 0)), (1, .int (zI v1)), (4, .int (zI v4))]) dX9_edition_82 rfl (Nat.le_of_ble_eq_true rfl) rfl ?_
      refine f_iinc C (lv' := [(4, .int (zI (v4 + 1))), (3, .int (zI (v3 + 0))), (0, .ref (b 0)), (1, .int (zI v1))]) 3 dX9_edition_83 rfl (Nat.le_of_ble_eq_true rfl) rfl ?_
      refine f_goto C 53 dX9_edition_86 (by decide) ?_
      refine f_re (lv' := [(0, .ref (b 0)), (1, .int (zI v1)), (3, .int (zI (v3 + 0))), (4, .int (zI (v4 + 1)))]) [2, 3, 1, 0] rfl ?_
      exact ih (v3 + 0) (v4 + 1) st ⟨by omega, by omega⟩ ⟨by omega, by omega⟩ (show 0 ≤ (v4 + 1) ∧ (v4 + 1) ≤ 6 by omega) (show 0 ≤ (v3 + 0) ∧ (v3 + 0) ≤ (v4 + 1) by omega) (show 0 ≤ v1 ∧ v1 ≤ 5 by omega) (show 6 - (v4 + 1) < ((n : Nat) : Int) by omega) (fun z e1 => hp z (by rw [F_X9_edition_53, if_neg c1, if_pos c4]; exact e1))
    refine f_iconst C dX9_edition_76 ?_
    refine f_goto C 81 dX9_edition_77 (by decide) ?_
    refine f_iadd C dX9_edition_81 ?_
    refine f_istore_n C 3 (lv' := [(3, .int (zI (v3 + 1))), (0, .ref (b 0)), (1, .int (zI v1)), (4, .int (zI v4))]) dX9_edition_82 rfl (Nat.le_of_ble_eq_true rfl) rfl ?_
    refine f_iinc C (lv' := [(4, .int (zI (v4 + 1))), (3, .int (zI (v3 + 1))), (0, .ref (b 0)), (1, .int (zI v1))]) 3 dX9_edition_83 rfl (Nat.le_of_ble_eq_true rfl) rfl ?_
    refine f_goto C 53 dX9_edition_86 (by decide) ?_
    refine f_re (lv' := [(0, .ref (b 0)), (1, .int (zI v1)), (3, .int (zI (v3 + 1))), (4, .int (zI (v4 + 1)))]) [2, 3, 1, 0] rfl ?_
    exact ih (v3 + 1) (v4 + 1) st ⟨by omega, by omega⟩ ⟨by omega, by omega⟩ (show 0 ≤ (v4 + 1) ∧ (v4 + 1) ≤ 6 by omega) (show 0 ≤ (v3 + 1) ∧ (v3 + 1) ≤ (v4 + 1) by omega) (show 0 ≤ v1 ∧ v1 ≤ 5 by omega) (show 6 - (v4 + 1) < ((n : Nat) : Int) by omega) (fun z e1 => hp z (by rw [F_X9_edition_53, if_neg c1, if_neg c4]; exact e1))
set_option maxRecDepth 100000 in
set_option maxHeartbeats 8000000 in
theorem c_X9_edition {l : Launch} {D : va_G} {cI cJ cZ cB : ClassId} {b : Nat → Nat} {E : State → Prop} (hX : mHyp b E) (p1 p2 : Int) (h1 : in32 p1) (h2 : in32 p2) (st : fS)  : mMi l D cI cJ cZ cB b E yX9_edition wsX9_edition rm_X9_edition [.ref (b 0), .int (zI p1), .int (zI p2)] st (fun z u => z = F_X9_edition p1 p2 st ∧ u = st) := by
  refine fB_open (cc := cX9_edition) (maxL := 5) (ret := (some .int)) (by decide) rfl (Nat.le_of_ble_eq_true rfl) hX.2 ?_
  intro p e s m below meth c C hret hlk
  have hin9 : ∀ w ∈ u_ws RX9 TX9 43, w ∈ wsX9_edition := by decide +kernel
  have hp : ∀ z : Int, z = F_X9_edition p1 p2 st → z = F_X9_edition p1 p2 st ∧ st = st := fun z h => ⟨h, rfl⟩
  refine f_iload_n C 1 dX9_edition_0 rfl rfl ?_
  refine f_if_lt C 21 ⟨by omega, by omega⟩ dX9_edition_1 (by decide) (fun c5 => ?_) (fun c5 => ?_)
  · refine f_iconst C dX9_edition_21 ?_
    exact f_iret C hret hlk dX9_edition_22 ⟨by decide, by decide⟩ (hp _ (by rw [F_X9_edition, if_pos c5]))
  refine f_iload_n C 1 dX9_edition_4 rfl rfl ?_
  refine f_aload_n C 0 dX9_edition_5 rfl rfl ?_
  refine f_ok (fun hO6 => ?_)
  have k7 : 0 ≤ st.1 14 ∧ st.1 14 ≤ 6 := hO6.1 14
  refine f_get C (v := .int (zI (st.1 14))) hin9 0 14 rfl rfl (Nat.le_of_ble_eq_true rfl) (by decide +kernel) rfl rfl dX9_edition_6 ?_
  refine f_icmp_ge C 21 ⟨by omega, by omega⟩ ⟨by omega, by omega⟩ dX9_edition_9 (by decide) (fun c8 => ?_) (fun c8 => ?_)
  · refine f_iconst C dX9_edition_21 ?_
    exact f_iret C hret hlk dX9_edition_22 ⟨by decide, by decide⟩ (hp _ (by rw [F_X9_edition, if_neg c5, if_pos c8]))
  refine f_iload_n C 2 dX9_edition_12 rfl rfl ?_
  refine f_if_lt C 21 ⟨by omega, by omega⟩ dX9_edition_13 (by decide) (fun c9 => ?_) (fun c9 => ?_)
  · refine f_iconst C dX9_edition_21 ?_
    exact f_iret C hret hlk dX9_edition_22 ⟨by decide, by decide⟩ (hp _ (by rw [F_X9_edition, if_neg c5, if_neg c8, if_pos c9]))
  refine f_iload_n C 2 dX9_edition_16 rfl rfl ?_
  refine f_iconst C dX9_edition_17 ?_
  refine f_icmp_le C 23 ⟨by omega, by omega⟩ ⟨by decide, by decide⟩ dX9_edition_18 (by decide) (fun c10 => ?_) (fun c10 => ?_)
  · refine f_iload_n C 2 dX9_edition_23 rfl rfl ?_
    refine f_iconst C dX9_edition_24 ?_
    refine f_icmp_ge C 48 ⟨by omega, by omega⟩ ⟨by decide, by decide⟩ dX9_edition_25 (by decide) (fun c11 => ?_) (fun c11 => ?_)
    · refine f_iconst C dX9_edition_48 ?_
      refine f_istore_n C 3 (lv' := [(3, .int (zI 0)), (0, .ref (b 0)), (1, .int (zI p1)), (2, .int (zI p2))]) dX9_edition_49 rfl (Nat.le_of_ble_eq_true rfl) rfl ?_
      refine f_iconst C dX9_edition_50 ?_
      refine f_istore C (lv' := [(4, .int (zI 0)), (3, .int (zI 0)), (0, .ref (b 0)), (1, .int (zI p1)), (2, .int (zI p2))]) dX9_edition_51 (Nat.le_of_ble_eq_true rfl) rfl ?_
      refine f_re (lv' := [(0, .ref (b 0)), (1, .int (zI p1)), (3, .int (zI 0)), (4, .int (zI 0))]) [2, 3, 1, 0] rfl ?_
      exact v_X9_edition_53 hX p1 ⟨by omega, by omega⟩ C hret hlk (Int.toNat (6 - (0 : Int)) + 1) 0 0 st ⟨by omega, by omega⟩ ⟨by omega, by omega⟩ (show 0 ≤ (0 : Int) ∧ (0 : Int) ≤ 6 by omega) (show 0 ≤ (0 : Int) ∧ (0 : Int) ≤ (0 : Int) by omega) (show 0 ≤ p1 ∧ p1 ≤ 5 by omega) (show 6 - (0 : Int) < ((Int.toNat (6 - (0 : Int)) + 1 : Nat) : Int) by omega) (fun z e1 => hp z (by rw [F_X9_edition, if_neg c5, if_neg c8, if_neg c9, if_pos c10, if_pos c11]; exact e1))
    refine f_iload_n C 2 dX9_edition_28 rfl rfl ?_
    refine f_if_ne C 41 ⟨by omega, by omega⟩ dX9_edition_29 (by decide) (fun c12 => ?_) (fun c12 => ?_)
    · refine f_aload_n C 0 dX9_edition_41 rfl rfl ?_
      refine f_get C hin9 0 16 rfl rfl (Nat.le_of_ble_eq_true rfl) (by decide +kernel) rfl rfl dX9_edition_42 ?_
      refine f_iload_n C 1 dX9_edition_45 rfl rfl ?_
      refine f_iald C (f := st.2 16) 12 0 rfl rfl ⟨by omega, by omega⟩ (Nat.le_of_ble_eq_true rfl) dX9_edition_46 ?_
      have k13 : 0 ≤ st.2 16 p1 ∧ st.2 16 p1 ≤ 3599 := hO6.2 16 p1
      exact f_iret C hret hlk dX9_edition_47 ⟨by omega, by omega⟩ (hp _ (by rw [F_X9_edition, if_neg c5, if_neg c8, if_neg c9, if_pos c10, if_neg c11, if_neg c12]))
    refine f_aload_n C 0 dX9_edition_32 rfl rfl ?_
    refine f_get C hin9 0 15 rfl rfl (Nat.le_of_ble_eq_true rfl) (by decide +kernel) rfl rfl dX9_edition_33 ?_
    refine f_iload_n C 1 dX9_edition_36 rfl rfl ?_
    refine f_iald C (f := st.2 15) 11 0 rfl rfl ⟨by omega, by omega⟩ (Nat.le_of_ble_eq_true rfl) dX9_edition_37 ?_
    have k14 : 0 ≤ st.2 15 p1 ∧ st.2 15 p1 ≤ 3599 := hO6.2 15 p1
    refine f_goto C 47 dX9_edition_38 (by decide) ?_
    exact f_iret C hret hlk dX9_edition_47 ⟨by omega, by omega⟩ (hp _ (by rw [F_X9_edition, if_neg c5, if_neg c8, if_neg c9, if_pos c10, if_neg c11, if_pos c12]))
  refine f_iconst C dX9_edition_21 ?_
  exact f_iret C hret hlk dX9_edition_22 ⟨by decide, by decide⟩ (hp _ (by rw [F_X9_edition, if_neg c5, if_neg c8, if_neg c9, if_neg c10]))

def F_X9_isRelieved_2 (v1 : Int) : Nat → Int → fS → Int
  | 0, _, _ => 0
  | n + 1, v2, st => if (st.1 25) ≤ v2 then 0 else (if (st.2 26 v2) = (st.2 4 v1) then (if (st.2 27 v2) = (st.2 5 v1) then (if (st.2 6 v1) < (st.2 28 v2) then F_X9_isRelieved_2 v1 (n) (v2 + 1) st else (if (st.2 29 v2) < (st.2 6 v1) then F_X9_isRelieved_2 v1 (n) (v2 + 1) st else 1)) else F_X9_isRelieved_2 v1 (n) (v2 + 1) st) else F_X9_isRelieved_2 v1 (n) (v2 + 1) st)

def F_X9_isRelieved (p1 : Int) (st : fS) : Int := F_X9_isRelieved_2 p1 (Int.toNat ((st.1 25) - (0 : Int)) + 1) 0 st
abbrev rm_X9_isRelieved : Room := { frames := 0, cells := 0, slots := 0, locals := 0 }
set_option maxRecDepth 100000 in
set_option maxHeartbeats 8000000 in
theorem v_X9_isRelieved_2 {l : Launch} {D : va_G} {cI cJ cZ cB : ClassId} {b : Nat → Nat} {E : State → Prop} (hX : mHyp b E) (v1 : Int) (hv1 : in32 v1) {p : Program} {e : Env} {s : State} {m : MethodId} {args : Array Value} {below : List Frame} {meth : Method} {c : Code} (C : fC p m c cX9_isRelieved 3 s args wsX9_isRelieved yX9_isRelieved.cls D (fTys cI cJ cZ cB) E (mA b)) (hret : meth.sig.returnType = (some .boolean)) (hlk : meth.locks = false) {post : Int → fS → Prop} : ∀ (n : Nat) (v2 : Int) (st : fS), in32 v2 → (0 ≤ v2 ∧ v2 ≤ st.1 25) → (0 ≤ st.1 25 ∧ st.1 25 ≤ 8) → (0 ≤ v1 ∧ v1 ≤ 23) → st.1 25 - v2 < n → (∀ z : Int, z = F_X9_isRelieved_2 v1 n v2 st → (z = 0 ∨ z = 1) → post z st) → fV D (wM cI cJ cZ cB b) mOk (mA b) 3 p l e rm_X9_isRelieved s m args below meth c 0 0 (fMQ below (fQi D (wM cI cJ cZ cB b) mOk (mA b) post) args s (mA b)) st 2 [(0, .ref (b 0)), (1, .int (zI v1)), (2, .int (zI v2))] [] := by
  have hin9 : ∀ w ∈ u_ws RX9 TX9 43, w ∈ wsX9_isRelieved := by decide +kernel
  intro n
  induction n with
  | zero =>
    intro v2 st hv2 i0 i1 i2 hm hp
    omega
  | succ n ih =>
    intro v2 st hv2 i0 i1 i2 hm hp
    refine f_iload_n C 2 dX9_isRelieved_2 rfl rfl ?_
    refine f_aload_n C 0 dX9_isRelieved_3 rfl rfl ?_
    refine f_ok (fun hO1 => ?_)
    have k2 : 0 ≤ st.1 25 ∧ st.1 25 ≤ 8 := hO1.1 25
    refine f_get C (v := .int (zI (st.1 25))) hin9 0 25 rfl rfl (Nat.le_of_ble_eq_true rfl) (by decide +kernel) rfl rfl dX9_isRelieved_4 ?_
    refine f_icmp_ge C 78 ⟨by omega, by omega⟩ ⟨by omega, by omega⟩ dX9_isRelieved_7 (by decide) (fun c3 => ?_) (fun c3 => ?_)
    · refine f_iconst C dX9_isRelieved_78 ?_
      exact f_zret C hret hlk dX9_isRelieved_79 (by decide) (hp _ (by rw [F_X9_isRelieved_2, if_pos c3]) (by omega))
    refine f_aload_n C 0 dX9_isRelieved_10 rfl rfl ?_
    refine f_get C hin9 0 26 rfl rfl (Nat.le_of_ble_eq_true rfl) (by decide +kernel) rfl rfl dX9_isRelieved_11 ?_
    refine f_iload_n C 2 dX9_isRelieved_14 rfl rfl ?_
    refine f_iald C (f := st.2 26) 21 0 rfl rfl ⟨by omega, by omega⟩ (Nat.le_of_ble_eq_true rfl) dX9_isRelieved_15 ?_
    have k4 : 0 ≤ st.2 26 v2 ∧ st.2 26 v2 ≤ 3 := hO1.2 26 v2
    refine f_aload_n C 0 dX9_isRelieved_16 rfl rfl ?_
    refine f_get C hin9 0 4 rfl rfl (Nat.le_of_ble_eq_true rfl) (by decide +kernel) rfl rfl dX9_isRelieved_17 ?_
    refine f_iload_n C 1 dX9_isRelieved_20 rfl rfl ?_
    refine f_iald C (f := st.2 4) 3 0 rfl rfl ⟨by omega, by omega⟩ (Nat.le_of_ble_eq_true rfl) dX9_isRelieved_21 ?_
    have k5 : 0 ≤ st.2 4 v1 ∧ st.2 4 v1 ≤ 3 := hO1.2 4 v1
    refine f_icmp_ne C 72 ⟨by omega, by omega⟩ ⟨by omega, by omega⟩ dX9_isRelieved_22 (by decide) (fun c6 => ?_) (fun c6 => ?_)
    · refine f_iinc C (lv' := [(2, .int (zI (v2 + 1))), (0, .ref (b 0)), (1, .int (zI v1))]) 2 dX9_isRelieved_72 rfl (Nat.le_of_ble_eq_true rfl) rfl ?_
      refine f_goto C 2 dX9_isRelieved_75 (by decide) ?_
      refine f_re (lv' := [(0, .ref (b 0)), (1, .int (zI v1)), (2, .int (zI (v2 + 1)))]) [1, 2, 0] rfl ?_
      exact ih (v2 + 1) st ⟨by omega, by omega⟩ (show 0 ≤ (v2 + 1) ∧ (v2 + 1) ≤ (st.1 25) by omega) (show 0 ≤ (st.1 25) ∧ (st.1 25) ≤ 8 by omega) (show 0 ≤ v1 ∧ v1 ≤ 23 by omega) (show (st.1 25) - (v2 + 1) < ((n : Nat) : Int) by omega) (fun z e1 r1 => hp z (by rw [F_X9_isRelieved_2, if_neg c3, if_neg c6]; exact e1) r1)
    refine f_aload_n C 0 dX9_isRelieved_25 rfl rfl ?_
    refine f_get C hin9 0 27 rfl rfl (Nat.le_of_ble_eq_true rfl) (by decide +kernel) rfl rfl dX9_isRelieved_26 ?_
    refine f_iload_n C 2 dX9_isRelieved_29 rfl rfl ?_
    refine f_iald C (f := st.2 27) 22 0 rfl rfl ⟨by omega, by omega⟩ (Nat.le_of_ble_eq_true rfl) dX9_isRelieved_30 ?_
    have k7 : 0 ≤ st.2 27 v2 ∧ st.2 27 v2 ≤ 5 := hO1.2 27 v2
    refine f_aload_n C 0 dX9_isRelieved_31 rfl rfl ?_
    refine f_get C hin9 0 5 rfl rfl (Nat.le_of_ble_eq_true rfl) (by decide +kernel) rfl rfl dX9_isRelieved_32 ?_
    refine f_iload_n C 1 dX9_isRelieved_35 rfl rfl ?_
    refine f_iald C (f := st.2 5) 4 0 rfl rfl ⟨by omega, by omega⟩ (Nat.le_of_ble_eq_true rfl) dX9_isRelieved_36 ?_
    have k8 : 0 ≤ st.2 5 v1 ∧ st.2 5 v1 ≤ 5 := hO1.2 5 v1
    refine f_icmp_ne C 72 ⟨by omega, by omega⟩ ⟨by omega, by omega⟩ dX9_isRelieved_37 (by decide) (fun c9 => ?_) (fun c9 => ?_)
    · refine f_iinc C (lv' := [(2, .int (zI (v2 + 1))), (0, .ref (b 0)), (1, .int (zI v1))]) 2 dX9_isRelieved_72 rfl (Nat.le_of_ble_eq_true rfl) rfl ?_
      refine f_goto C 2 dX9_isRelieved_75 (by decide) ?_
      refine f_re (lv' := [(0, .ref (b 0)), (1, .int (zI v1)), (2, .int (zI (v2 + 1)))]) [1, 2, 0] rfl ?_
      exact ih (v2 + 1) st ⟨by omega, by omega⟩ (show 0 ≤ (v2 + 1) ∧ (v2 + 1) ≤ (st.1 25) by omega) (show 0 ≤ (st.1 25) ∧ (st.1 25) ≤ 8 by omega) (show 0 ≤ v1 ∧ v1 ≤ 23 by omega) (show (st.1 25) - (v2 + 1) < ((n : Nat) : Int) by omega) (fun z e1 r1 => hp z (by rw [F_X9_isRelieved_2, if_neg c3, if_pos c6, if_neg c9]; exact e1) r1)
    refine f_aload_n C 0 dX9_isRelieved_40 rfl rfl ?_
    refine f_get C hin9 0 28 rfl rfl (Nat.le_of_ble_eq_true rfl) (by decide +kernel) rfl rfl dX9_isRelieved_41 ?_
    refine f_iload_n C 2 dX9_isRelieved_44 rfl rfl ?_
    refine f_iald C (f := st.2 28) 23 0 rfl rfl ⟨by omega, by omega⟩ (Nat.le_of_ble_eq_true rfl) dX9_isRelieved_45 ?_
    have k10 : 0 ≤ st.2 28 v2 ∧ st.2 28 v2 ≤ 3599 := hO1.2 28 v2
    refine f_aload_n C 0 dX9_isRelieved_46 rfl rfl ?_
    refine f_get C hin9 0 6 rfl rfl (Nat.le_of_ble_eq_true rfl) (by decide +kernel) rfl rfl dX9_isRelieved_47 ?_
    refine f_iload_n C 1 dX9_isRelieved_50 rfl rfl ?_
    refine f_iald C (f := st.2 6) 5 0 rfl rfl ⟨by omega, by omega⟩ (Nat.le_of_ble_eq_true rfl) dX9_isRelieved_51 ?_
    have k11 : 0 ≤ st.2 6 v1 ∧ st.2 6 v1 ≤ 3599 := hO1.2 6 v1
    refine f_icmp_gt C 72 ⟨by omega, by omega⟩ ⟨by omega, by omega⟩ dX9_isRelieved_52 (by decide) (fun c12 => ?_) (fun c12 => ?_)
    · refine f_iinc C (lv' := [(2, .int (zI (v2 + 1))), (0, .ref (b 0)), (1, .int (zI v1))]) 2 dX9_isRelieved_72 rfl (Nat.le_of_ble_eq_true rfl) rfl ?_
      refine f_goto C 2 dX9_isRelieved_75 (by decide) ?_
      refine f_re (lv' := [(0, .ref (b 0)), (1, .int (zI v1)), (2, .int (zI (v2 + 1)))]) [1, 2, 0] rfl ?_
      exact ih (v2 + 1) st ⟨by omega, by omega⟩ (show 0 ≤ (v2 + 1) ∧ (v2 + 1) ≤ (st.1 25) by omega) (show 0 ≤ (st.1 25) ∧ (st.1 25) ≤ 8 by omega) (show 0 ≤ v1 ∧ v1 ≤ 23 by omega) (show (st.1 25) - (v2 + 1) < ((n : Nat) : Int) by omega) (fun z e1 r1 => hp z (by rw [F_X9_isRelieved_2, if_neg c3, if_pos c6, if_pos c9, if_pos c12]; exact e1) r1)
    refine f_aload_n C 0 dX9_isRelieved_55 rfl rfl ?_
    refine f_get C hin9 0 6 rfl rfl (Nat.le_of_ble_eq_true rfl) (by decide +kernel) rfl rfl dX9_isRelieved_56 ?_
    refine f_iload_n C 1 dX9_isRelieved_59 rfl rfl ?_
    refine f_iald C (f := st.2 6) 5 0 rfl rfl ⟨by omega, by omega⟩ (Nat.le_of_ble_eq_true rfl) dX9_isRelieved_60 ?_
    refine f_aload_n C 0 dX9_isRelieved_61 rfl rfl ?_
    refine f_get C hin9 0 29 rfl rfl (Nat.le_of_ble_eq_true rfl) (by decide +kernel) rfl rfl dX9_isRelieved_62 ?_
    refine f_iload_n C 2 dX9_isRelieved_65 rfl rfl ?_
    refine f_iald C (f := st.2 29) 24 0 rfl rfl ⟨by omega, by omega⟩ (Nat.le_of_ble_eq_true rfl) dX9_isRelieved_66 ?_
    have k13 : 0 ≤ st.2 29 v2 ∧ st.2 29 v2 ≤ 3599 := hO1.2 29 v2
    refine f_icmp_gt C 72 ⟨by omega, by omega⟩ ⟨by omega, by omega⟩ dX9_isRelieved_67 (by decide) (fun c14 => ?_) (fun c14 => ?_)
    · refine f_iinc C (lv' := [(2, .int (zI (v2 + 1))), (0, .ref (b 0)), (1, .int (zI v1))]) 2 dX9_isRelieved_72 rfl (Nat.le_of_ble_eq_true rfl) rfl ?_
      refine f_goto C 2 dX9_isRelieved_75 (by decide) ?_
      refine f_re (lv' := [(0, .ref (b 0)), (1, .int (zI v1)), (2, .int (zI (v2 + 1)))]) [1, 2, 0] rfl ?_
      exact ih (v2 + 1) st ⟨by omega, by omega⟩ (show 0 ≤ (v2 + 1) ∧ (v2 + 1) ≤ (st.1 25) by omega) (show 0 ≤ (st.1 25) ∧ (st.1 25) ≤ 8 by omega) (show 0 ≤ v1 ∧ v1 ≤ 23 by omega) (show (st.1 25) - (v2 + 1) < ((n : Nat) : Int) by omega) (fun z e1 r1 => hp z (by rw [F_X9_isRelieved_2, if_neg c3, if_pos c6, if_pos c9, if_neg c12, if_pos c14]; exact e1) r1)
    refine f_iconst C dX9_isRelieved_70 ?_
    exact f_zret C hret hlk dX9_isRelieved_71 (by decide) (hp _ (by rw [F_X9_isRelieved_2, if_neg c3, if_pos c6, if_pos c9, if_neg c12, if_neg c14]) (by omega))
set_option maxRecDepth 100000 in
set_option maxHeartbeats 8000000 in
theorem c_X9_isRelieved {l : Launch} {D : va_G} {cI cJ cZ cB : ClassId} {b : Nat → Nat} {E : State → Prop} (hX : mHyp b E) (p1 : Int) (h1 : in32 p1) (st : fS) (q1 : 0 ≤ p1 ∧ p1 ≤ 23) : mMi l D cI cJ cZ cB b E yX9_isRelieved wsX9_isRelieved rm_X9_isRelieved [.ref (b 0), .int (zI p1)] st (fun z u => z = F_X9_isRelieved p1 st ∧ u = st ∧ (z = 0 ∨ z = 1)) := by
  refine fB_open (cc := cX9_isRelieved) (maxL := 3) (ret := (some .boolean)) (by decide) rfl (Nat.le_of_ble_eq_true rfl) hX.2 ?_
  intro p e s m below meth c C hret hlk
  have hp : ∀ z : Int, z = F_X9_isRelieved p1 st → (z = 0 ∨ z = 1) → z = F_X9_isRelieved p1 st ∧ st = st ∧ (z = 0 ∨ z = 1) := fun z h r1 => ⟨h, rfl, r1⟩
  refine f_iconst C dX9_isRelieved_0 ?_
  refine f_istore_n C 2 (lv' := [(2, .int (zI 0)), (0, .ref (b 0)), (1, .int (zI p1))]) dX9_isRelieved_1 rfl (Nat.le_of_ble_eq_true rfl) rfl ?_
  refine f_re (lv' := [(0, .ref (b 0)), (1, .int (zI p1)), (2, .int (zI 0))]) [1, 2, 0] rfl ?_
  refine f_ok (fun hO15 => ?_)
  have k16 : 0 ≤ st.1 25 ∧ st.1 25 ≤ 8 := hO15.1 25
  exact v_X9_isRelieved_2 hX p1 ⟨by omega, by omega⟩ C hret hlk (Int.toNat ((st.1 25) - (0 : Int)) + 1) 0 st ⟨by omega, by omega⟩ (show 0 ≤ (0 : Int) ∧ (0 : Int) ≤ (st.1 25) by omega) (show 0 ≤ (st.1 25) ∧ (st.1 25) ≤ 8 by omega) (show 0 ≤ p1 ∧ p1 ≤ 23 by omega) (show (st.1 25) - (0 : Int) < ((Int.toNat ((st.1 25) - (0 : Int)) + 1 : Nat) : Int) by omega) (fun z e1 r1 => hp z (by rw [F_X9_isRelieved]; exact e1) r1)

def F_X9_editionOf_6 (v1 v2 : Int) : Nat → Int → Int → fS → Int
  | 0, _, _, _ => 0
  | n + 1, v4, v5, st => if (st.1 14) ≤ v5 then v4 else (if v2 < (st.2 16 v5) then F_X9_editionOf_6 v1 v2 (n) v4 (v5 + 1) st else (if (st.2 15 v5) ≤ (st.2 6 v1) then (if v4 < 0 then F_X9_editionOf_6 v1 v2 (n) v5 (v5 + 1) st else (if (st.2 15 v5) < (st.2 15 v4) then F_X9_editionOf_6 v1 v2 (n) v4 (v5 + 1) st else F_X9_editionOf_6 v1 v2 (n) v5 (v5 + 1) st)) else F_X9_editionOf_6 v1 v2 (n) v4 (v5 + 1) st))

def F_X9_editionOf (p1 p2 : Int) (st : fS) : Int := F_X9_editionOf_6 p1 p2 (Int.toNat ((st.1 14) - (0 : Int)) + 1) (-1) 0 st
abbrev rm_X9_editionOf : Room := { frames := 0, cells := 0, slots := 0, locals := 0 }
set_option maxRecDepth 100000 in
set_option maxHeartbeats 8000000 in
theorem v_X9_editionOf_6 {l : Launch} {D : va_G} {cI cJ cZ cB : ClassId} {b : Nat → Nat} {E : State → Prop} (hX : mHyp b E) (v1 v2 : Int) (hv1 : in32 v1) (hv2 : in64 v2) {p : Program} {e : Env} {s : State} {m : MethodId} {args : Array Value} {below : List Frame} {meth : Method} {c : Code} (C : fC p m c cX9_editionOf 6 s args wsX9_editionOf yX9_editionOf.cls D (fTys cI cJ cZ cB) E (mA b)) (hret : meth.sig.returnType = (some .int)) (hlk : meth.locks = false) {post : Int → fS → Prop} : ∀ (n : Nat) (v4 v5 : Int) (st : fS), in32 v4 → in32 v5 → (0 ≤ v5 ∧ v5 ≤ st.1 14) → (-1 ≤ v4 ∧ v4 < v5) → (0 ≤ st.1 14 ∧ st.1 14 ≤ 6) → (0 ≤ v1 ∧ v1 ≤ 23) → st.1 14 - v5 < n → (∀ z : Int, z = F_X9_editionOf_6 v1 v2 n v4 v5 st → (z = -1 ∨ (0 ≤ z ∧ z < st.1 14 ∧ st.1 14 ≤ 6)) → post z st) → fV D (wM cI cJ cZ cB b) mOk (mA b) 6 p l e rm_X9_editionOf s m args below meth c 0 0 (fMQ below (fQi D (wM cI cJ cZ cB b) mOk (mA b) post) args s (mA b)) st 6 [(0, .ref (b 0)), (1, .int (zI v1)), (2, .long (zJ v2)), (4, .int (zI v4)), (5, .int (zI v5))] [] := by
  have hin9 : ∀ w ∈ u_ws RX9 TX9 43, w ∈ wsX9_editionOf := by decide +kernel
  intro n
  induction n with
  | zero =>
    intro v4 v5 st hv4 hv5 i0 i1 i2 i3 hm hp
    omega
  | succ n ih =>
    intro v4 v5 st hv4 hv5 i0 i1 i2 i3 hm hp
    refine f_iload C 5 dX9_editionOf_6 rfl ?_
    refine f_aload_n C 0 dX9_editionOf_8 rfl rfl ?_
    refine f_ok (fun hO1 => ?_)
    have k2 : 0 ≤ st.1 14 ∧ st.1 14 ≤ 6 := hO1.1 14
    refine f_get C (v := .int (zI (st.1 14))) hin9 0 14 rfl rfl (Nat.le_of_ble_eq_true rfl) (by decide +kernel) rfl rfl dX9_editionOf_9 ?_
    refine f_icmp_ge C 79 ⟨by omega, by omega⟩ ⟨by omega, by omega⟩ dX9_editionOf_12 (by decide) (fun c3 => ?_) (fun c3 => ?_)
    · refine f_iload C 4 dX9_editionOf_79 rfl ?_
      exact f_iret C hret hlk dX9_editionOf_81 ⟨by omega, by omega⟩ (hp _ (by rw [F_X9_editionOf_6, if_pos c3]) (by omega))
    refine f_aload_n C 0 dX9_editionOf_15 rfl rfl ?_
    refine f_get C hin9 0 16 rfl rfl (Nat.le_of_ble_eq_true rfl) (by decide +kernel) rfl rfl dX9_editionOf_16 ?_
    refine f_iload C 5 dX9_editionOf_19 rfl ?_
    refine f_iald C (f := st.2 16) 12 0 rfl rfl ⟨by omega, by omega⟩ (Nat.le_of_ble_eq_true rfl) dX9_editionOf_21 ?_
    have k4 : 0 ≤ st.2 16 v5 ∧ st.2 16 v5 ≤ 3599 := hO1.2 16 v5
    refine f_i2l C ⟨by omega, by omega⟩ dX9_editionOf_22 ?_
    refine f_lload_n C 2 dX9_editionOf_23 rfl rfl ?_
    refine f_lc_if_gt C 73 ⟨by omega, by omega⟩ ⟨by omega, by omega⟩ dX9_editionOf_24 dX9_editionOf_25 (by decide) (fun c5 => ?_) (fun c5 => ?_)
    · refine f_iinc C (lv' := [(5, .int (zI (v5 + 1))), (0, .ref (b 0)), (1, .int (zI v1)), (2, .long (zJ v2)), (4, .int (zI v4))]) 4 dX9_editionOf_73 rfl (Nat.le_of_ble_eq_true rfl) rfl ?_
      refine f_goto C 6 dX9_editionOf_76 (by decide) ?_
      refine f_re (lv' := [(0, .ref (b 0)), (1, .int (zI v1)), (2, .long (zJ v2)), (4, .int (zI v4)), (5, .int (zI (v5 + 1)))]) [1, 2, 3, 4, 0] rfl ?_
      exact ih v4 (v5 + 1) st ⟨by omega, by omega⟩ ⟨by omega, by omega⟩ (show 0 ≤ (v5 + 1) ∧ (v5 + 1) ≤ (st.1 14) by omega) (show -1 ≤ v4 ∧ v4 < (v5 + 1) by omega) (show 0 ≤ (st.1 14) ∧ (st.1 14) ≤ 6 by omega) (show 0 ≤ v1 ∧ v1 ≤ 23 by omega) (show (st.1 14) - (v5 + 1) < ((n : Nat) : Int) by omega) (fun z e1 r1 => hp z (by rw [F_X9_editionOf_6, if_neg c3, if_pos c5]; exact e1) r1)
    refine f_aload_n C 0 dX9_editionOf_28 rfl rfl ?_
    refine f_get C hin9 0 15 rfl rfl (Nat.le_of_ble_eq_true rfl) (by decide +kernel) rfl rfl dX9_editionOf_29 ?_
    refine f_iload C 5 dX9_editionOf_32 rfl ?_
    refine f_iald C (f := st.2 15) 11 0 rfl rfl ⟨by omega, by omega⟩ (Nat.le_of_ble_eq_true rfl) dX9_editionOf_34 ?_
    have k6 : 0 ≤ st.2 15 v5 ∧ st.2 15 v5 ≤ 3599 := hO1.2 15 v5
    refine f_aload_n C 0 dX9_editionOf_35 rfl rfl ?_
    refine f_get C hin9 0 6 rfl rfl (Nat.le_of_ble_eq_true rfl) (by decide +kernel) rfl rfl dX9_editionOf_36 ?_
    refine f_iload_n C 1 dX9_editionOf_39 rfl rfl ?_
    refine f_iald C (f := st.2 6) 5 0 rfl rfl ⟨by omega, by omega⟩ (Nat.le_of_ble_eq_true rfl) dX9_editionOf_40 ?_
    have k7 : 0 ≤ st.2 6 v1 ∧ st.2 6 v1 ≤ 3599 := hO1.2 6 v1
    refine f_icmp_le C 47 ⟨by omega, by omega⟩ ⟨by omega, by omega⟩ dX9_editionOf_41 (by decide) (fun c8 => ?_) (fun c8 => ?_)
    · refine f_iload C 4 dX9_editionOf_47 rfl ?_
      refine f_if_lt C 69 ⟨by omega, by omega⟩ dX9_editionOf_49 (by decide) (fun c9 => ?_) (fun c9 => ?_)
      · refine f_iload C 5 dX9_editionOf_69 rfl ?_
        refine f_istore C (lv' := [(4, .int (zI v5)), (0, .ref (b 0)), (1, .int (zI v1)), (2, .long (zJ v2)), (5, .int (zI v5))]) dX9_editionOf_71 (Nat.le_of_ble_eq_true rfl) rfl ?_
        refine f_iinc C (lv' := [(5, .int (zI (v5 + 1))), (4, .int (zI v5)), (0, .ref (b 0)), (1, .int (zI v1)), (2, .long (zJ v2))]) 4 dX9_editionOf_73 rfl (Nat.le_of_ble_eq_true rfl) rfl ?_
        refine f_goto C 6 dX9_editionOf_76 (by decide) ?_
        refine f_re (lv' := [(0, .ref (b 0)), (1, .int (zI v1)), (2, .long (zJ v2)), (4, .int (zI v5)), (5, .int (zI (v5 + 1)))]) [2, 3, 4, 1, 0] rfl ?_
        exact ih v5 (v5 + 1) st ⟨by omega, by omega⟩ ⟨by omega, by omega⟩ (show 0 ≤ (v5 + 1) ∧ (v5 + 1) ≤ (st.1 14) by omega) (show -1 ≤ v5 ∧ v5 < (v5 + 1) by omega) (show 0 ≤ (st.1 14) ∧ (st.1 14) ≤ 6 by omega) (show 0 ≤ v1 ∧ v1 ≤ 23 by omega) (show (st.1 14) - (v5 + 1) < ((n : Nat) : Int) by omega) (fun z e1 r1 => hp z (by rw [F_X9_editionOf_6, if_neg c3, if_neg c5, if_pos c8, if_pos c9]; exact e1) r1)
      refine f_aload_n C 0 dX9_editionOf_52 rfl rfl ?_
      refine f_get C hin9 0 15 rfl rfl (Nat.le_of_ble_eq_true rfl) (by decide +kernel) rfl rfl dX9_editionOf_53 ?_
      refine f_iload C 5 dX9_editionOf_56 rfl ?_
      refine f_iald C (f := st.2 15) 11 0 rfl rfl ⟨by omega, by omega⟩ (Nat.le_of_ble_eq_true rfl) dX9_editionOf_58 ?_
      refine f_aload_n C 0 dX9_editionOf_59 rfl rfl ?_
      refine f_get C hin9 0 15 rfl rfl (Nat.le_of_ble_eq_true rfl) (by decide +kernel) rfl rfl dX9_editionOf_60 ?_
      refine f_iload C 4 dX9_editionOf_63 rfl ?_
      refine f_iald C (f := st.2 15) 11 0 rfl rfl ⟨by omega, by omega⟩ (Nat.le_of_ble_eq_true rfl) dX9_editionOf_65 ?_
      have k10 : 0 ≤ st.2 15 v4 ∧ st.2 15 v4 ≤ 3599 := hO1.2 15 v4
      refine f_icmp_lt C 73 ⟨by omega, by omega⟩ ⟨by omega, by omega⟩ dX9_editionOf_66 (by decide) (fun c11 => ?_) (fun c11 => ?_)
      · refine f_iinc C (lv' := [(5, .int (zI (v5 + 1))), (0, .ref (b 0)), (1, .int (zI v1)), (2, .long (zJ v2)), (4, .int (zI v4))]) 4 dX9_editionOf_73 rfl (Nat.le_of_ble_eq_true rfl) rfl ?_
        refine f_goto C 6 dX9_editionOf_76 (by decide) ?_
        refine f_re (lv' := [(0, .ref (b 0)), (1, .int (zI v1)), (2, .long (zJ v2)), (4, .int (zI v4)), (5, .int (zI (v5 + 1)))]) [1, 2, 3, 4, 0] rfl ?_
        exact ih v4 (v5 + 1) st ⟨by omega, by omega⟩ ⟨by omega, by omega⟩ (show 0 ≤ (v5 + 1) ∧ (v5 + 1) ≤ (st.1 14) by omega) (show -1 ≤ v4 ∧ v4 < (v5 + 1) by omega) (show 0 ≤ (st.1 14) ∧ (st.1 14) ≤ 6 by omega) (show 0 ≤ v1 ∧ v1 ≤ 23 by omega) (show (st.1 14) - (v5 + 1) < ((n : Nat) : Int) by omega) (fun z e1 r1 => hp z (by rw [F_X9_editionOf_6, if_neg c3, if_neg c5, if_pos c8, if_neg c9, if_pos c11]; exact e1) r1)
      refine f_iload C 5 dX9_editionOf_69 rfl ?_
      refine f_istore C (lv' := [(4, .int (zI v5)), (0, .ref (b 0)), (1, .int (zI v1)), (2, .long (zJ v2)), (5, .int (zI v5))]) dX9_editionOf_71 (Nat.le_of_ble_eq_true rfl) rfl ?_
      refine f_iinc C (lv' := [(5, .int (zI (v5 + 1))), (4, .int (zI v5)), (0, .ref (b 0)), (1, .int (zI v1)), (2, .long (zJ v2))]) 4 dX9_editionOf_73 rfl (Nat.le_of_ble_eq_true rfl) rfl ?_
      refine f_goto C 6 dX9_editionOf_76 (by decide) ?_
      refine f_re (lv' := [(0, .ref (b 0)), (1, .int (zI v1)), (2, .long (zJ v2)), (4, .int (zI v5)), (5, .int (zI (v5 + 1)))]) [2, 3, 4, 1, 0] rfl ?_
      exact ih v5 (v5 + 1) st ⟨by omega, by omega⟩ ⟨by omega, by omega⟩ (show 0 ≤ (v5 + 1) ∧ (v5 + 1) ≤ (st.1 14) by omega) (show -1 ≤ v5 ∧ v5 < (v5 + 1) by omega) (show 0 ≤ (st.1 14) ∧ (st.1 14) ≤ 6 by omega) (show 0 ≤ v1 ∧ v1 ≤ 23 by omega) (show (st.1 14) - (v5 + 1) < ((n : Nat) : Int) by omega) (fun z e1 r1 => hp z (by rw [F_X9_editionOf_6, if_neg c3, if_neg c5, if_pos c8, if_neg c9, if_neg c11]; exact e1) r1)
    refine f_goto C 73 dX9_editionOf_44 (by decide) ?_
    refine f_iinc C (lv' := [(5, .int (zI (v5 + 1))), (0, .ref (b 0)), (1, .int (zI v1)), (2, .long (zJ v2)), (4, .int (zI v4))]) 4 dX9_editionOf_73 rfl (Nat.le_of_ble_eq_true rfl) rfl ?_
    refine f_goto C 6 dX9_editionOf_76 (by decide) ?_
    refine f_re (lv' := [(0, .ref (b 0)), (1, .int (zI v1)), (2, .long (zJ v2)), (4, .int (zI v4)), (5, .int (zI (v5 + 1)))]) [1, 2, 3, 4, 0] rfl ?_
    exact ih v4 (v5 + 1) st ⟨by omega, by omega⟩ ⟨by omega, by omega⟩ (show 0 ≤ (v5 + 1) ∧ (v5 + 1) ≤ (st.1 14) by omega) (show -1 ≤ v4 ∧ v4 < (v5 + 1) by omega) (show 0 ≤ (st.1 14) ∧ (st.1 14) ≤ 6 by omega) (show 0 ≤ v1 ∧ v1 ≤ 23 by omega) (show (st.1 14) - (v5 + 1) < ((n : Nat) : Int) by omega) (fun z e1 r1 => hp z (by rw [F_X9_editionOf_6, if_neg c3, if_neg c5, if_neg c8]; exact e1) r1)
set_option maxRecDepth 100000 in
set_option maxHeartbeats 8000000 in
theorem c_X9_editionOf {l : Launch} {D : va_G} {cI cJ cZ cB : ClassId} {b : Nat → Nat} {E : State → Prop} (hX : mHyp b E) (p1 p2 : Int) (h1 : in32 p1) (h2 : in64 p2) (st : fS) (q1 : 0 ≤ p1 ∧ p1 ≤ 23) : mMi l D cI cJ cZ cB b E yX9_editionOf wsX9_editionOf rm_X9_editionOf [.ref (b 0), .int (zI p1), .long (zJ p2)] st (fun z u => z = F_X9_editionOf p1 p2 st ∧ u = st ∧ (z = -1 ∨ (0 ≤ z ∧ z < st.1 14 ∧ st.1 14 ≤ 6))) := by
  refine fB_open (cc := cX9_editionOf) (maxL := 6) (ret := (some .int)) (by decide) rfl (Nat.le_of_ble_eq_true rfl) hX.2 ?_
  intro p e s m below meth c C hret hlk
  have hp : ∀ z : Int, z = F_X9_editionOf p1 p2 st → (z = -1 ∨ (0 ≤ z ∧ z < st.1 14 ∧ st.1 14 ≤ 6)) → z = F_X9_editionOf p1 p2 st ∧ st = st ∧ (z = -1 ∨ (0 ≤ z ∧ z < st.1 14 ∧ st.1 14 ≤ 6)) := fun z h r1 => ⟨h, rfl, r1⟩
  refine f_iconst C dX9_editionOf_0 ?_
  refine f_istore C (lv' := [(4, .int (zI (-1))), (0, .ref (b 0)), (1, .int (zI p1)), (2, .long (zJ p2))]) dX9_editionOf_1 (Nat.le_of_ble_eq_true rfl) rfl ?_
  refine f_iconst C dX9_editionOf_3 ?_
  refine f_istore C (lv' := [(5, .int (zI 0)), (4, .int (zI (-1))), (0, .ref (b 0)), (1, .int (zI p1)), (2, .long (zJ p2))]) dX9_editionOf_4 (Nat.le_of_ble_eq_true rfl) rfl ?_
  refine f_re (lv' := [(0, .ref (b 0)), (1, .int (zI p1)), (2, .long (zJ p2)), (4, .int (zI (-1))), (5, .int (zI 0))]) [2, 3, 4, 1, 0] rfl ?_
  refine f_ok (fun hO12 => ?_)
  have k13 : 0 ≤ st.1 14 ∧ st.1 14 ≤ 6 := hO12.1 14
  exact v_X9_editionOf_6 hX p1 p2 ⟨by omega, by omega⟩ ⟨by omega, by omega⟩ C hret hlk (Int.toNat ((st.1 14) - (0 : Int)) + 1) (-1) 0 st ⟨by omega, by omega⟩ ⟨by omega, by omega⟩ (show 0 ≤ (0 : Int) ∧ (0 : Int) ≤ (st.1 14) by omega) (show -1 ≤ (-1 : Int) ∧ (-1 : Int) < (0 : Int) by omega) (show 0 ≤ (st.1 14) ∧ (st.1 14) ≤ 6 by omega) (show 0 ≤ p1 ∧ p1 ≤ 23 by omega) (show (st.1 14) - (0 : Int) < ((Int.toNat ((st.1 14) - (0 : Int)) + 1 : Nat) : Int) by omega) (fun z e1 r1 => hp z (by rw [F_X9_editionOf]; exact e1) r1)
