/-! ===== PART 30: steps that rise; the fee (laid by program) ===== -/
/-- the steps of the editions that are kept rise -/
def xSteps (st : fS) : Prop := ∀ c : Int, 0 ≤ c → c < 6 * st.1 6 → st.2 12 c ≠ -1 → (0 ≤ st.2 16 c ∧ st.2 16 c ≤ 66 ∧ 0 ≤ st.2 15 c ∧ st.2 15 c + st.2 16 c ≤ 396) ∧ ∀ i : Int, 0 ≤ i → i < st.2 16 c → 0 < st.2 17 (st.2 15 c + i) ∧ (0 < i → st.2 17 (st.2 15 c + i - 1) < st.2 17 (st.2 15 c + i))
theorem xSteps_keep {st u : fS} (h : xSteps st) (h6 : u.1 6 = st.1 6) (h12 : u.2 12 = st.2 12) (h15 : u.2 15 = st.2 15) (h16 : u.2 16 = st.2 16) (h17 : u.2 17 = st.2 17) : xSteps u := by
  unfold xSteps
  rw [h6, h12, h15, h16, h17]
  exact h
theorem xhas_b {st : fS} {e : Int} (h : ¬ F_X0_has e st = 0) : 0 ≤ e ∧ e < st.1 6 := by
  rw [F_X0_has] at h
  by_cases c1 : e < 0
  · rw [if_pos c1] at h; exact absurd rfl h
  · rw [if_neg c1] at h
    by_cases c2 : st.1 6 ≤ e
    · rw [if_pos c2] at h; exact absurd rfl h
    · exact ⟨by omega, by omega⟩
theorem xrule_b {st : fS} {e k : Int} (h : ¬ F_X0_hasRule e k st = 0) : (0 ≤ e ∧ e < st.1 6) ∧ ¬ rget 36 (st.2 12) (F_X0_cellOf e k st) = -1 := by
  rw [F_X0_hasRule] at h
  by_cases c1 : F_X0_has e st = 0
  · rw [if_pos c1] at h; exact absurd rfl h
  · rw [if_neg c1] at h
    by_cases c2 : rget 36 (st.2 12) (F_X0_cellOf e k st) = -1
    · rw [if_pos c2] at h; exact absurd rfl h
    · exact ⟨xhas_b c1, c2⟩
theorem xprice39_b {st : fS} (hO : xOk st) (v1 v2 v10 v12 : Int) (hv2 : 0 ≤ v2) (hr : 0 ≤ v10 ∧ v10 + v12 ≤ 396) (hs : ∀ i : Int, 0 ≤ i → i < v12 → 0 < st.2 17 (v10 + i) ∧ (0 < i → st.2 17 (v10 + i - 1) < st.2 17 (v10 + i))) : ∀ (n : Nat) (v4 v6 v8 v14 : Int), 66 - v14 < n → 0 ≤ v14 → v14 ≤ 66 → 0 ≤ v6 → v6 ≤ v2 → 0 ≤ v8 → v8 ≤ 999999 → 0 ≤ v4 → v4 ≤ v6 * 999999 → (v14 = 0 → v6 = 0) → (0 < v14 → v6 = st.2 17 (v10 + v14 - 1)) → 0 ≤ F_X0_priceOf_39 v1 v2 v10 v12 n v4 v6 v8 v14 st ∧ F_X0_priceOf_39 v1 v2 v10 v12 n v4 v6 v8 v14 st ≤ v2 * 999999 := by
  intro n
  induction n with
  | zero => intro v4 v6 v8 v14 h1 h2 h3; omega
  | succ n ih =>
    intro v4 v6 v8 v14 h1 h2 h3 h4 h5 h6 h7 h8 h9 h10 h11
    rw [F_X0_priceOf_39]
    have b1 := mulle (v2 - v6) v8 (B := 999999) (by omega) ⟨h6, h7⟩
    have fin : 0 ≤ v4 + (v2 - v6) * v8 ∧ v4 + (v2 - v6) * v8 ≤ v2 * 999999 := ⟨by omega, by omega⟩
    by_cases c1 : 66 ≤ v14
    · rw [if_pos c1]; exact fin
    rw [if_neg c1]
    by_cases c2 : v12 ≤ v14
    · rw [if_pos c2]; exact fin
    rw [if_neg c2]
    have g : rget 396 (st.2 17) (v10 + v14) = st.2 17 (v10 + v14) := rget_in ⟨by omega, by omega⟩
    rw [g]
    by_cases c3 : st.2 17 (v10 + v14) < v2
    · rw [if_pos c3]
      have hi := hs v14 h2 (by omega)
      have p8 := xget_ok hO 18 396 (v10 + v14)
      have p8 : 0 ≤ rget 396 (st.2 18) (v10 + v14) ∧ rget 396 (st.2 18) (v10 + v14) ≤ 999999 := p8
      have hle : v6 ≤ st.2 17 (v10 + v14) := by
        by_cases z : v14 = 0
        · have := h10 z; omega
        · have := h11 (by omega); have := hi.2 (by omega); omega
      have b2 := mulle (st.2 17 (v10 + v14) - v6) v8 (B := 999999) (by omega) ⟨h6, h7⟩
      exact ih _ _ _ (v14 + 1) (by omega) (by omega) (by omega) (by omega) (by omega) p8.1 p8.2 (by omega) (by omega) (by omega) (fun _ => by rw [show v10 + (v14 + 1) - 1 = v10 + v14 by omega])
    · rw [if_neg c3]; exact fin
theorem xprice_b {st : fS} (hO : xOk st) (hI : xSteps st) {e k v : Int} (hr : ¬ F_X0_hasRule e k st = 0) (hk : 0 ≤ k ∧ k ≤ 5) (hv : 0 ≤ v ∧ v ≤ 1000000) : 0 ≤ F_X0_priceOf (F_X0_cellOf e k st) v st ∧ F_X0_priceOf (F_X0_cellOf e k st) v st ≤ v * 999999 := by
  obtain ⟨he, hc⟩ := xrule_b hr
  have n6 : 0 ≤ st.1 6 ∧ st.1 6 ≤ 6 := hO.1 6
  have ec : F_X0_cellOf e k st = e * 6 + k := rfl
  rw [ec] at hc ⊢
  have hin : ∀ r, rget 36 (st.2 r) (e * 6 + k) = st.2 r (e * 6 + k) := fun r => rget_in ⟨by omega, by omega⟩
  rw [hin] at hc
  obtain ⟨h1, h2⟩ := hI (e * 6 + k) (by omega) (by omega) hc
  rw [F_X0_priceOf, hin, hin, hin]
  have p8 : 0 ≤ st.2 13 (e * 6 + k) ∧ st.2 13 (e * 6 + k) ≤ 999999 := hO.2 13 _
  exact xprice39_b hO _ _ _ _ hv.1 ⟨h1.2.2.1, h1.2.2.2⟩ h2 _ _ _ _ _ (by omega) (by omega) (by omega) (by omega) hv.1 p8.1 p8.2 (by omega) (by omega) (fun _ => rfl) (fun h => absurd h (by omega))

def F_X0_feeOf (p1 : Int) (p2 : Int) (p3 : Int) (st : fS) : Int := if (F_X0_hasRule p1 p2 st) = 0 then (-1) else (if 0 < (rget 36 (st.2 12) (F_X0_cellOf p1 p2 st)) then (if (rget 36 (st.2 14) (F_X0_cellOf p1 p2 st)) = (-1) then (F_X0_priceOf (F_X0_cellOf p1 p2 st) p3 st) / (rget 36 (st.2 12) (F_X0_cellOf p1 p2 st)) else (if ((F_X0_priceOf (F_X0_cellOf p1 p2 st) p3 st) / (rget 36 (st.2 12) (F_X0_cellOf p1 p2 st))) ≤ (rget 36 (st.2 14) (F_X0_cellOf p1 p2 st)) then (F_X0_priceOf (F_X0_cellOf p1 p2 st) p3 st) / (rget 36 (st.2 12) (F_X0_cellOf p1 p2 st)) else rget 36 (st.2 14) (F_X0_cellOf p1 p2 st))) else (-1))
abbrev rm_X0_feeOf : Room := { frames := 2, cells := 0, slots := 0, locals := 58 }
set_option maxRecDepth 100000 in
set_option maxHeartbeats 8000000 in
theorem c_X0_feeOf {l : Launch} {D : va_G} {cI cJ cZ cB : ClassId} {a : Nat → Nat} {E : State → Prop} (hX : xHyp a E) (p1 : Int) (p2 : Int) (p3 : Int) (h1 : in32 p1) (h2 : in32 p2) (h3 : in64 p3) (st : fS) (q1 : (-1000000) ≤ p1 ∧ p1 ≤ 1000000) (q2 : 0 ≤ p2 ∧ p2 ≤ 5) (q3 : 0 ≤ p3 ∧ p3 ≤ 1000000) (hI : xSteps st) : xMl l D cI cJ cZ cB a E yX0_feeOf wsX0_feeOf rm_X0_feeOf [.ref (a 4), .int (zI p1), .int (zI p2), .long (zJ p3)] st (fun z u => z = F_X0_feeOf p1 p2 p3 st ∧ u = st ∧ ((-1) ≤ z ∧ z ≤ 999999000000)) := by
  refine fB_open (cc := cX0_feeOf) (maxL := 12) (ret := (some .long)) (by decide) rfl (Nat.le_of_ble_eq_true rfl) hX.2 ?_
  intro p e s m below meth c C hret hlk
  have hin0 : ∀ w ∈ u_ws RX0 TX0 12, w ∈ wsX0_feeOf := by decide +kernel
  have hp : ∀ z : Int, z = F_X0_feeOf p1 p2 p3 st → ((-1) ≤ z ∧ z ≤ 999999000000) → z = F_X0_feeOf p1 p2 p3 st ∧ st = st ∧ ((-1) ≤ z ∧ z ≤ 999999000000) := fun z h r1 => ⟨h, rfl, r1⟩
  refine f_aload_n C 0 dX0_feeOf_0 rfl rfl ?_
  refine f_iload_n C 1 dX0_feeOf_1 rfl rfl ?_
  refine f_iload_n C 2 dX0_feeOf_2 rfl rfl ?_
  refine f_calli C (c_X0_hasRule hX p1 p2 ⟨by omega, by omega⟩ ⟨by omega, by omega⟩ st (show (-1000000) ≤ p1 ∧ p1 ≤ 1000000 by omega) (show (-1000000) ≤ p2 ∧ p2 ≤ 1000000 by omega)) (cwV 2 C.1.2.2.2.2 gX0_feeOf_X0_hasRule rfl rfl rfl (by decide +kernel) ⟨Nat.le_of_ble_eq_true rfl, Nat.le_of_ble_eq_true rfl⟩) 4 rfl rfl rfl rfl rfl (Nat.le_of_ble_eq_true rfl) ⟨Nat.zero_le _, Nat.zero_le _⟩ dX0_feeOf_3 (fun z u hz1 hu => ?_)
  obtain ⟨qz1, hu, rz1⟩ := hu; replace hu := hu.symm; subst hu; subst qz1
  refine f_if_ne C 13 ⟨by omega, by omega⟩ dX0_feeOf_6 (by decide) (fun c2 => ?_) (fun c2 => ?_)
  · refine f_iload_n C 1 dX0_feeOf_13 rfl rfl ?_
    refine f_iload_n C 2 dX0_feeOf_14 rfl rfl ?_
    refine f_callsi C (c_X0_cellOf hX p1 p2 ⟨by omega, by omega⟩ ⟨by omega, by omega⟩ st (show (-1000000) ≤ p1 ∧ p1 ≤ 1000000 by omega) (show (-1000000) ≤ p2 ∧ p2 ≤ 1000000 by omega)) (va_cwS 2 C.1.2.2.2.2 gX0_feeOf_X0_cellOf rfl rfl rfl (by decide +kernel) ⟨Nat.le_of_ble_eq_true rfl, Nat.le_of_ble_eq_true rfl⟩) rfl rfl (Nat.le_of_ble_eq_true rfl) ⟨Nat.zero_le _, Nat.zero_le _⟩ dX0_feeOf_15 (fun z u hz3 hu => ?_)
    obtain ⟨qz3, hu, rz3⟩ := hu; replace hu := hu.symm; subst hu; subst qz3
    refine f_istore C (lv' := [(5, .int (zI (F_X0_cellOf p1 p2 st))), (0, .ref (a 4)), (1, .int (zI p1)), (2, .int (zI p2)), (3, .long (zJ p3))]) dX0_feeOf_18 (Nat.le_of_ble_eq_true rfl) rfl ?_
    refine f_aload_n C 0 dX0_feeOf_20 rfl rfl ?_
    refine f_get C hin0 4 3 rfl rfl (Nat.le_of_ble_eq_true rfl) (by decide +kernel) rfl rfl dX0_feeOf_21 ?_
    refine f_iload C 5 dX0_feeOf_24 rfl ?_
    refine f_ok (fun hO4 => ?_)
    refine f_calll C (c_Row_get hX 12 (Nat.le_of_ble_eq_true rfl) (F_X0_cellOf p1 p2 st) ⟨by omega, by omega⟩ st) (cwV 1 C.1.2.2.2.2 gX0_feeOf_X5_get rfl rfl rfl (by decide +kernel) ⟨Nat.le_of_ble_eq_true rfl, Nat.le_of_ble_eq_true rfl⟩) 20 (wX_row cJ a st (r := 12) (Nat.le_of_ble_eq_true rfl)) rfl rfl rfl rfl (Nat.le_of_ble_eq_true rfl) ⟨Nat.zero_le _, Nat.zero_le _⟩ dX0_feeOf_26 (fun z u hz5 hu => ?_)
    obtain ⟨qz5, hu⟩ : z = rget 36 (st.2 12) (F_X0_cellOf p1 p2 st) ∧ u = st := hu
    replace hu := hu.symm; subst hu; subst qz5
    have k6 : (-1) ≤ rget 36 (st.2 12) (F_X0_cellOf p1 p2 st) ∧ rget 36 (st.2 12) (F_X0_cellOf p1 p2 st) ≤ 999999 := xget_ok hO4 12 36 (F_X0_cellOf p1 p2 st)
    refine f_lstore C (lv' := [(6, .long (zJ (rget 36 (st.2 12) (F_X0_cellOf p1 p2 st)))), (5, .int (zI (F_X0_cellOf p1 p2 st))), (0, .ref (a 4)), (1, .int (zI p1)), (2, .int (zI p2)), (3, .long (zJ p3))]) dX0_feeOf_29 (Nat.le_of_ble_eq_true rfl) rfl ?_
    refine f_lload C 6 dX0_feeOf_31 rfl ?_
    refine f_lconst C (z := 0) dX0_feeOf_33 rfl ?_
    refine f_lc_if_gt C 42 ⟨by omega, by omega⟩ ⟨by decide, by decide⟩ dX0_feeOf_34 dX0_feeOf_35 (by decide) (fun c7 => ?_) (fun c7 => ?_)
    · refine f_aload_n C 0 dX0_feeOf_42 rfl rfl ?_
      refine f_iload C 5 dX0_feeOf_43 rfl ?_
      refine f_lload_n C 3 dX0_feeOf_45 rfl rfl ?_
      refine f_calll C (c_X0_priceOf hX (F_X0_cellOf p1 p2 st) p3 ⟨by omega, by omega⟩ ⟨by omega, by omega⟩ st (show 0 ≤ p3 ∧ p3 ≤ 1000000 by omega)) (cwV 2 C.1.2.2.2.2 gX0_feeOf_X0_priceOf rfl rfl rfl (by decide +kernel) ⟨Nat.le_of_ble_eq_true rfl, Nat.le_of_ble_eq_true rfl⟩) 4 rfl rfl rfl rfl rfl (Nat.le_of_ble_eq_true rfl) ⟨Nat.zero_le _, Nat.zero_le _⟩ dX0_feeOf_46 (fun z u hz8 hu => ?_)
      obtain ⟨qz8, hu, rz8⟩ := hu; replace hu := hu.symm; subst hu; subst qz8
      refine f_ok (fun hOk => ?_)
      have kp := xprice_b hOk hI (e := p1) (k := p2) (v := p3) (by assumption) (by omega) (by omega)
      refine f_lload C 6 dX0_feeOf_49 rfl ?_
      refine f_ldiv C ⟨by omega, by omega⟩ ⟨by omega, by omega⟩ dX0_feeOf_51 ?_
      have k9 := edivb (F_X0_priceOf (F_X0_cellOf p1 p2 st) p3 st) (rget 36 (st.2 12) (F_X0_cellOf p1 p2 st)) (by omega) (by omega)
      refine f_lstore C (lv' := [(8, .long (zJ ((F_X0_priceOf (F_X0_cellOf p1 p2 st) p3 st) / (rget 36 (st.2 12) (F_X0_cellOf p1 p2 st))))), (6, .long (zJ (rget 36 (st.2 12) (F_X0_cellOf p1 p2 st)))), (5, .int (zI (F_X0_cellOf p1 p2 st))), (0, .ref (a 4)), (1, .int (zI p1)), (2, .int (zI p2)), (3, .long (zJ p3))]) dX0_feeOf_52 (Nat.le_of_ble_eq_true rfl) rfl ?_
      refine f_aload_n C 0 dX0_feeOf_54 rfl rfl ?_
      refine f_get C hin0 4 5 rfl rfl (Nat.le_of_ble_eq_true rfl) (by decide +kernel) rfl rfl dX0_feeOf_55 ?_
      refine f_iload C 5 dX0_feeOf_58 rfl ?_
      refine f_calll C (c_Row_get hX 14 (Nat.le_of_ble_eq_true rfl) (F_X0_cellOf p1 p2 st) ⟨by omega, by omega⟩ st) (cwV 1 C.1.2.2.2.2 gX0_feeOf_X5_get rfl rfl rfl (by decide +kernel) ⟨Nat.le_of_ble_eq_true rfl, Nat.le_of_ble_eq_true rfl⟩) 22 (wX_row cJ a st (r := 14) (Nat.le_of_ble_eq_true rfl)) rfl rfl rfl rfl (Nat.le_of_ble_eq_true rfl) ⟨Nat.zero_le _, Nat.zero_le _⟩ dX0_feeOf_60 (fun z u hz10 hu => ?_)
      obtain ⟨qz10, hu⟩ : z = rget 36 (st.2 14) (F_X0_cellOf p1 p2 st) ∧ u = st := hu
      replace hu := hu.symm; subst hu; subst qz10
      have k11 : (-1) ≤ rget 36 (st.2 14) (F_X0_cellOf p1 p2 st) ∧ rget 36 (st.2 14) (F_X0_cellOf p1 p2 st) ≤ 999999 := xget_ok hO4 14 36 (F_X0_cellOf p1 p2 st)
      refine f_lstore C (lv' := [(10, .long (zJ (rget 36 (st.2 14) (F_X0_cellOf p1 p2 st)))), (8, .long (zJ ((F_X0_priceOf (F_X0_cellOf p1 p2 st) p3 st) / (rget 36 (st.2 12) (F_X0_cellOf p1 p2 st))))), (6, .long (zJ (rget 36 (st.2 12) (F_X0_cellOf p1 p2 st)))), (5, .int (zI (F_X0_cellOf p1 p2 st))), (0, .ref (a 4)), (1, .int (zI p1)), (2, .int (zI p2)), (3, .long (zJ p3))]) dX0_feeOf_63 (Nat.le_of_ble_eq_true rfl) rfl ?_
      refine f_lload C 10 dX0_feeOf_65 rfl ?_
      refine f_ldc2 C (v := (-1)) (z := (-1)) (by decide +kernel) (by decide) dX0_feeOf_67 ?_
      refine f_lc_if_eq C 87 ⟨by omega, by omega⟩ ⟨by decide, by decide⟩ dX0_feeOf_70 dX0_feeOf_71 (by decide) (fun c12 => ?_) (fun c12 => ?_)
      · refine f_lload C 8 dX0_feeOf_87 rfl ?_
        exact f_lret C hret hlk dX0_feeOf_89 ⟨by omega, by omega⟩ (hp _ (by rw [F_X0_feeOf, if_neg c2, if_pos c7, if_pos c12]) (by omega))
      refine f_lload C 8 dX0_feeOf_74 rfl ?_
      refine f_lload C 10 dX0_feeOf_76 rfl ?_
      refine f_lc_if_le C 87 ⟨by omega, by omega⟩ ⟨by omega, by omega⟩ dX0_feeOf_78 dX0_feeOf_79 (by decide) (fun c13 => ?_) (fun c13 => ?_)
      · refine f_lload C 8 dX0_feeOf_87 rfl ?_
        exact f_lret C hret hlk dX0_feeOf_89 ⟨by omega, by omega⟩ (hp _ (by rw [F_X0_feeOf, if_neg c2, if_pos c7, if_neg c12, if_pos c13]) (by omega))
      refine f_lload C 10 dX0_feeOf_82 rfl ?_
      refine f_goto C 89 dX0_feeOf_84 (by decide) ?_
      exact f_lret C hret hlk dX0_feeOf_89 ⟨by omega, by omega⟩ (hp _ (by rw [F_X0_feeOf, if_neg c2, if_pos c7, if_neg c12, if_neg c13]) (by omega))
    refine f_ldc2 C (v := (-1)) (z := (-1)) (by decide +kernel) (by decide) dX0_feeOf_38 ?_
    exact f_lret C hret hlk dX0_feeOf_41 ⟨by decide, by decide⟩ (hp _ (by rw [F_X0_feeOf, if_neg c2, if_neg c7]) (by omega))
  refine f_ldc2 C (v := (-1)) (z := (-1)) (by decide +kernel) (by decide) dX0_feeOf_9 ?_
  exact f_lret C hret hlk dX0_feeOf_12 ⟨by decide, by decide⟩ (hp _ (by rw [F_X0_feeOf, if_pos c2]) (by omega))
