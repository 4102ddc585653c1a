/-! ===== PART 27: held lines (laid by program) ===== -/
def F_X2_clear (st : fS) : fS := sN (sN st 9 0) 10 0
abbrev rm_X2_clear : Room := { frames := 0, cells := 0, slots := 0, locals := 0 }
set_option maxRecDepth 100000 in
set_option maxHeartbeats 8000000 in
theorem c_X2_clear {l : Launch} {D : va_G} {cI cJ cZ cB : ClassId} {a : Nat → Nat} {E : State → Prop} (hX : xHyp a E)   (st : fS)  : xMv l D cI cJ cZ cB a E yX2_clear wsX2_clear rm_X2_clear [.ref (a 7)] st (fun u => u = F_X2_clear st) := by
  refine fB_open (cc := cX2_clear) (maxL := 1) (ret := none) (by decide) rfl (Nat.le_of_ble_eq_true rfl) hX.2 ?_
  intro p e s m below meth c C hret hlk
  have hin2 : ∀ w ∈ u_ws RX2 TX2 7, w ∈ wsX2_clear := by decide +kernel
  have hp : ∀ u : fS, u = F_X2_clear st → u = F_X2_clear st := fun _ h => h
  refine f_aload_n C 0 dX2_clear_0 rfl rfl ?_
  refine f_iconst C dX2_clear_1 ?_
  refine f_put C (xD hX.1 cJ) hin2 tyX2 tyX2_ok nmX2 7 5 rfl rfl (Nat.le_of_ble_eq_true rfl) (by decide +kernel) rfl rfl (ty := .int) (by decide +kernel) rfl rfl (Nat.le_of_ble_eq_true rfl) (u := sN st 9 0) rfl (fun h => fOk_N h (show 0 ≤ (0 : Int) ∧ (0 : Int) ≤ 24 by omega)) dX2_clear_2 ?_
  refine f_aload_n C 0 dX2_clear_5 rfl rfl ?_
  refine f_iconst C dX2_clear_6 ?_
  refine f_put C (xD hX.1 cJ) hin2 tyX2 tyX2_ok nmX2 7 6 rfl rfl (Nat.le_of_ble_eq_true rfl) (by decide +kernel) rfl rfl (ty := .int) (by decide +kernel) rfl rfl (Nat.le_of_ble_eq_true rfl) (u := sN (sN st 9 0) 10 0) rfl (fun h => fOk_N h (show (-1000000000) ≤ (0 : Int) ∧ (0 : Int) ≤ 1000000000 by omega)) dX2_clear_7 ?_
  exact f_vret C hret hlk dX2_clear_10 (hp _ (by rw [F_X2_clear]))

def F_X2_printSign (p1 : Int) (st : fS) : fS := sN (rset st 28 (st.1 10) p1) 10 ((st.1 10) + 1)
abbrev rm_X2_printSign : Room := { frames := 1, cells := 0, slots := 0, locals := 23 }
set_option maxRecDepth 100000 in
set_option maxHeartbeats 8000000 in
theorem c_X2_printSign {l : Launch} {D : va_G} {cI cJ cZ cB : ClassId} {a : Nat → Nat} {E : State → Prop} (hX : xHyp a E) (p1 : Int) (h1 : in32 p1) (st : fS) (q1 : 0 ≤ p1 ∧ p1 ≤ 255) (q2 : 0 ≤ st.1 10 ∧ st.1 10 ≤ 1000000) : xMv l D cI cJ cZ cB a E yX2_printSign wsX2_printSign rm_X2_printSign [.ref (a 7), .int (zI p1)] st (fun u => u = F_X2_printSign p1 st) := by
  refine fB_open (cc := cX2_printSign) (maxL := 2) (ret := none) (by decide) rfl (Nat.le_of_ble_eq_true rfl) hX.2 ?_
  intro p e s m below meth c C hret hlk
  have hin2 : ∀ w ∈ u_ws RX2 TX2 7, w ∈ wsX2_printSign := by decide +kernel
  have hp : ∀ u : fS, u = F_X2_printSign p1 st → u = F_X2_printSign p1 st := fun _ h => h
  refine f_aload_n C 0 dX2_printSign_0 rfl rfl ?_
  refine f_get C hin2 7 4 rfl rfl (Nat.le_of_ble_eq_true rfl) (by decide +kernel) rfl rfl dX2_printSign_1 ?_
  refine f_aload_n C 0 dX2_printSign_4 rfl rfl ?_
  refine f_ok (fun hO1 => ?_)
  have k2 : (-1000000000) ≤ st.1 10 ∧ st.1 10 ≤ 1000000000 := hO1.1 10
  refine f_get C (v := .int (zI (st.1 10))) hin2 7 6 rfl rfl (Nat.le_of_ble_eq_true rfl) (by decide +kernel) rfl rfl dX2_printSign_5 ?_
  refine f_iload_n C 1 dX2_printSign_8 rfl rfl ?_
  refine f_i2l C ⟨by omega, by omega⟩ dX2_printSign_9 ?_
  refine f_callv C (c_Row_set hX 28 (Nat.le_of_ble_eq_true rfl) (st.1 10) p1 ⟨by omega, by omega⟩ (show 0 ≤ p1 ∧ p1 ≤ 255 by omega) st) (cwV 2 C.1.2.2.2.2 gX2_printSign_X5_set rfl rfl rfl (by decide +kernel) ⟨Nat.le_of_ble_eq_true rfl, Nat.le_of_ble_eq_true rfl⟩) 36 (wX_row cJ a st (r := 28) (Nat.le_of_ble_eq_true rfl)) rfl rfl rfl rfl (Nat.le_of_ble_eq_true rfl) ⟨Nat.zero_le _, Nat.zero_le _⟩ dX2_printSign_10 (fun u hu => ?_)
  replace hu := hu.symm; subst hu
  refine f_aload_n C 0 dX2_printSign_13 rfl rfl ?_
  refine f_dup C dX2_printSign_14 rfl ?_
  refine f_ok (fun hO3 => ?_)
  have k4 : (-1000000000) ≤ st.1 10 ∧ st.1 10 ≤ 1000000000 := hO3.1 10
  refine f_get C (v := .int (zI (st.1 10))) hin2 7 6 rfl rfl (Nat.le_of_ble_eq_true rfl) (by decide +kernel) rfl rfl dX2_printSign_15 ?_
  refine f_iconst C dX2_printSign_18 ?_
  refine f_iadd C dX2_printSign_19 ?_
  refine f_put C (xD hX.1 cJ) hin2 tyX2 tyX2_ok nmX2 7 6 rfl rfl (Nat.le_of_ble_eq_true rfl) (by decide +kernel) rfl rfl (ty := .int) (by decide +kernel) rfl rfl (Nat.le_of_ble_eq_true rfl) (u := sN (rset st 28 (st.1 10) p1) 10 ((st.1 10) + 1)) rfl (fun h => fOk_N h (show (-1000000000) ≤ ((st.1 10) + 1) ∧ ((st.1 10) + 1) ≤ 1000000000 by omega)) dX2_printSign_20 ?_
  exact f_vret C hret hlk dX2_printSign_23 (hp _ (by rw [F_X2_printSign]))

def F_X2_add (p1 : Int) (p2 : Int) (p4 : Int) (p5 : Int) (st : fS) : fS := sN (rset (rset (rset (rset st 24 (st.1 9) p1) 25 (st.1 9) p2) 26 (st.1 9) p4) 27 (st.1 9) p5) 9 ((st.1 9) + 1)
abbrev rm_X2_add : Room := { frames := 1, cells := 0, slots := 0, locals := 23 }
set_option maxRecDepth 100000 in
set_option maxHeartbeats 8000000 in
theorem c_X2_add {l : Launch} {D : va_G} {cI cJ cZ cB : ClassId} {a : Nat → Nat} {E : State → Prop} (hX : xHyp a E) (p1 : Int) (p2 : Int) (p4 : Int) (p5 : Int) (h1 : in32 p1) (h2 : in64 p2) (h4 : in32 p4) (h5 : in32 p5) (st : fS) (q1 : 0 ≤ p1 ∧ p1 ≤ 23) (q2 : (-100000000000000) ≤ p2 ∧ p2 ≤ 100000000000000) (q4 : (-1) ≤ p4 ∧ p4 ≤ 5) (q5 : 0 ≤ p5 ∧ p5 ≤ 2) (q9 : st.1 9 ≤ 23) : xMv l D cI cJ cZ cB a E yX2_add wsX2_add rm_X2_add [.ref (a 7), .int (zI p1), .long (zJ p2), .int (zI p4), .int (zI p5)] st (fun u => u = F_X2_add p1 p2 p4 p5 st) := by
  refine fB_open (cc := cX2_add) (maxL := 6) (ret := none) (by decide) rfl (Nat.le_of_ble_eq_true rfl) hX.2 ?_
  intro p e s m below meth c C hret hlk
  have hin2 : ∀ w ∈ u_ws RX2 TX2 7, w ∈ wsX2_add := by decide +kernel
  have hp : ∀ u : fS, u = F_X2_add p1 p2 p4 p5 st → u = F_X2_add p1 p2 p4 p5 st := fun _ h => h
  refine f_aload_n C 0 dX2_add_0 rfl rfl ?_
  refine f_get C hin2 7 0 rfl rfl (Nat.le_of_ble_eq_true rfl) (by decide +kernel) rfl rfl dX2_add_1 ?_
  refine f_aload_n C 0 dX2_add_4 rfl rfl ?_
  refine f_ok (fun hO1 => ?_)
  have k2 : 0 ≤ st.1 9 ∧ st.1 9 ≤ 24 := hO1.1 9
  refine f_get C (v := .int (zI (st.1 9))) hin2 7 5 rfl rfl (Nat.le_of_ble_eq_true rfl) (by decide +kernel) rfl rfl dX2_add_5 ?_
  refine f_iload_n C 1 dX2_add_8 rfl rfl ?_
  refine f_i2l C ⟨by omega, by omega⟩ dX2_add_9 ?_
  refine f_callv C (c_Row_set hX 24 (Nat.le_of_ble_eq_true rfl) (st.1 9) p1 ⟨by omega, by omega⟩ (show 0 ≤ p1 ∧ p1 ≤ 23 by omega) st) (cwV 2 C.1.2.2.2.2 gX2_add_X5_set rfl rfl rfl (by decide +kernel) ⟨Nat.le_of_ble_eq_true rfl, Nat.le_of_ble_eq_true rfl⟩) 32 (wX_row cJ a st (r := 24) (Nat.le_of_ble_eq_true rfl)) rfl rfl rfl rfl (Nat.le_of_ble_eq_true rfl) ⟨Nat.zero_le _, Nat.zero_le _⟩ dX2_add_10 (fun u hu => ?_)
  replace hu := hu.symm; subst hu
  refine f_aload_n C 0 dX2_add_13 rfl rfl ?_
  refine f_get C hin2 7 1 rfl rfl (Nat.le_of_ble_eq_true rfl) (by decide +kernel) rfl rfl dX2_add_14 ?_
  refine f_aload_n C 0 dX2_add_17 rfl rfl ?_
  refine f_ok (fun hO3 => ?_)
  have k4 : 0 ≤ st.1 9 ∧ st.1 9 ≤ 24 := hO3.1 9
  refine f_get C (v := .int (zI (st.1 9))) hin2 7 5 rfl rfl (Nat.le_of_ble_eq_true rfl) (by decide +kernel) rfl rfl dX2_add_18 ?_
  refine f_lload_n C 2 dX2_add_21 rfl rfl ?_
  refine f_callv C (c_Row_set hX 25 (Nat.le_of_ble_eq_true rfl) (st.1 9) p2 ⟨by omega, by omega⟩ (show (-100000000000000) ≤ p2 ∧ p2 ≤ 100000000000000 by omega) (rset st 24 (st.1 9) p1)) (cwV 2 C.1.2.2.2.2 gX2_add_X5_set rfl rfl rfl (by decide +kernel) ⟨Nat.le_of_ble_eq_true rfl, Nat.le_of_ble_eq_true rfl⟩) 33 (wX_row cJ a (rset st 24 (st.1 9) p1) (r := 25) (Nat.le_of_ble_eq_true rfl)) rfl rfl rfl rfl (Nat.le_of_ble_eq_true rfl) ⟨Nat.zero_le _, Nat.zero_le _⟩ dX2_add_22 (fun u hu => ?_)
  replace hu := hu.symm; subst hu
  refine f_aload_n C 0 dX2_add_25 rfl rfl ?_
  refine f_get C hin2 7 2 rfl rfl (Nat.le_of_ble_eq_true rfl) (by decide +kernel) rfl rfl dX2_add_26 ?_
  refine f_aload_n C 0 dX2_add_29 rfl rfl ?_
  refine f_ok (fun hO5 => ?_)
  have k6 : 0 ≤ st.1 9 ∧ st.1 9 ≤ 24 := hO5.1 9
  refine f_get C (v := .int (zI (st.1 9))) hin2 7 5 rfl rfl (Nat.le_of_ble_eq_true rfl) (by decide +kernel) rfl rfl dX2_add_30 ?_
  refine f_iload C 4 dX2_add_33 rfl ?_
  refine f_i2l C ⟨by omega, by omega⟩ dX2_add_35 ?_
  refine f_callv C (c_Row_set hX 26 (Nat.le_of_ble_eq_true rfl) (st.1 9) p4 ⟨by omega, by omega⟩ (show (-1) ≤ p4 ∧ p4 ≤ 5 by omega) (rset (rset st 24 (st.1 9) p1) 25 (st.1 9) p2)) (cwV 2 C.1.2.2.2.2 gX2_add_X5_set rfl rfl rfl (by decide +kernel) ⟨Nat.le_of_ble_eq_true rfl, Nat.le_of_ble_eq_true rfl⟩) 34 (wX_row cJ a (rset (rset st 24 (st.1 9) p1) 25 (st.1 9) p2) (r := 26) (Nat.le_of_ble_eq_true rfl)) rfl rfl rfl rfl (Nat.le_of_ble_eq_true rfl) ⟨Nat.zero_le _, Nat.zero_le _⟩ dX2_add_36 (fun u hu => ?_)
  replace hu := hu.symm; subst hu
  refine f_aload_n C 0 dX2_add_39 rfl rfl ?_
  refine f_get C hin2 7 3 rfl rfl (Nat.le_of_ble_eq_true rfl) (by decide +kernel) rfl rfl dX2_add_40 ?_
  refine f_aload_n C 0 dX2_add_43 rfl rfl ?_
  refine f_ok (fun hO7 => ?_)
  have k8 : 0 ≤ st.1 9 ∧ st.1 9 ≤ 24 := hO7.1 9
  refine f_get C (v := .int (zI (st.1 9))) hin2 7 5 rfl rfl (Nat.le_of_ble_eq_true rfl) (by decide +kernel) rfl rfl dX2_add_44 ?_
  refine f_iload C 5 dX2_add_47 rfl ?_
  refine f_i2l C ⟨by omega, by omega⟩ dX2_add_49 ?_
  refine f_callv C (c_Row_set hX 27 (Nat.le_of_ble_eq_true rfl) (st.1 9) p5 ⟨by omega, by omega⟩ (show 0 ≤ p5 ∧ p5 ≤ 2 by omega) (rset (rset (rset st 24 (st.1 9) p1) 25 (st.1 9) p2) 26 (st.1 9) p4)) (cwV 2 C.1.2.2.2.2 gX2_add_X5_set rfl rfl rfl (by decide +kernel) ⟨Nat.le_of_ble_eq_true rfl, Nat.le_of_ble_eq_true rfl⟩) 35 (wX_row cJ a (rset (rset (rset st 24 (st.1 9) p1) 25 (st.1 9) p2) 26 (st.1 9) p4) (r := 27) (Nat.le_of_ble_eq_true rfl)) rfl rfl rfl rfl (Nat.le_of_ble_eq_true rfl) ⟨Nat.zero_le _, Nat.zero_le _⟩ dX2_add_50 (fun u hu => ?_)
  replace hu := hu.symm; subst hu
  refine f_aload_n C 0 dX2_add_53 rfl rfl ?_
  refine f_dup C dX2_add_54 rfl ?_
  refine f_ok (fun hO9 => ?_)
  have k10 : 0 ≤ st.1 9 ∧ st.1 9 ≤ 24 := hO9.1 9
  refine f_get C (v := .int (zI (st.1 9))) hin2 7 5 rfl rfl (Nat.le_of_ble_eq_true rfl) (by decide +kernel) rfl rfl dX2_add_55 ?_
  refine f_iconst C dX2_add_58 ?_
  refine f_iadd C dX2_add_59 ?_
  refine f_put C (xD hX.1 cJ) hin2 tyX2 tyX2_ok nmX2 7 5 rfl rfl (Nat.le_of_ble_eq_true rfl) (by decide +kernel) rfl rfl (ty := .int) (by decide +kernel) rfl rfl (Nat.le_of_ble_eq_true rfl) (u := sN (rset (rset (rset (rset st 24 (st.1 9) p1) 25 (st.1 9) p2) 26 (st.1 9) p4) 27 (st.1 9) p5) 9 ((st.1 9) + 1)) rfl (fun h => fOk_N h (show 0 ≤ ((st.1 9) + 1) ∧ ((st.1 9) + 1) ≤ 24 by omega)) dX2_add_60 ?_
  exact f_vret C hret hlk dX2_add_63 (hp _ (by rw [F_X2_add]))

def F_X2_openFact_4 (v1 : Int) : Nat → Int → Int → fS → Int
  | 0, _, _, _ => 0
  | n + 1, v2, v3, st => if (st.1 9) ≤ v3 then (-1) else (if (rget 24 (st.2 27) v3) = 0 then F_X2_openFact_4 v1 (n) v2 (v3 + 1) st else (if v2 = v1 then rget 24 (st.2 24) v3 else F_X2_openFact_4 v1 (n) (v2 + 1) (v3 + 1) st))

def F_X2_openFact (p1 : Int) (st : fS) : Int := F_X2_openFact_4 p1 (Int.toNat ((st.1 9) - (0 : Int)) + 1) 0 0 st
abbrev rm_X2_openFact : Room := { frames := 1, cells := 0, slots := 0, locals := 21 }
set_option maxRecDepth 100000 in
set_option maxHeartbeats 8000000 in
theorem v_X2_openFact_4 {l : Launch} {D : va_G} {cI cJ cZ cB : ClassId} {a : Nat → Nat} {E : State → Prop} (hX : xHyp a E) (v1 : Int) (hv1 : in32 v1) {p : Program} {e : Env} {s : State} {m : MethodId} {args : Array Value} {below : List Frame} {meth : Method} {c : Code} (C : fC p m c cX2_openFact 4 s args wsX2_openFact yX2_openFact.cls D (fTys cI cJ cZ cB) E (xA a)) (hret : meth.sig.returnType = (some .int)) (hlk : meth.locks = false) {post : Int → fS → Prop} : ∀ (n : Nat) (v2 v3 : Int) (st : fS), in32 v2 → in32 v3 → (0 ≤ v3 ∧ v3 ≤ st.1 9) → (0 ≤ v2 ∧ v2 ≤ v3) → (0 ≤ st.1 9 ∧ st.1 9 ≤ 24) → st.1 9 - v3 < n → (∀ z : Int, z = F_X2_openFact_4 v1 n v2 v3 st → post z st) → fV D (wX cJ a) xOk (xA a) 4 p l e rm_X2_openFact s m args below meth c 0 0 (fMQ below (fQi D (wX cJ a) xOk (xA a) post) args s (xA a)) st 4 [(0, .ref (a 7)), (1, .int (zI v1)), (2, .int (zI v2)), (3, .int (zI v3))] [] := by
  have hin2 : ∀ w ∈ u_ws RX2 TX2 7, w ∈ wsX2_openFact := by decide +kernel
  intro n
  induction n with
  | zero =>
    intro v2 v3 st hv2 hv3 i0 i1 i2 hm hp
    omega
  | succ n ih =>
    intro v2 v3 st hv2 hv3 i0 i1 i2 hm hp
    refine f_iload_n C 3 dX2_openFact_4 rfl rfl ?_
    refine f_aload_n C 0 dX2_openFact_5 rfl rfl ?_
    refine f_ok (fun hO1 => ?_)
    have k2 : 0 ≤ st.1 9 ∧ st.1 9 ≤ 24 := hO1.1 9
    refine f_get C (v := .int (zI (st.1 9))) hin2 7 5 rfl rfl (Nat.le_of_ble_eq_true rfl) (by decide +kernel) rfl rfl dX2_openFact_6 ?_
    refine f_icmp_ge C 49 ⟨by omega, by omega⟩ ⟨by omega, by omega⟩ dX2_openFact_9 (by decide) (fun c3 => ?_) (fun c3 => ?_)
    · refine f_iconst C dX2_openFact_49 ?_
      exact f_iret C hret hlk dX2_openFact_50 ⟨by decide, by decide⟩ (hp _ (by rw [F_X2_openFact_4, if_pos c3]))
    refine f_aload_n C 0 dX2_openFact_12 rfl rfl ?_
    refine f_get C hin2 7 3 rfl rfl (Nat.le_of_ble_eq_true rfl) (by decide +kernel) rfl rfl dX2_openFact_13 ?_
    refine f_iload_n C 3 dX2_openFact_16 rfl rfl ?_
    refine f_calll C (c_Row_get hX 27 (Nat.le_of_ble_eq_true rfl) v3 ⟨by omega, by omega⟩ st) (cwV 1 C.1.2.2.2.2 gX2_openFact_X5_get rfl rfl rfl (by decide +kernel) ⟨Nat.le_of_ble_eq_true rfl, Nat.le_of_ble_eq_true rfl⟩) 35 (wX_row cJ a st (r := 27) (Nat.le_of_ble_eq_true rfl)) rfl rfl rfl rfl (Nat.le_of_ble_eq_true rfl) ⟨Nat.zero_le _, Nat.zero_le _⟩ dX2_openFact_17 (fun z u hz4 hu => ?_)
    obtain ⟨qz4, hu⟩ : z = rget 24 (st.2 27) v3 ∧ u = st := hu
    replace hu := hu.symm; subst hu; subst qz4
    have k5 : 0 ≤ rget 24 (st.2 27) v3 ∧ rget 24 (st.2 27) v3 ≤ 2 := xget_ok hO1 27 24 v3
    refine f_lconst C (z := 0) dX2_openFact_20 rfl ?_
    refine f_lc_if_eq C 43 ⟨by omega, by omega⟩ ⟨by decide, by decide⟩ dX2_openFact_21 dX2_openFact_22 (by decide) (fun c6 => ?_) (fun c6 => ?_)
    · refine f_iinc C (lv' := [(3, .int (zI (v3 + 1))), (0, .ref (a 7)), (1, .int (zI v1)), (2, .int (zI v2))]) 3 dX2_openFact_43 rfl (Nat.le_of_ble_eq_true rfl) rfl ?_
      refine f_goto C 4 dX2_openFact_46 (by decide) ?_
      refine f_re (lv' := [(0, .ref (a 7)), (1, .int (zI v1)), (2, .int (zI v2)), (3, .int (zI (v3 + 1)))]) [1, 2, 3, 0] rfl ?_
      exact ih v2 (v3 + 1) st ⟨by omega, by omega⟩ ⟨by omega, by omega⟩ (show 0 ≤ (v3 + 1) ∧ (v3 + 1) ≤ (st.1 9) by omega) (show 0 ≤ v2 ∧ v2 ≤ (v3 + 1) by omega) (show 0 ≤ (st.1 9) ∧ (st.1 9) ≤ 24 by omega) (show (st.1 9) - (v3 + 1) < ((n : Nat) : Int) by omega) (fun z e1 => hp z (by rw [F_X2_openFact_4, if_neg c3, if_pos c6]; exact e1))
    refine f_iload_n C 2 dX2_openFact_25 rfl rfl ?_
    refine f_iload_n C 1 dX2_openFact_26 rfl rfl ?_
    refine f_icmp_ne C 40 ⟨by omega, by omega⟩ ⟨by omega, by omega⟩ dX2_openFact_27 (by decide) (fun c7 => ?_) (fun c7 => ?_)
    · refine f_iinc C (lv' := [(2, .int (zI (v2 + 1))), (0, .ref (a 7)), (1, .int (zI v1)), (3, .int (zI v3))]) 2 dX2_openFact_40 rfl (Nat.le_of_ble_eq_true rfl) rfl ?_
      refine f_iinc C (lv' := [(3, .int (zI (v3 + 1))), (2, .int (zI (v2 + 1))), (0, .ref (a 7)), (1, .int (zI v1))]) 3 dX2_openFact_43 rfl (Nat.le_of_ble_eq_true rfl) rfl ?_
      refine f_goto C 4 dX2_openFact_46 (by decide) ?_
      refine f_re (lv' := [(0, .ref (a 7)), (1, .int (zI v1)), (2, .int (zI (v2 + 1))), (3, .int (zI (v3 + 1)))]) [2, 3, 1, 0] rfl ?_
      exact ih (v2 + 1) (v3 + 1) st ⟨by omega, by omega⟩ ⟨by omega, by omega⟩ (show 0 ≤ (v3 + 1) ∧ (v3 + 1) ≤ (st.1 9) by omega) (show 0 ≤ (v2 + 1) ∧ (v2 + 1) ≤ (v3 + 1) by omega) (show 0 ≤ (st.1 9) ∧ (st.1 9) ≤ 24 by omega) (show (st.1 9) - (v3 + 1) < ((n : Nat) : Int) by omega) (fun z e1 => hp z (by rw [F_X2_openFact_4, if_neg c3, if_neg c6, if_neg c7]; exact e1))
    refine f_aload_n C 0 dX2_openFact_30 rfl rfl ?_
    refine f_get C hin2 7 0 rfl rfl (Nat.le_of_ble_eq_true rfl) (by decide +kernel) rfl rfl dX2_openFact_31 ?_
    refine f_iload_n C 3 dX2_openFact_34 rfl rfl ?_
    refine f_calll C (c_Row_get hX 24 (Nat.le_of_ble_eq_true rfl) v3 ⟨by omega, by omega⟩ st) (cwV 1 C.1.2.2.2.2 gX2_openFact_X5_get rfl rfl rfl (by decide +kernel) ⟨Nat.le_of_ble_eq_true rfl, Nat.le_of_ble_eq_true rfl⟩) 32 (wX_row cJ a st (r := 24) (Nat.le_of_ble_eq_true rfl)) rfl rfl rfl rfl (Nat.le_of_ble_eq_true rfl) ⟨Nat.zero_le _, Nat.zero_le _⟩ dX2_openFact_35 (fun z u hz8 hu => ?_)
    obtain ⟨qz8, hu⟩ : z = rget 24 (st.2 24) v3 ∧ u = st := hu
    replace hu := hu.symm; subst hu; subst qz8
    have k9 : 0 ≤ rget 24 (st.2 24) v3 ∧ rget 24 (st.2 24) v3 ≤ 23 := xget_ok hO1 24 24 v3
    refine f_l2i C dX2_openFact_38 ?_
    exact f_iret C hret hlk dX2_openFact_39 ⟨by omega, by omega⟩ (hp _ (by rw [F_X2_openFact_4, if_neg c3, if_neg c6, if_pos c7]))
set_option maxRecDepth 100000 in
set_option maxHeartbeats 8000000 in
theorem c_X2_openFact {l : Launch} {D : va_G} {cI cJ cZ cB : ClassId} {a : Nat → Nat} {E : State → Prop} (hX : xHyp a E) (p1 : Int) (h1 : in32 p1) (st : fS)  : xMi l D cI cJ cZ cB a E yX2_openFact wsX2_openFact rm_X2_openFact [.ref (a 7), .int (zI p1)] st (fun z u => z = F_X2_openFact p1 st ∧ u = st) := by
  refine fB_open (cc := cX2_openFact) (maxL := 4) (ret := (some .int)) (by decide) rfl (Nat.le_of_ble_eq_true rfl) hX.2 ?_
  intro p e s m below meth c C hret hlk
  have hp : ∀ z : Int, z = F_X2_openFact p1 st → z = F_X2_openFact p1 st ∧ st = st := fun z h => ⟨h, rfl⟩
  refine f_iconst C dX2_openFact_0 ?_
  refine f_istore_n C 2 (lv' := [(2, .int (zI 0)), (0, .ref (a 7)), (1, .int (zI p1))]) dX2_openFact_1 rfl (Nat.le_of_ble_eq_true rfl) rfl ?_
  refine f_iconst C dX2_openFact_2 ?_
  refine f_istore_n C 3 (lv' := [(3, .int (zI 0)), (2, .int (zI 0)), (0, .ref (a 7)), (1, .int (zI p1))]) dX2_openFact_3 rfl (Nat.le_of_ble_eq_true rfl) rfl ?_
  refine f_re (lv' := [(0, .ref (a 7)), (1, .int (zI p1)), (2, .int (zI 0)), (3, .int (zI 0))]) [2, 3, 1, 0] rfl ?_
  refine f_ok (fun hO10 => ?_)
  have k11 : 0 ≤ st.1 9 ∧ st.1 9 ≤ 24 := hO10.1 9
  exact v_X2_openFact_4 hX p1 ⟨by omega, by omega⟩ C hret hlk (Int.toNat ((st.1 9) - (0 : Int)) + 1) 0 0 st ⟨by omega, by omega⟩ ⟨by omega, by omega⟩ (show 0 ≤ (0 : Int) ∧ (0 : Int) ≤ (st.1 9) by omega) (show 0 ≤ (0 : Int) ∧ (0 : Int) ≤ (0 : Int) by omega) (show 0 ≤ (st.1 9) ∧ (st.1 9) ≤ 24 by omega) (show (st.1 9) - (0 : Int) < ((Int.toNat ((st.1 9) - (0 : Int)) + 1 : Nat) : Int) by omega) (fun z e1 => hp z (by rw [F_X2_openFact]; exact e1))

def F_X2_printNumber_37 (v1 : Int) : Nat → Int → Int → fS → fS
  | 0, _, _, st => st
  | n + 1, v3, v5, st => if 18 ≤ v5 then st else (if v3 ≤ 0 then st else F_X2_printNumber_37 v1 (n) (v3 / 10) (v5 + 1) (F_X2_printSign ((Int.tmod (Int.tdiv v1 v3) 10) + 48) st))

def F_X2_printNumber_5 (v1 : Int) : Nat → Int → Int → fS → fS
  | 0, _, _, st => st
  | n + 1, v3, v5, st => if 18 ≤ v5 then F_X2_printNumber_37 v1 (Int.toNat (18 - (0 : Int)) + 1) v3 0 st else (if (Int.tdiv v1 10) < v3 then F_X2_printNumber_37 v1 (Int.toNat (18 - (0 : Int)) + 1) v3 0 st else F_X2_printNumber_5 v1 (n) (v3 * 10) (v5 + 1) st)

def F_X2_printNumber (p1 : Int) (st : fS) : fS := F_X2_printNumber_5 p1 (Int.toNat (18 - (1 : Int)) + 1) 1 1 st
abbrev rm_X2_printNumber : Room := { frames := 2, cells := 0, slots := 0, locals := 44 }
set_option maxRecDepth 100000 in
set_option maxHeartbeats 8000000 in
theorem v_X2_printNumber_37 {l : Launch} {D : va_G} {cI cJ cZ cB : ClassId} {a : Nat → Nat} {E : State → Prop} (hX : xHyp a E) (v1 : Int) (hv1 : in64 v1) {p : Program} {e : Env} {s : State} {m : MethodId} {args : Array Value} {below : List Frame} {meth : Method} {c : Code} (C : fC p m c cX2_printNumber 6 s args wsX2_printNumber yX2_printNumber.cls D (fTys cI cJ cZ cB) E (xA a)) (hret : meth.sig.returnType = none) (hlk : meth.locks = false) {post : fS → Prop} : ∀ (n : Nat) (v3 v5 : Int) (st : fS), in64 v3 → in32 v5 → ((-100000000000000) ≤ v1 ∧ v1 ≤ 100000000000000) → (0 ≤ v3 ∧ v3 ≤ 100000000000000) → (0 ≤ v5 ∧ v5 ≤ 18) → (0 ≤ st.1 10 ∧ st.1 10 ≤ 900000 + v5) → 18 - v5 < n → (∀ u : fS, u = F_X2_printNumber_37 v1 n v3 v5 st → post u) → fV D (wX cJ a) xOk (xA a) 6 p l e rm_X2_printNumber s m args below meth c 0 0 (fMQ below (fQv D (wX cJ a) xOk (xA a) post) args s (xA a)) st 37 [(0, .ref (a 7)), (1, .long (zJ v1)), (3, .long (zJ v3)), (5, .int (zI v5))] [] := by
  intro n
  induction n with
  | zero =>
    intro v3 v5 st hv3 hv5 i0 i1 i2 i3 hm hp
    omega
  | succ n ih =>
    intro v3 v5 st hv3 hv5 i0 i1 i2 i3 hm hp
    refine f_iload C 5 dX2_printNumber_37 rfl ?_
    refine f_bipush C dX2_printNumber_39 (by decide) ?_
    refine f_icmp_ge C 77 ⟨by omega, by omega⟩ ⟨by decide, by decide⟩ dX2_printNumber_41 (by decide) (fun c1 => ?_) (fun c1 => ?_)
    · exact f_vret C hret hlk dX2_printNumber_77 (hp _ (by rw [F_X2_printNumber_37, if_pos c1]))
    refine f_lload_n C 3 dX2_printNumber_44 rfl rfl ?_
    refine f_lconst C (z := 0) dX2_printNumber_45 rfl ?_
    refine f_lc_if_le C 77 ⟨by omega, by omega⟩ ⟨by decide, by decide⟩ dX2_printNumber_46 dX2_printNumber_47 (by decide) (fun c2 => ?_) (fun c2 => ?_)
    · exact f_vret C hret hlk dX2_printNumber_77 (hp _ (by rw [F_X2_printNumber_37, if_neg c1, if_pos c2]))
    refine f_aload_n C 0 dX2_printNumber_50 rfl rfl ?_
    refine f_lload_n C 1 dX2_printNumber_51 rfl rfl ?_
    refine f_lload_n C 3 dX2_printNumber_52 rfl rfl ?_
    refine f_ldivT C ⟨by omega, by omega⟩ ⟨by omega, by omega⟩ (by omega) dX2_printNumber_53 ?_
    have k3 := tdivb v1 v3 (B := 100000000000000) ⟨by omega, by omega⟩
    refine f_ldc2 C (v := 10) (z := 10) (by decide +kernel) (by decide) dX2_printNumber_54 ?_
    refine f_lremT C ⟨by omega, by omega⟩ ⟨by omega, by omega⟩ (by omega) dX2_printNumber_57 ?_
    have k4 := tmodb (Int.tdiv v1 v3) (B := 10) (by decide)
    refine f_l2i C dX2_printNumber_58 ?_
    refine f_bipush C dX2_printNumber_59 (by decide) ?_
    refine f_iadd C dX2_printNumber_61 ?_
    refine f_ok (fun hO5 => ?_)
    have k6 : (-1000000000) ≤ st.1 10 ∧ st.1 10 ≤ 1000000000 := hO5.1 10
    refine f_callv C (c_X2_printSign hX ((Int.tmod (Int.tdiv v1 v3) 10) + 48) ⟨by omega, by omega⟩ st (show 0 ≤ ((Int.tmod (Int.tdiv v1 v3) 10) + 48) ∧ ((Int.tmod (Int.tdiv v1 v3) 10) + 48) ≤ 255 by omega) (show 0 ≤ (st.1 10) ∧ (st.1 10) ≤ 1000000 by omega)) (cwV 1 C.1.2.2.2.2 gX2_printNumber_X2_printSign rfl rfl rfl (by decide +kernel) ⟨Nat.le_of_ble_eq_true rfl, Nat.le_of_ble_eq_true rfl⟩) 7 rfl rfl rfl rfl rfl (Nat.le_of_ble_eq_true rfl) ⟨Nat.zero_le _, Nat.zero_le _⟩ dX2_printNumber_62 (fun u hu => ?_)
    replace hu := hu.symm; subst hu
    have k8 : (F_X2_printSign ((Int.tmod (Int.tdiv v1 v3) 10) + 48) st).1 10 = st.1 10 + 1 := rfl
    refine f_lload_n C 3 dX2_printNumber_65 rfl rfl ?_
    refine f_ldc2 C (v := 10) (z := 10) (by decide +kernel) (by decide) dX2_printNumber_66 ?_
    refine f_ldiv C ⟨by omega, by omega⟩ ⟨by omega, by omega⟩ dX2_printNumber_69 ?_
    refine f_lstore_n C 3 (lv' := [(3, .long (zJ (v3 / 10))), (0, .ref (a 7)), (1, .long (zJ v1)), (5, .int (zI v5))]) dX2_printNumber_70 rfl (Nat.le_of_ble_eq_true rfl) rfl ?_
    refine f_iinc C (lv' := [(5, .int (zI (v5 + 1))), (3, .long (zJ (v3 / 10))), (0, .ref (a 7)), (1, .long (zJ v1))]) 3 dX2_printNumber_71 rfl (Nat.le_of_ble_eq_true rfl) rfl ?_
    refine f_goto C 37 dX2_printNumber_74 (by decide) ?_
    refine f_re (lv' := [(0, .ref (a 7)), (1, .long (zJ v1)), (3, .long (zJ (v3 / 10))), (5, .int (zI (v5 + 1)))]) [2, 3, 1, 0] rfl ?_
    refine f_ok (fun hO9 => ?_)
    have k10 : (-1000000000) ≤ (F_X2_printSign ((Int.tmod (Int.tdiv v1 v3) 10) + 48) st).1 10 ∧ (F_X2_printSign ((Int.tmod (Int.tdiv v1 v3) 10) + 48) st).1 10 ≤ 1000000000 := hO9.1 10
    exact ih (v3 / 10) (v5 + 1) (F_X2_printSign ((Int.tmod (Int.tdiv v1 v3) 10) + 48) st) ⟨by omega, by omega⟩ ⟨by omega, by omega⟩ (show (-100000000000000) ≤ v1 ∧ v1 ≤ 100000000000000 by omega) (show 0 ≤ (v3 / 10) ∧ (v3 / 10) ≤ 100000000000000 by omega) (show 0 ≤ (v5 + 1) ∧ (v5 + 1) ≤ 18 by omega) (show 0 ≤ ((F_X2_printSign ((Int.tmod (Int.tdiv v1 v3) 10) + 48) st).1 10) ∧ ((F_X2_printSign ((Int.tmod (Int.tdiv v1 v3) 10) + 48) st).1 10) ≤ 900000 + (v5 + 1) by omega) (show 18 - (v5 + 1) < ((n : Nat) : Int) by omega) (fun u e2 => hp u (by rw [F_X2_printNumber_37, if_neg c1, if_neg c2]; exact e2))
set_option maxRecDepth 100000 in
set_option maxHeartbeats 8000000 in
theorem v_X2_printNumber_5 {l : Launch} {D : va_G} {cI cJ cZ cB : ClassId} {a : Nat → Nat} {E : State → Prop} (hX : xHyp a E) (v1 : Int) (hv1 : in64 v1) {p : Program} {e : Env} {s : State} {m : MethodId} {args : Array Value} {below : List Frame} {meth : Method} {c : Code} (C : fC p m c cX2_printNumber 6 s args wsX2_printNumber yX2_printNumber.cls D (fTys cI cJ cZ cB) E (xA a)) (hret : meth.sig.returnType = none) (hlk : meth.locks = false) {post : fS → Prop} : ∀ (n : Nat) (v3 v5 : Int) (st : fS), in64 v3 → in32 v5 → ((-100000000000000) ≤ v1 ∧ v1 ≤ 100000000000000) → (1 ≤ v3 ∧ v3 ≤ 100000000000000) → (1 ≤ v5 ∧ v5 ≤ 18) → (0 ≤ st.1 10 ∧ st.1 10 ≤ 900000) → 18 - v5 < n → (∀ u : fS, u = F_X2_printNumber_5 v1 n v3 v5 st → post u) → fV D (wX cJ a) xOk (xA a) 6 p l e rm_X2_printNumber s m args below meth c 0 0 (fMQ below (fQv D (wX cJ a) xOk (xA a) post) args s (xA a)) st 5 [(0, .ref (a 7)), (1, .long (zJ v1)), (3, .long (zJ v3)), (5, .int (zI v5))] [] := by
  intro n
  induction n with
  | zero =>
    intro v3 v5 st hv3 hv5 i0 i1 i2 i3 hm hp
    omega
  | succ n ih =>
    intro v3 v5 st hv3 hv5 i0 i1 i2 i3 hm hp
    refine f_iload C 5 dX2_printNumber_5 rfl ?_
    refine f_bipush C dX2_printNumber_7 (by decide) ?_
    refine f_icmp_ge C 34 ⟨by omega, by omega⟩ ⟨by decide, by decide⟩ dX2_printNumber_9 (by decide) (fun c11 => ?_) (fun c11 => ?_)
    · refine f_iconst C dX2_printNumber_34 ?_
      refine f_istore C (lv' := [(5, .int (zI 0)), (0, .ref (a 7)), (1, .long (zJ v1)), (3, .long (zJ v3))]) dX2_printNumber_35 (Nat.le_of_ble_eq_true rfl) rfl ?_
      refine f_re (lv' := [(0, .ref (a 7)), (1, .long (zJ v1)), (3, .long (zJ v3)), (5, .int (zI 0))]) [1, 2, 3, 0] rfl ?_
      refine f_ok (fun hO12 => ?_)
      have k13 : (-1000000000) ≤ st.1 10 ∧ st.1 10 ≤ 1000000000 := hO12.1 10
      exact v_X2_printNumber_37 hX v1 ⟨by omega, by omega⟩ C hret hlk (Int.toNat (18 - (0 : Int)) + 1) v3 0 st ⟨by omega, by omega⟩ ⟨by omega, by omega⟩ (show (-100000000000000) ≤ v1 ∧ v1 ≤ 100000000000000 by omega) (show 0 ≤ v3 ∧ v3 ≤ 100000000000000 by omega) (show 0 ≤ (0 : Int) ∧ (0 : Int) ≤ 18 by omega) (show 0 ≤ (st.1 10) ∧ (st.1 10) ≤ 900000 + (0 : Int) by omega) (show 18 - (0 : Int) < ((Int.toNat (18 - (0 : Int)) + 1 : Nat) : Int) by omega) (fun u e2 => hp u (by rw [F_X2_printNumber_5, if_pos c11]; exact e2))
    refine f_lload_n C 3 dX2_printNumber_12 rfl rfl ?_
    refine f_lload_n C 1 dX2_printNumber_13 rfl rfl ?_
    refine f_ldc2 C (v := 10) (z := 10) (by decide +kernel) (by decide) dX2_printNumber_14 ?_
    refine f_ldivT C ⟨by omega, by omega⟩ ⟨by omega, by omega⟩ (by omega) dX2_printNumber_17 ?_
    have k14 := tdivk v1 (y := 10) (B := 100000000000000) (C := 10000000000000) (by decide) (by decide) ⟨by omega, by omega⟩
    refine f_lc_if_gt C 34 ⟨by omega, by omega⟩ ⟨by omega, by omega⟩ dX2_printNumber_18 dX2_printNumber_19 (by decide) (fun c15 => ?_) (fun c15 => ?_)
    · refine f_iconst C dX2_printNumber_34 ?_
      refine f_istore C (lv' := [(5, .int (zI 0)), (0, .ref (a 7)), (1, .long (zJ v1)), (3, .long (zJ v3))]) dX2_printNumber_35 (Nat.le_of_ble_eq_true rfl) rfl ?_
      refine f_re (lv' := [(0, .ref (a 7)), (1, .long (zJ v1)), (3, .long (zJ v3)), (5, .int (zI 0))]) [1, 2, 3, 0] rfl ?_
      refine f_ok (fun hO16 => ?_)
      have k17 : (-1000000000) ≤ st.1 10 ∧ st.1 10 ≤ 1000000000 := hO16.1 10
      exact v_X2_printNumber_37 hX v1 ⟨by omega, by omega⟩ C hret hlk (Int.toNat (18 - (0 : Int)) + 1) v3 0 st ⟨by omega, by omega⟩ ⟨by omega, by omega⟩ (show (-100000000000000) ≤ v1 ∧ v1 ≤ 100000000000000 by omega) (show 0 ≤ v3 ∧ v3 ≤ 100000000000000 by omega) (show 0 ≤ (0 : Int) ∧ (0 : Int) ≤ 18 by omega) (show 0 ≤ (st.1 10) ∧ (st.1 10) ≤ 900000 + (0 : Int) by omega) (show 18 - (0 : Int) < ((Int.toNat (18 - (0 : Int)) + 1 : Nat) : Int) by omega) (fun u e2 => hp u (by rw [F_X2_printNumber_5, if_neg c11, if_pos c15]; exact e2))
    refine f_lload_n C 3 dX2_printNumber_22 rfl rfl ?_
    refine f_ldc2 C (v := 10) (z := 10) (by decide +kernel) (by decide) dX2_printNumber_23 ?_
    refine f_lmul C dX2_printNumber_26 ?_
    refine f_lstore_n C 3 (lv' := [(3, .long (zJ (v3 * 10))), (0, .ref (a 7)), (1, .long (zJ v1)), (5, .int (zI v5))]) dX2_printNumber_27 rfl (Nat.le_of_ble_eq_true rfl) rfl ?_
    refine f_iinc C (lv' := [(5, .int (zI (v5 + 1))), (3, .long (zJ (v3 * 10))), (0, .ref (a 7)), (1, .long (zJ v1))]) 3 dX2_printNumber_28 rfl (Nat.le_of_ble_eq_true rfl) rfl ?_
    refine f_goto C 5 dX2_printNumber_31 (by decide) ?_
    refine f_re (lv' := [(0, .ref (a 7)), (1, .long (zJ v1)), (3, .long (zJ (v3 * 10))), (5, .int (zI (v5 + 1)))]) [2, 3, 1, 0] rfl ?_
    refine f_ok (fun hO18 => ?_)
    have k19 : (-1000000000) ≤ st.1 10 ∧ st.1 10 ≤ 1000000000 := hO18.1 10
    exact ih (v3 * 10) (v5 + 1) st ⟨by omega, by omega⟩ ⟨by omega, by omega⟩ (show (-100000000000000) ≤ v1 ∧ v1 ≤ 100000000000000 by omega) (show 1 ≤ (v3 * 10) ∧ (v3 * 10) ≤ 100000000000000 by omega) (show 1 ≤ (v5 + 1) ∧ (v5 + 1) ≤ 18 by omega) (show 0 ≤ (st.1 10) ∧ (st.1 10) ≤ 900000 by omega) (show 18 - (v5 + 1) < ((n : Nat) : Int) by omega) (fun u e2 => hp u (by rw [F_X2_printNumber_5, if_neg c11, if_neg c15]; exact e2))
set_option maxRecDepth 100000 in
set_option maxHeartbeats 8000000 in
theorem c_X2_printNumber {l : Launch} {D : va_G} {cI cJ cZ cB : ClassId} {a : Nat → Nat} {E : State → Prop} (hX : xHyp a E) (p1 : Int) (h1 : in64 p1) (st : fS) (q1 : (-100000000000000) ≤ p1 ∧ p1 ≤ 100000000000000) (q2 : 0 ≤ st.1 10 ∧ st.1 10 ≤ 900000) : xMv l D cI cJ cZ cB a E yX2_printNumber wsX2_printNumber rm_X2_printNumber [.ref (a 7), .long (zJ p1)] st (fun u => u = F_X2_printNumber p1 st) := by
  refine fB_open (cc := cX2_printNumber) (maxL := 6) (ret := none) (by decide) rfl (Nat.le_of_ble_eq_true rfl) hX.2 ?_
  intro p e s m below meth c C hret hlk
  have hp : ∀ u : fS, u = F_X2_printNumber p1 st → u = F_X2_printNumber p1 st := fun _ h => h
  refine f_lconst C (z := 1) dX2_printNumber_0 rfl ?_
  refine f_lstore_n C 3 (lv' := [(3, .long (zJ 1)), (0, .ref (a 7)), (1, .long (zJ p1))]) dX2_printNumber_1 rfl (Nat.le_of_ble_eq_true rfl) rfl ?_
  refine f_iconst C dX2_printNumber_2 ?_
  refine f_istore C (lv' := [(5, .int (zI 1)), (3, .long (zJ 1)), (0, .ref (a 7)), (1, .long (zJ p1))]) dX2_printNumber_3 (Nat.le_of_ble_eq_true rfl) rfl ?_
  refine f_re (lv' := [(0, .ref (a 7)), (1, .long (zJ p1)), (3, .long (zJ 1)), (5, .int (zI 1))]) [2, 3, 1, 0] rfl ?_
  refine f_ok (fun hO20 => ?_)
  have k21 : (-1000000000) ≤ st.1 10 ∧ st.1 10 ≤ 1000000000 := hO20.1 10
  exact v_X2_printNumber_5 hX p1 ⟨by omega, by omega⟩ C hret hlk (Int.toNat (18 - (1 : Int)) + 1) 1 1 st ⟨by omega, by omega⟩ ⟨by omega, by omega⟩ (show (-100000000000000) ≤ p1 ∧ p1 ≤ 100000000000000 by omega) (show 1 ≤ (1 : Int) ∧ (1 : Int) ≤ 100000000000000 by omega) (show 1 ≤ (1 : Int) ∧ (1 : Int) ≤ 18 by omega) (show 0 ≤ (st.1 10) ∧ (st.1 10) ≤ 900000 by omega) (show 18 - (1 : Int) < ((Int.toNat (18 - (1 : Int)) + 1 : Nat) : Int) by omega) (fun u e2 => hp u (by rw [F_X2_printNumber]; exact e2))

theorem pn37_10 (v1 : Int) : ∀ (n : Nat) (v3 v5 : Int) (st : fS), v5 ≤ 18 → st.1 10 ≤ (F_X2_printNumber_37 v1 n v3 v5 st).1 10 ∧ (F_X2_printNumber_37 v1 n v3 v5 st).1 10 ≤ st.1 10 + (18 - v5) := by
  intro n
  induction n with
  | zero => intro v3 v5 st h; rw [F_X2_printNumber_37]; omega
  | succ n ih =>
    intro v3 v5 st h
    rw [F_X2_printNumber_37]
    by_cases c1 : 18 ≤ v5
    · rw [if_pos c1]; omega
    · rw [if_neg c1]
      by_cases c2 : v3 ≤ 0
      · rw [if_pos c2]; omega
      · rw [if_neg c2]
        have i := ih (v3 / 10) (v5 + 1) (F_X2_printSign ((Int.tmod (Int.tdiv v1 v3) 10) + 48) st) (by omega)
        have e1 : (F_X2_printSign ((Int.tmod (Int.tdiv v1 v3) 10) + 48) st).1 10 = st.1 10 + 1 := rfl
        exact ⟨by omega, by omega⟩
theorem pn5_10 (v1 : Int) : ∀ (n : Nat) (v3 v5 : Int) (st : fS), 0 < n → st.1 10 ≤ (F_X2_printNumber_5 v1 n v3 v5 st).1 10 ∧ (F_X2_printNumber_5 v1 n v3 v5 st).1 10 ≤ st.1 10 + 18 := by
  intro n
  induction n with
  | zero => intro v3 v5 st h; omega
  | succ n ih =>
    intro v3 v5 st h
    rw [F_X2_printNumber_5]
    have q := pn37_10 v1 (Int.toNat (18 - (0 : Int)) + 1) v3 0 st (by omega)
    by_cases c1 : 18 ≤ v5
    · rw [if_pos c1]; exact ⟨by omega, by omega⟩
    · rw [if_neg c1]
      by_cases c2 : (Int.tdiv v1 10) < v3
      · rw [if_pos c2]; exact ⟨by omega, by omega⟩
      · rw [if_neg c2]
        cases n with
        | zero => rw [F_X2_printNumber_5]; exact ⟨by omega, by omega⟩
        | succ n => exact ih (v3 * 10) (v5 + 1) st (by omega)
theorem pn_10 (v : Int) (st : fS) : st.1 10 ≤ (F_X2_printNumber v st).1 10 ∧ (F_X2_printNumber v st).1 10 ≤ st.1 10 + 18 := by
  rw [F_X2_printNumber]
  exact pn5_10 v _ _ _ st (by omega)

def F_X2_print (p1 : Int) (p2 : Int) (p4 : Int) (st : fS) : fS := if p4 = (-1) then F_X2_printSign 10 (F_X2_printSign 63 (F_X2_printSign 32 (F_X2_printNumber p2 (F_X2_printSign 32 (F_X2_printNumber p1 st))))) else F_X2_printSign 10 (F_X2_printNumber p4 (F_X2_printSign 32 (F_X2_printNumber p2 (F_X2_printSign 32 (F_X2_printNumber p1 st)))))
abbrev rm_X2_print : Room := { frames := 3, cells := 0, slots := 0, locals := 69 }
set_option maxRecDepth 100000 in
set_option maxHeartbeats 8000000 in
theorem c_X2_print {l : Launch} {D : va_G} {cI cJ cZ cB : ClassId} {a : Nat → Nat} {E : State → Prop} (hX : xHyp a E) (p1 : Int) (p2 : Int) (p4 : Int) (h1 : in32 p1) (h2 : in64 p2) (h4 : in64 p4) (st : fS) (q1 : 0 ≤ p1 ∧ p1 ≤ 5) (q2 : 0 ≤ p2 ∧ p2 ≤ 1000000) (q4 : (-100000000000000) ≤ p4 ∧ p4 ≤ 100000000000000) (q10 : 0 ≤ st.1 10 ∧ st.1 10 ≤ 800000) : xMv l D cI cJ cZ cB a E yX2_print wsX2_print rm_X2_print [.ref (a 7), .int (zI p1), .long (zJ p2), .long (zJ p4)] st (fun u => u = F_X2_print p1 p2 p4 st) := by
  refine fB_open (cc := cX2_print) (maxL := 6) (ret := none) (by decide) rfl (Nat.le_of_ble_eq_true rfl) hX.2 ?_
  intro p e s m below meth c C hret hlk
  have hp : ∀ u : fS, u = F_X2_print p1 p2 p4 st → u = F_X2_print p1 p2 p4 st := fun _ h => h
  refine f_aload_n C 0 dX2_print_0 rfl rfl ?_
  refine f_iload_n C 1 dX2_print_1 rfl rfl ?_
  refine f_i2l C ⟨by omega, by omega⟩ dX2_print_2 ?_
  refine f_ok (fun hO1 => ?_)
  have k2 : (-1000000000) ≤ st.1 10 ∧ st.1 10 ≤ 1000000000 := hO1.1 10
  refine f_callv C (c_X2_printNumber hX p1 ⟨by omega, by omega⟩ st (show (-100000000000000) ≤ p1 ∧ p1 ≤ 100000000000000 by omega) (show 0 ≤ (st.1 10) ∧ (st.1 10) ≤ 900000 by omega)) (cwV 1 C.1.2.2.2.2 gX2_print_X2_printNumber rfl rfl rfl (by decide +kernel) ⟨Nat.le_of_ble_eq_true rfl, Nat.le_of_ble_eq_true rfl⟩) 7 rfl rfl rfl rfl rfl (Nat.le_of_ble_eq_true rfl) ⟨Nat.zero_le _, Nat.zero_le _⟩ dX2_print_3 (fun u hu => ?_)
  replace hu := hu.symm; subst hu
  have k4 : st.1 10 ≤ (F_X2_printNumber p1 st).1 10 ∧ (F_X2_printNumber p1 st).1 10 ≤ st.1 10 + 18 := pn_10 p1 st
  refine f_aload_n C 0 dX2_print_6 rfl rfl ?_
  refine f_bipush C dX2_print_7 (by decide) ?_
  refine f_ok (fun hO5 => ?_)
  have k6 : (-1000000000) ≤ (F_X2_printNumber p1 st).1 10 ∧ (F_X2_printNumber p1 st).1 10 ≤ 1000000000 := hO5.1 10
  refine f_callv C (c_X2_printSign hX 32 ⟨by decide, by decide⟩ (F_X2_printNumber p1 st) (show 0 ≤ (32 : Int) ∧ (32 : Int) ≤ 255 by omega) (show 0 ≤ ((F_X2_printNumber p1 st).1 10) ∧ ((F_X2_printNumber p1 st).1 10) ≤ 1000000 by omega)) (cwV 1 C.1.2.2.2.2 gX2_print_X2_printSign rfl rfl rfl (by decide +kernel) ⟨Nat.le_of_ble_eq_true rfl, Nat.le_of_ble_eq_true rfl⟩) 7 rfl rfl rfl rfl rfl (Nat.le_of_ble_eq_true rfl) ⟨Nat.zero_le _, Nat.zero_le _⟩ dX2_print_9 (fun u hu => ?_)
  replace hu := hu.symm; subst hu
  have k8 : (F_X2_printSign 32 (F_X2_printNumber p1 st)).1 10 = (F_X2_printNumber p1 st).1 10 + 1 := rfl
  refine f_aload_n C 0 dX2_print_12 rfl rfl ?_
  refine f_lload_n C 2 dX2_print_13 rfl rfl ?_
  refine f_ok (fun hO9 => ?_)
  have k10 : (-1000000000) ≤ (F_X2_printSign 32 (F_X2_printNumber p1 st)).1 10 ∧ (F_X2_printSign 32 (F_X2_printNumber p1 st)).1 10 ≤ 1000000000 := hO9.1 10
  refine f_callv C (c_X2_printNumber hX p2 ⟨by omega, by omega⟩ (F_X2_printSign 32 (F_X2_printNumber p1 st)) (show (-100000000000000) ≤ p2 ∧ p2 ≤ 100000000000000 by omega) (show 0 ≤ ((F_X2_printSign 32 (F_X2_printNumber p1 st)).1 10) ∧ ((F_X2_printSign 32 (F_X2_printNumber p1 st)).1 10) ≤ 900000 by omega)) (cwV 1 C.1.2.2.2.2 gX2_print_X2_printNumber rfl rfl rfl (by decide +kernel) ⟨Nat.le_of_ble_eq_true rfl, Nat.le_of_ble_eq_true rfl⟩) 7 rfl rfl rfl rfl rfl (Nat.le_of_ble_eq_true rfl) ⟨Nat.zero_le _, Nat.zero_le _⟩ dX2_print_14 (fun u hu => ?_)
  replace hu := hu.symm; subst hu
  have k12 : (F_X2_printSign 32 (F_X2_printNumber p1 st)).1 10 ≤ (F_X2_printNumber p2 (F_X2_printSign 32 (F_X2_printNumber p1 st))).1 10 ∧ (F_X2_printNumber p2 (F_X2_printSign 32 (F_X2_printNumber p1 st))).1 10 ≤ (F_X2_printSign 32 (F_X2_printNumber p1 st)).1 10 + 18 := pn_10 p2 (F_X2_printSign 32 (F_X2_printNumber p1 st))
  refine f_aload_n C 0 dX2_print_17 rfl rfl ?_
  refine f_bipush C dX2_print_18 (by decide) ?_
  refine f_ok (fun hO13 => ?_)
  have k14 : (-1000000000) ≤ (F_X2_printNumber p2 (F_X2_printSign 32 (F_X2_printNumber p1 st))).1 10 ∧ (F_X2_printNumber p2 (F_X2_printSign 32 (F_X2_printNumber p1 st))).1 10 ≤ 1000000000 := hO13.1 10
  refine f_callv C (c_X2_printSign hX 32 ⟨by decide, by decide⟩ (F_X2_printNumber p2 (F_X2_printSign 32 (F_X2_printNumber p1 st))) (show 0 ≤ (32 : Int) ∧ (32 : Int) ≤ 255 by omega) (show 0 ≤ ((F_X2_printNumber p2 (F_X2_printSign 32 (F_X2_printNumber p1 st))).1 10) ∧ ((F_X2_printNumber p2 (F_X2_printSign 32 (F_X2_printNumber p1 st))).1 10) ≤ 1000000 by omega)) (cwV 1 C.1.2.2.2.2 gX2_print_X2_printSign rfl rfl rfl (by decide +kernel) ⟨Nat.le_of_ble_eq_true rfl, Nat.le_of_ble_eq_true rfl⟩) 7 rfl rfl rfl rfl rfl (Nat.le_of_ble_eq_true rfl) ⟨Nat.zero_le _, Nat.zero_le _⟩ dX2_print_20 (fun u hu => ?_)
  replace hu := hu.symm; subst hu
  have k16 : (F_X2_printSign 32 (F_X2_printNumber p2 (F_X2_printSign 32 (F_X2_printNumber p1 st)))).1 10 = (F_X2_printNumber p2 (F_X2_printSign 32 (F_X2_printNumber p1 st))).1 10 + 1 := rfl
  refine f_lload C 4 dX2_print_23 rfl ?_
  refine f_ldc2 C (v := (-1)) (z := (-1)) (by decide +kernel) (by decide) dX2_print_25 ?_
  refine f_lc_if_ne C 41 ⟨by omega, by omega⟩ ⟨by decide, by decide⟩ dX2_print_28 dX2_print_29 (by decide) (fun c17 => ?_) (fun c17 => ?_)
  · refine f_aload_n C 0 dX2_print_41 rfl rfl ?_
    refine f_lload C 4 dX2_print_42 rfl ?_
    refine f_ok (fun hO18 => ?_)
    have k19 : (-1000000000) ≤ (F_X2_printSign 32 (F_X2_printNumber p2 (F_X2_printSign 32 (F_X2_printNumber p1 st)))).1 10 ∧ (F_X2_printSign 32 (F_X2_printNumber p2 (F_X2_printSign 32 (F_X2_printNumber p1 st)))).1 10 ≤ 1000000000 := hO18.1 10
    refine f_callv C (c_X2_printNumber hX p4 ⟨by omega, by omega⟩ (F_X2_printSign 32 (F_X2_printNumber p2 (F_X2_printSign 32 (F_X2_printNumber p1 st)))) (show (-100000000000000) ≤ p4 ∧ p4 ≤ 100000000000000 by omega) (show 0 ≤ ((F_X2_printSign 32 (F_X2_printNumber p2 (F_X2_printSign 32 (F_X2_printNumber p1 st)))).1 10) ∧ ((F_X2_printSign 32 (F_X2_printNumber p2 (F_X2_printSign 32 (F_X2_printNumber p1 st)))).1 10) ≤ 900000 by omega)) (cwV 1 C.1.2.2.2.2 gX2_print_X2_printNumber rfl rfl rfl (by decide +kernel) ⟨Nat.le_of_ble_eq_true rfl, Nat.le_of_ble_eq_true rfl⟩) 7 rfl rfl rfl rfl rfl (Nat.le_of_ble_eq_true rfl) ⟨Nat.zero_le _, Nat.zero_le _⟩ dX2_print_44 (fun u hu => ?_)
    replace hu := hu.symm; subst hu
    have k21 : (F_X2_printSign 32 (F_X2_printNumber p2 (F_X2_printSign 32 (F_X2_printNumber p1 st)))).1 10 ≤ (F_X2_printNumber p4 (F_X2_printSign 32 (F_X2_printNumber p2 (F_X2_printSign 32 (F_X2_printNumber p1 st))))).1 10 ∧ (F_X2_printNumber p4 (F_X2_printSign 32 (F_X2_printNumber p2 (F_X2_printSign 32 (F_X2_printNumber p1 st))))).1 10 ≤ (F_X2_printSign 32 (F_X2_printNumber p2 (F_X2_printSign 32 (F_X2_printNumber p1 st)))).1 10 + 18 := pn_10 p4 (F_X2_printSign 32 (F_X2_printNumber p2 (F_X2_printSign 32 (F_X2_printNumber p1 st))))
    refine f_aload_n C 0 dX2_print_47 rfl rfl ?_
    refine f_bipush C dX2_print_48 (by decide) ?_
    refine f_ok (fun hO22 => ?_)
    have k23 : (-1000000000) ≤ (F_X2_printNumber p4 (F_X2_printSign 32 (F_X2_printNumber p2 (F_X2_printSign 32 (F_X2_printNumber p1 st))))).1 10 ∧ (F_X2_printNumber p4 (F_X2_printSign 32 (F_X2_printNumber p2 (F_X2_printSign 32 (F_X2_printNumber p1 st))))).1 10 ≤ 1000000000 := hO22.1 10
    refine f_callv C (c_X2_printSign hX 10 ⟨by decide, by decide⟩ (F_X2_printNumber p4 (F_X2_printSign 32 (F_X2_printNumber p2 (F_X2_printSign 32 (F_X2_printNumber p1 st))))) (show 0 ≤ (10 : Int) ∧ (10 : Int) ≤ 255 by omega) (show 0 ≤ ((F_X2_printNumber p4 (F_X2_printSign 32 (F_X2_printNumber p2 (F_X2_printSign 32 (F_X2_printNumber p1 st))))).1 10) ∧ ((F_X2_printNumber p4 (F_X2_printSign 32 (F_X2_printNumber p2 (F_X2_printSign 32 (F_X2_printNumber p1 st))))).1 10) ≤ 1000000 by omega)) (cwV 1 C.1.2.2.2.2 gX2_print_X2_printSign rfl rfl rfl (by decide +kernel) ⟨Nat.le_of_ble_eq_true rfl, Nat.le_of_ble_eq_true rfl⟩) 7 rfl rfl rfl rfl rfl (Nat.le_of_ble_eq_true rfl) ⟨Nat.zero_le _, Nat.zero_le _⟩ dX2_print_50 (fun u hu => ?_)
    replace hu := hu.symm; subst hu
    have k25 : (F_X2_printSign 10 (F_X2_printNumber p4 (F_X2_printSign 32 (F_X2_printNumber p2 (F_X2_printSign 32 (F_X2_printNumber p1 st)))))).1 10 = (F_X2_printNumber p4 (F_X2_printSign 32 (F_X2_printNumber p2 (F_X2_printSign 32 (F_X2_printNumber p1 st))))).1 10 + 1 := rfl
    exact f_vret C hret hlk dX2_print_53 (hp _ (by rw [F_X2_print, if_neg c17]))
  refine f_aload_n C 0 dX2_print_32 rfl rfl ?_
  refine f_bipush C dX2_print_33 (by decide) ?_
  refine f_ok (fun hO26 => ?_)
  have k27 : (-1000000000) ≤ (F_X2_printSign 32 (F_X2_printNumber p2 (F_X2_printSign 32 (F_X2_printNumber p1 st)))).1 10 ∧ (F_X2_printSign 32 (F_X2_printNumber p2 (F_X2_printSign 32 (F_X2_printNumber p1 st)))).1 10 ≤ 1000000000 := hO26.1 10
  refine f_callv C (c_X2_printSign hX 63 ⟨by decide, by decide⟩ (F_X2_printSign 32 (F_X2_printNumber p2 (F_X2_printSign 32 (F_X2_printNumber p1 st)))) (show 0 ≤ (63 : Int) ∧ (63 : Int) ≤ 255 by omega) (show 0 ≤ ((F_X2_printSign 32 (F_X2_printNumber p2 (F_X2_printSign 32 (F_X2_printNumber p1 st)))).1 10) ∧ ((F_X2_printSign 32 (F_X2_printNumber p2 (F_X2_printSign 32 (F_X2_printNumber p1 st)))).1 10) ≤ 1000000 by omega)) (cwV 1 C.1.2.2.2.2 gX2_print_X2_printSign rfl rfl rfl (by decide +kernel) ⟨Nat.le_of_ble_eq_true rfl, Nat.le_of_ble_eq_true rfl⟩) 7 rfl rfl rfl rfl rfl (Nat.le_of_ble_eq_true rfl) ⟨Nat.zero_le _, Nat.zero_le _⟩ dX2_print_35 (fun u hu => ?_)
  replace hu := hu.symm; subst hu
  have k29 : (F_X2_printSign 63 (F_X2_printSign 32 (F_X2_printNumber p2 (F_X2_printSign 32 (F_X2_printNumber p1 st))))).1 10 = (F_X2_printSign 32 (F_X2_printNumber p2 (F_X2_printSign 32 (F_X2_printNumber p1 st)))).1 10 + 1 := rfl
  refine f_goto C 47 dX2_print_38 (by decide) ?_
  refine f_aload_n C 0 dX2_print_47 rfl rfl ?_
  refine f_bipush C dX2_print_48 (by decide) ?_
  refine f_ok (fun hO30 => ?_)
  have k31 : (-1000000000) ≤ (F_X2_printSign 63 (F_X2_printSign 32 (F_X2_printNumber p2 (F_X2_printSign 32 (F_X2_printNumber p1 st))))).1 10 ∧ (F_X2_printSign 63 (F_X2_printSign 32 (F_X2_printNumber p2 (F_X2_printSign 32 (F_X2_printNumber p1 st))))).1 10 ≤ 1000000000 := hO30.1 10
  refine f_callv C (c_X2_printSign hX 10 ⟨by decide, by decide⟩ (F_X2_printSign 63 (F_X2_printSign 32 (F_X2_printNumber p2 (F_X2_printSign 32 (F_X2_printNumber p1 st))))) (show 0 ≤ (10 : Int) ∧ (10 : Int) ≤ 255 by omega) (show 0 ≤ ((F_X2_printSign 63 (F_X2_printSign 32 (F_X2_printNumber p2 (F_X2_printSign 32 (F_X2_printNumber p1 st))))).1 10) ∧ ((F_X2_printSign 63 (F_X2_printSign 32 (F_X2_printNumber p2 (F_X2_printSign 32 (F_X2_printNumber p1 st))))).1 10) ≤ 1000000 by omega)) (cwV 1 C.1.2.2.2.2 gX2_print_X2_printSign rfl rfl rfl (by decide +kernel) ⟨Nat.le_of_ble_eq_true rfl, Nat.le_of_ble_eq_true rfl⟩) 7 rfl rfl rfl rfl rfl (Nat.le_of_ble_eq_true rfl) ⟨Nat.zero_le _, Nat.zero_le _⟩ dX2_print_50 (fun u hu => ?_)
  replace hu := hu.symm; subst hu
  have k33 : (F_X2_printSign 10 (F_X2_printSign 63 (F_X2_printSign 32 (F_X2_printNumber p2 (F_X2_printSign 32 (F_X2_printNumber p1 st)))))).1 10 = (F_X2_printSign 63 (F_X2_printSign 32 (F_X2_printNumber p2 (F_X2_printSign 32 (F_X2_printNumber p1 st))))).1 10 + 1 := rfl
  exact f_vret C hret hlk dX2_print_53 (hp _ (by rw [F_X2_print, if_pos c17]))
