/-! ===== PART 25: houses, facts, reliefs (laid by program) ===== -/
def F_X3_setWeight (p1 : Int) (p2 : Int) (p3 : Int) (st : fS) : fS := rset st 1 ((p1 * 6) + p2) p3
abbrev rm_X3_setWeight : Room := { frames := 1, cells := 0, slots := 0, locals := 23 }
set_option maxRecDepth 100000 in
set_option maxHeartbeats 8000000 in
theorem c_X3_setWeight {l : Launch} {D : va_G} {cI cJ cZ cB : ClassId} {a : Nat → Nat} {E : State → Prop} (hX : xHyp a E) (p1 : Int) (p2 : Int) (p3 : Int) (h1 : in32 p1) (h2 : in32 p2) (h3 : in32 p3) (st : fS) (q1 : (-1000000) ≤ p1 ∧ p1 ≤ 1000000) (q2 : (-1000000) ≤ p2 ∧ p2 ≤ 1000000) (q3 : 0 ≤ p3 ∧ p3 ≤ 1000) : xMv l D cI cJ cZ cB a E yX3_setWeight wsX3_setWeight rm_X3_setWeight [.ref (a 1), .int (zI p1), .int (zI p2), .int (zI p3)] st (fun u => u = F_X3_setWeight p1 p2 p3 st) := by
  refine fB_open (cc := cX3_setWeight) (maxL := 4) (ret := none) (by decide) rfl (Nat.le_of_ble_eq_true rfl) hX.2 ?_
  intro p e s m below meth c C hret hlk
  have hin3 : ∀ w ∈ u_ws RX3 TX3 4, w ∈ wsX3_setWeight := by decide +kernel
  have hp : ∀ u : fS, u = F_X3_setWeight p1 p2 p3 st → u = F_X3_setWeight p1 p2 p3 st := fun _ h => h
  refine f_aload_n C 0 dX3_setWeight_0 rfl rfl ?_
  refine f_get C hin3 1 1 rfl rfl (Nat.le_of_ble_eq_true rfl) (by decide +kernel) rfl rfl dX3_setWeight_1 ?_
  refine f_iload_n C 1 dX3_setWeight_4 rfl rfl ?_
  refine f_bipush C dX3_setWeight_5 (by decide) ?_
  refine f_imul C dX3_setWeight_7 ?_
  refine f_iload_n C 2 dX3_setWeight_8 rfl rfl ?_
  refine f_iadd C dX3_setWeight_9 ?_
  refine f_iload_n C 3 dX3_setWeight_10 rfl rfl ?_
  refine f_i2l C ⟨by omega, by omega⟩ dX3_setWeight_11 ?_
  refine f_callv C (c_Row_set hX 1 (Nat.le_of_ble_eq_true rfl) ((p1 * 6) + p2) p3 ⟨by omega, by omega⟩ (show 0 ≤ p3 ∧ p3 ≤ 1000 by omega) st) (cwV 2 C.1.2.2.2.2 gX3_setWeight_X5_set rfl rfl rfl (by decide +kernel) ⟨Nat.le_of_ble_eq_true rfl, Nat.le_of_ble_eq_true rfl⟩) 9 (wX_row cJ a st (r := 1) (Nat.le_of_ble_eq_true rfl)) rfl rfl rfl rfl (Nat.le_of_ble_eq_true rfl) ⟨Nat.zero_le _, Nat.zero_le _⟩ dX3_setWeight_12 (fun u hu => ?_)
  replace hu := hu.symm; subst hu
  exact f_vret C hret hlk dX3_setWeight_15 (hp _ (by rw [F_X3_setWeight]))

def F_X3_setIssued (p1 : Int) (p2 : Int) (p3 : Int) (st : fS) : fS := rset st 2 ((p1 * 120) + p2) p3
abbrev rm_X3_setIssued : Room := { frames := 1, cells := 0, slots := 0, locals := 23 }
set_option maxRecDepth 100000 in
set_option maxHeartbeats 8000000 in
theorem c_X3_setIssued {l : Launch} {D : va_G} {cI cJ cZ cB : ClassId} {a : Nat → Nat} {E : State → Prop} (hX : xHyp a E) (p1 : Int) (p2 : Int) (p3 : Int) (h1 : in32 p1) (h2 : in32 p2) (h3 : in64 p3) (st : fS) (q1 : (-1000000) ≤ p1 ∧ p1 ≤ 1000000) (q2 : (-1000000) ≤ p2 ∧ p2 ≤ 1000000) (q3 : (-10000000000000000) ≤ p3 ∧ p3 ≤ 10000000000000000) : xMv l D cI cJ cZ cB a E yX3_setIssued wsX3_setIssued rm_X3_setIssued [.ref (a 1), .int (zI p1), .int (zI p2), .long (zJ p3)] st (fun u => u = F_X3_setIssued p1 p2 p3 st) := by
  refine fB_open (cc := cX3_setIssued) (maxL := 5) (ret := none) (by decide) rfl (Nat.le_of_ble_eq_true rfl) hX.2 ?_
  intro p e s m below meth c C hret hlk
  have hin3 : ∀ w ∈ u_ws RX3 TX3 4, w ∈ wsX3_setIssued := by decide +kernel
  have hp : ∀ u : fS, u = F_X3_setIssued p1 p2 p3 st → u = F_X3_setIssued p1 p2 p3 st := fun _ h => h
  refine f_aload_n C 0 dX3_setIssued_0 rfl rfl ?_
  refine f_get C hin3 1 2 rfl rfl (Nat.le_of_ble_eq_true rfl) (by decide +kernel) rfl rfl dX3_setIssued_1 ?_
  refine f_iload_n C 1 dX3_setIssued_4 rfl rfl ?_
  refine f_bipush C dX3_setIssued_5 (by decide) ?_
  refine f_imul C dX3_setIssued_7 ?_
  refine f_iload_n C 2 dX3_setIssued_8 rfl rfl ?_
  refine f_iadd C dX3_setIssued_9 ?_
  refine f_lload_n C 3 dX3_setIssued_10 rfl rfl ?_
  refine f_callv C (c_Row_set hX 2 (Nat.le_of_ble_eq_true rfl) ((p1 * 120) + p2) p3 ⟨by omega, by omega⟩ (show (-10000000000000000) ≤ p3 ∧ p3 ≤ 10000000000000000 by omega) st) (cwV 2 C.1.2.2.2.2 gX3_setIssued_X5_set rfl rfl rfl (by decide +kernel) ⟨Nat.le_of_ble_eq_true rfl, Nat.le_of_ble_eq_true rfl⟩) 10 (wX_row cJ a st (r := 2) (Nat.le_of_ble_eq_true rfl)) rfl rfl rfl rfl (Nat.le_of_ble_eq_true rfl) ⟨Nat.zero_le _, Nat.zero_le _⟩ dX3_setIssued_11 (fun u hu => ?_)
  replace hu := hu.symm; subst hu
  exact f_vret C hret hlk dX3_setIssued_14 (hp _ (by rw [F_X3_setIssued]))

def F_X3_add_27 (v2 : Int) : Nat → Int → fS → Int × fS
  | 0, _, st => (0, st)
  | n + 1, v3, st => if 6 ≤ v3 then (v2, sN st 0 ((st.1 0) + 1)) else F_X3_add_27 v2 (n) (v3 + 1) (rset st 1 (v2 * 6 + v3) 1)

def F_X3_add (p1 : Int) (st : fS) : Int × fS := if (st.1 0) < 4 then F_X3_add_27 (st.1 0) (Int.toNat (6 - (0 : Int)) + 1) 0 (rset st 0 (st.1 0) p1) else ((-1), st)
abbrev rm_X3_add : Room := { frames := 2, cells := 0, slots := 0, locals := 46 }
set_option maxRecDepth 100000 in
set_option maxHeartbeats 8000000 in
theorem v_X3_add_27 {l : Launch} {D : va_G} {cI cJ cZ cB : ClassId} {a : Nat → Nat} {E : State → Prop} (hX : xHyp a E) (v2 : Int) (hv2 : in32 v2) {p : Program} {e : Env} {s : State} {m : MethodId} {args : Array Value} {below : List Frame} {meth : Method} {c : Code} (C : fC p m c cX3_add 4 s args wsX3_add yX3_add.cls D (fTys cI cJ cZ cB) E (xA a)) (hret : meth.sig.returnType = (some .int)) (hlk : meth.locks = false) {post : Int → fS → Prop} : ∀ (n : Nat) (v3 : Int) (st : fS), in32 v3 → (0 ≤ v3 ∧ v3 ≤ 6) → (st.1 0 = v2) → (0 ≤ v2 ∧ v2 ≤ 3) → 6 - v3 < n → (∀ (z : Int) (u : fS), z = (F_X3_add_27 v2 n v3 st).1 → u = (F_X3_add_27 v2 n v3 st).2 → post z u) → fV D (wX cJ a) xOk (xA a) 4 p l e rm_X3_add s m args below meth c 0 0 (fMQ below (fQi D (wX cJ a) xOk (xA a) post) args s (xA a)) st 27 [(0, .ref (a 1)), (2, .int (zI v2)), (3, .int (zI v3))] [] := by
  have hin3 : ∀ w ∈ u_ws RX3 TX3 4, w ∈ wsX3_add := by decide +kernel
  intro n
  induction n with
  | zero =>
    intro v3 st hv3 i0 i1 i2 hm hp
    omega
  | succ n ih =>
    intro v3 st hv3 i0 i1 i2 hm hp
    refine f_iload_n C 3 dX3_add_27 rfl rfl ?_
    refine f_bipush C dX3_add_28 (by decide) ?_
    refine f_icmp_ge C 46 ⟨by omega, by omega⟩ ⟨by decide, by decide⟩ dX3_add_30 (by decide) (fun c1 => ?_) (fun c1 => ?_)
    · refine f_aload_n C 0 dX3_add_46 rfl rfl ?_
      refine f_dup C dX3_add_47 rfl ?_
      refine f_ok (fun hO2 => ?_)
      have k3 : 0 ≤ st.1 0 ∧ st.1 0 ≤ 4 := hO2.1 0
      refine f_get C (v := .int (zI (st.1 0))) hin3 1 3 rfl rfl (Nat.le_of_ble_eq_true rfl) (by decide +kernel) rfl rfl dX3_add_48 ?_
      refine f_iconst C dX3_add_51 ?_
      refine f_iadd C dX3_add_52 ?_
      refine f_put C (xD hX.1 cJ) hin3 tyX3 tyX3_ok nmX3 1 3 rfl rfl (Nat.le_of_ble_eq_true rfl) (by decide +kernel) rfl rfl (ty := .int) (by decide +kernel) rfl rfl (Nat.le_of_ble_eq_true rfl) (u := sN st 0 ((st.1 0) + 1)) rfl (fun h => fOk_N h (show 0 ≤ ((st.1 0) + 1) ∧ ((st.1 0) + 1) ≤ 4 by omega)) dX3_add_53 ?_
      refine f_iload_n C 2 dX3_add_56 rfl rfl ?_
      exact f_iret C hret hlk dX3_add_57 ⟨by omega, by omega⟩ (hp _ _ (by rw [F_X3_add_27, if_pos c1]) (by rw [F_X3_add_27, if_pos c1]))
    refine f_aload_n C 0 dX3_add_33 rfl rfl ?_
    refine f_iload_n C 2 dX3_add_34 rfl rfl ?_
    refine f_iload_n C 3 dX3_add_35 rfl rfl ?_
    refine f_iconst C dX3_add_36 ?_
    refine f_callv C (c_X3_setWeight hX v2 v3 1 ⟨by omega, by omega⟩ ⟨by omega, by omega⟩ ⟨by decide, by decide⟩ st (show (-1000000) ≤ v2 ∧ v2 ≤ 1000000 by omega) (show (-1000000) ≤ v3 ∧ v3 ≤ 1000000 by omega) (show 0 ≤ (1 : Int) ∧ (1 : Int) ≤ 1000 by omega)) (cwV 3 C.1.2.2.2.2 gX3_add_X3_setWeight rfl rfl rfl (by decide +kernel) ⟨Nat.le_of_ble_eq_true rfl, Nat.le_of_ble_eq_true rfl⟩) 1 rfl rfl rfl rfl rfl (Nat.le_of_ble_eq_true rfl) ⟨Nat.zero_le _, Nat.zero_le _⟩ dX3_add_37 (fun u hu => ?_)
    replace hu : rset st 1 (v2 * 6 + v3) 1 = u := hu.symm; subst hu
    refine f_iinc C (lv' := [(3, .int (zI (v3 + 1))), (0, .ref (a 1)), (2, .int (zI v2))]) 2 dX3_add_40 rfl (Nat.le_of_ble_eq_true rfl) rfl ?_
    refine f_goto C 27 dX3_add_43 (by decide) ?_
    refine f_re (lv' := [(0, .ref (a 1)), (2, .int (zI v2)), (3, .int (zI (v3 + 1)))]) [1, 2, 0] rfl ?_
    refine f_ok (fun hO5 => ?_)
    have k6 : 0 ≤ st.1 0 ∧ st.1 0 ≤ 4 := hO5.1 0
    exact ih (v3 + 1) (rset st 1 (v2 * 6 + v3) 1) ⟨by omega, by omega⟩ (show 0 ≤ (v3 + 1) ∧ (v3 + 1) ≤ 6 by omega) (show (st.1 0) = v2 by omega) (show 0 ≤ v2 ∧ v2 ≤ 3 by omega) (show 6 - (v3 + 1) < ((n : Nat) : Int) by omega) (fun z u e1 e2 => hp z u (by rw [F_X3_add_27, if_neg c1]; exact e1) (by rw [F_X3_add_27, if_neg c1]; exact e2))
set_option maxRecDepth 100000 in
set_option maxHeartbeats 8000000 in
theorem c_X3_add {l : Launch} {D : va_G} {cI cJ cZ cB : ClassId} {a : Nat → Nat} {E : State → Prop} (hX : xHyp a E) (p1 : Int) (h1 : in32 p1) (st : fS) (q1 : 1 ≤ p1 ∧ p1 ≤ 6) : xMi l D cI cJ cZ cB a E yX3_add wsX3_add rm_X3_add [.ref (a 1), .int (zI p1)] st (fun z u => z = (F_X3_add p1 st).1 ∧ u = (F_X3_add p1 st).2) := by
  refine fB_open (cc := cX3_add) (maxL := 4) (ret := (some .int)) (by decide) rfl (Nat.le_of_ble_eq_true rfl) hX.2 ?_
  intro p e s m below meth c C hret hlk
  have hin3 : ∀ w ∈ u_ws RX3 TX3 4, w ∈ wsX3_add := by decide +kernel
  have hp : ∀ (z : Int) (u : fS), z = (F_X3_add p1 st).1 → u = (F_X3_add p1 st).2 → z = (F_X3_add p1 st).1 ∧ u = (F_X3_add p1 st).2 := fun z u h1 h2 => ⟨h1, h2⟩
  refine f_aload_n C 0 dX3_add_0 rfl rfl ?_
  refine f_ok (fun hO7 => ?_)
  have k8 : 0 ≤ st.1 0 ∧ st.1 0 ≤ 4 := hO7.1 0
  refine f_get C (v := .int (zI (st.1 0))) hin3 1 3 rfl rfl (Nat.le_of_ble_eq_true rfl) (by decide +kernel) rfl rfl dX3_add_1 ?_
  refine f_iconst C dX3_add_4 ?_
  refine f_icmp_lt C 10 ⟨by omega, by omega⟩ ⟨by decide, by decide⟩ dX3_add_5 (by decide) (fun c9 => ?_) (fun c9 => ?_)
  · refine f_aload_n C 0 dX3_add_10 rfl rfl ?_
    refine f_get C (v := .int (zI (st.1 0))) hin3 1 3 rfl rfl (Nat.le_of_ble_eq_true rfl) (by decide +kernel) rfl rfl dX3_add_11 ?_
    refine f_istore_n C 2 (lv' := [(2, .int (zI (st.1 0))), (0, .ref (a 1)), (1, .int (zI p1))]) dX3_add_14 rfl (Nat.le_of_ble_eq_true rfl) rfl ?_
    refine f_aload_n C 0 dX3_add_15 rfl rfl ?_
    refine f_get C hin3 1 0 rfl rfl (Nat.le_of_ble_eq_true rfl) (by decide +kernel) rfl rfl dX3_add_16 ?_
    refine f_iload_n C 2 dX3_add_19 rfl rfl ?_
    refine f_iload_n C 1 dX3_add_20 rfl rfl ?_
    refine f_i2l C ⟨by omega, by omega⟩ dX3_add_21 ?_
    refine f_callv C (c_Row_set hX 0 (Nat.le_of_ble_eq_true rfl) (st.1 0) p1 ⟨by omega, by omega⟩ (show 0 ≤ p1 ∧ p1 ≤ 6 by omega) st) (cwV 2 C.1.2.2.2.2 gX3_add_X5_set rfl rfl rfl (by decide +kernel) ⟨Nat.le_of_ble_eq_true rfl, Nat.le_of_ble_eq_true rfl⟩) 8 (wX_row cJ a st (r := 0) (Nat.le_of_ble_eq_true rfl)) rfl rfl rfl rfl (Nat.le_of_ble_eq_true rfl) ⟨Nat.zero_le _, Nat.zero_le _⟩ dX3_add_22 (fun u hu => ?_)
    replace hu := hu.symm; subst hu
    refine f_iconst C dX3_add_25 ?_
    refine f_istore_n C 3 (lv' := [(3, .int (zI 0)), (2, .int (zI (st.1 0))), (0, .ref (a 1)), (1, .int (zI p1))]) dX3_add_26 rfl (Nat.le_of_ble_eq_true rfl) rfl ?_
    refine f_re (lv' := [(0, .ref (a 1)), (2, .int (zI (st.1 0))), (3, .int (zI 0))]) [2, 1, 0] rfl ?_
    refine f_ok (fun hO10 => ?_)
    have k11 : 0 ≤ st.1 0 ∧ st.1 0 ≤ 4 := hO10.1 0
    exact v_X3_add_27 hX (st.1 0) ⟨by omega, by omega⟩ C hret hlk (Int.toNat (6 - (0 : Int)) + 1) 0 (rset st 0 (st.1 0) p1) ⟨by omega, by omega⟩ (show 0 ≤ (0 : Int) ∧ (0 : Int) ≤ 6 by omega) (show (st.1 0) = (st.1 0) by omega) (show 0 ≤ (st.1 0) ∧ (st.1 0) ≤ 3 by omega) (show 6 - (0 : Int) < ((Int.toNat (6 - (0 : Int)) + 1 : Nat) : Int) by omega) (fun z u e1 e2 => hp z u (by rw [F_X3_add, if_pos c9]; exact e1) (by rw [F_X3_add, if_pos c9]; exact e2))
  refine f_iconst C dX3_add_8 ?_
  exact f_iret C hret hlk dX3_add_9 ⟨by decide, by decide⟩ (hp _ _ (by rw [F_X3_add, if_neg c9]) (by rw [F_X3_add, if_neg c9]))

def F_X3_shareOf_61 (v1 v2 v3 v5 : Int) : Nat → Int → Int → Int → fS → Int
  | 0, _, _, _, _ => 0
  | n + 1, v7, v9, v11, st => if (F_X3_hasFlat v1 v11 st) = 0 then (if (F_X3_weightOf v1 v2 st) ≤ 0 then ((v3 * (F_X3_weightOf v1 v2 st)) / v5) + 0 else (if v7 ≤ v9 then ((v3 * (F_X3_weightOf v1 v2 st)) / v5) + 0 else ((v3 * (F_X3_weightOf v1 v2 st)) / v5) + 1)) else (if 6 ≤ v11 then (if (F_X3_weightOf v1 v2 st) ≤ 0 then ((v3 * (F_X3_weightOf v1 v2 st)) / v5) + 0 else (if v7 ≤ v9 then ((v3 * (F_X3_weightOf v1 v2 st)) / v5) + 0 else ((v3 * (F_X3_weightOf v1 v2 st)) / v5) + 1)) else (if v2 ≤ v11 then F_X3_shareOf_61 v1 v2 v3 v5 (n) (v7 - ((v3 * (F_X3_weightOf v1 v11 st)) / v5)) v9 (v11 + 1) st else (if (F_X3_weightOf v1 v11 st) ≤ 0 then F_X3_shareOf_61 v1 v2 v3 v5 (n) (v7 - ((v3 * (F_X3_weightOf v1 v11 st)) / v5)) v9 (v11 + 1) st else F_X3_shareOf_61 v1 v2 v3 v5 (n) (v7 - ((v3 * (F_X3_weightOf v1 v11 st)) / v5)) (v9 + 1) (v11 + 1) st)))

def F_X3_shareOf_6 (v1 v2 v3 : Int) : Nat → Int → Int → fS → Int
  | 0, _, _, _ => 0
  | n + 1, v5, v7, st => if (F_X3_hasFlat v1 v7 st) = 0 then (if 0 < v5 then F_X3_shareOf_61 v1 v2 v3 v5 (Int.toNat (6 - (0 : Int)) + 1) v3 0 0 st else (-9223372036854775808)) else (if 6 ≤ v7 then (if 0 < v5 then F_X3_shareOf_61 v1 v2 v3 v5 (Int.toNat (6 - (0 : Int)) + 1) v3 0 0 st else (-9223372036854775808)) else F_X3_shareOf_6 v1 v2 v3 (n) (v5 + (F_X3_weightOf v1 v7 st)) (v7 + 1) st)

def F_X3_shareOf (p1 : Int) (p2 : Int) (p3 : Int) (st : fS) : Int := F_X3_shareOf_6 p1 p2 p3 (Int.toNat (6 - (0 : Int)) + 1) 0 0 st
abbrev rm_X3_shareOf : Room := { frames := 2, cells := 0, slots := 0, locals := 43 }
set_option maxRecDepth 100000 in
set_option maxHeartbeats 8000000 in
theorem v_X3_shareOf_61 {l : Launch} {D : va_G} {cI cJ cZ cB : ClassId} {a : Nat → Nat} {E : State → Prop} (hX : xHyp a E) (v1 v2 v3 v5 : Int) (hv1 : in32 v1) (hv2 : in32 v2) (hv3 : in64 v3) (hv5 : in64 v5) {p : Program} {e : Env} {s : State} {m : MethodId} {args : Array Value} {below : List Frame} {meth : Method} {c : Code} (C : fC p m c cX3_shareOf 15 s args wsX3_shareOf yX3_shareOf.cls D (fTys cI cJ cZ cB) E (xA a)) (hret : meth.sig.returnType = (some .long)) (hlk : meth.locks = false) {post : Int → fS → Prop} : ∀ (n : Nat) (v7 v9 v11 : Int) (st : fS), in64 v7 → in64 v9 → in32 v11 → ((-1000000) ≤ v1 ∧ v1 ≤ 1000000) → ((-1000000) ≤ v2 ∧ v2 ≤ 1000000) → (0 ≤ v3 ∧ v3 ≤ 100000000000000) → (0 < v5 ∧ v5 ≤ 6000) → (0 ≤ v11 ∧ v11 ≤ 6) → (0 ≤ v9 ∧ v9 ≤ v11) → (-100000000000000 - v11 * 100000000000000000 ≤ v7 ∧ v7 ≤ 100000000000000 + v11 * 100000000000000000) → 6 - v11 < n → (∀ z : Int, z = F_X3_shareOf_61 v1 v2 v3 v5 n v7 v9 v11 st → (z = -9223372036854775808 ∨ (-1000000000000000000 ≤ z ∧ z ≤ 1000000000000000000)) → post z st) → fV D (wX cJ a) xOk (xA a) 15 p l e rm_X3_shareOf s m args below meth c 0 0 (fMQ below (fQl D (wX cJ a) xOk (xA a) post) args s (xA a)) st 61 [(0, .ref (a 1)), (1, .int (zI v1)), (2, .int (zI v2)), (3, .long (zJ v3)), (5, .long (zJ v5)), (7, .long (zJ v7)), (9, .long (zJ v9)), (11, .int (zI v11))] [] := by
  intro n
  induction n with
  | zero =>
    intro v7 v9 v11 st hv7 hv9 hv11 i0 i1 i2 i3 i4 i5 i6 hm hp
    omega
  | succ n ih =>
    intro v7 v9 v11 st hv7 hv9 hv11 i0 i1 i2 i3 i4 i5 i6 hm hp
    refine f_aload_n C 0 dX3_shareOf_61 rfl rfl ?_
    refine f_iload_n C 1 dX3_shareOf_62 rfl rfl ?_
    refine f_iload C 11 dX3_shareOf_63 rfl ?_
    refine f_calli C (c_X3_hasFlat hX v1 v11 ⟨by omega, by omega⟩ ⟨by omega, by omega⟩ st) (cwV 2 C.1.2.2.2.2 gX3_shareOf_X3_hasFlat rfl rfl rfl (by decide +kernel) ⟨Nat.le_of_ble_eq_true rfl, Nat.le_of_ble_eq_true rfl⟩) 1 rfl rfl rfl rfl rfl (Nat.le_of_ble_eq_true rfl) ⟨Nat.zero_le _, Nat.zero_le _⟩ dX3_shareOf_65 (fun z u hz1 hu => ?_)
    obtain ⟨qz1, hu, rz1⟩ := hu; replace hu := hu.symm; subst hu; subst qz1
    refine f_if_eq C 125 ⟨by omega, by omega⟩ dX3_shareOf_68 (by decide) (fun c2 => ?_) (fun c2 => ?_)
    · refine f_aload_n C 0 dX3_shareOf_125 rfl rfl ?_
      refine f_iload_n C 1 dX3_shareOf_126 rfl rfl ?_
      refine f_iload_n C 2 dX3_shareOf_127 rfl rfl ?_
      refine f_calll C (c_X3_weightOf hX v1 v2 ⟨by omega, by omega⟩ ⟨by omega, by omega⟩ st (show (-1000000) ≤ v1 ∧ v1 ≤ 1000000 by omega) (show (-1000000) ≤ v2 ∧ v2 ≤ 1000000 by omega)) (cwV 2 C.1.2.2.2.2 gX3_shareOf_X3_weightOf rfl rfl rfl (by decide +kernel) ⟨Nat.le_of_ble_eq_true rfl, Nat.le_of_ble_eq_true rfl⟩) 1 rfl rfl rfl rfl rfl (Nat.le_of_ble_eq_true rfl) ⟨Nat.zero_le _, Nat.zero_le _⟩ dX3_shareOf_128 (fun z u hz3 hu => ?_)
      obtain ⟨qz3, hu, rz3⟩ := hu; replace hu := hu.symm; subst hu; subst qz3
      refine f_lstore C (lv' := [(11, .long (zJ (F_X3_weightOf v1 v2 st))), (0, .ref (a 1)), (1, .int (zI v1)), (2, .int (zI v2)), (3, .long (zJ v3)), (5, .long (zJ v5)), (7, .long (zJ v7)), (9, .long (zJ v9))]) dX3_shareOf_131 (Nat.le_of_ble_eq_true rfl) rfl ?_
      refine f_lload C 11 dX3_shareOf_133 rfl ?_
      refine f_lconst C (z := 0) dX3_shareOf_135 rfl ?_
      refine f_lc_if_le C 152 ⟨by omega, by omega⟩ ⟨by decide, by decide⟩ dX3_shareOf_136 dX3_shareOf_137 (by decide) (fun c4 => ?_) (fun c4 => ?_)
      · refine f_lconst C (z := 0) dX3_shareOf_152 rfl ?_
        refine f_lstore C (lv' := [(13, .long (zJ 0)), (11, .long (zJ (F_X3_weightOf v1 v2 st))), (0, .ref (a 1)), (1, .int (zI v1)), (2, .int (zI v2)), (3, .long (zJ v3)), (5, .long (zJ v5)), (7, .long (zJ v7)), (9, .long (zJ v9))]) dX3_shareOf_153 (Nat.le_of_ble_eq_true rfl) rfl ?_
        refine f_lload_n C 3 dX3_shareOf_155 rfl rfl ?_
        refine f_lload C 11 dX3_shareOf_156 rfl ?_
        refine f_lmul C dX3_shareOf_158 ?_
        have k5 := mulp v3 (F_X3_weightOf v1 v2 st) (A := 100000000000000) (B := 1000) (C := 100000000000000000) (by decide) ⟨by omega, by omega⟩ ⟨by omega, by omega⟩
        refine f_lload C 5 dX3_shareOf_159 rfl ?_
        refine f_ldiv C ⟨by omega, by omega⟩ ⟨by omega, by omega⟩ dX3_shareOf_161 ?_
        have k6 := edivb (v3 * (F_X3_weightOf v1 v2 st)) v5 (by omega) (by omega)
        refine f_lload C 13 dX3_shareOf_162 rfl ?_
        refine f_ladd C dX3_shareOf_164 ?_
        exact f_lret C hret hlk dX3_shareOf_165 ⟨by omega, by omega⟩ (hp _ (by rw [F_X3_shareOf_61, if_pos c2, if_pos c4]) (by omega))
      refine f_lload C 9 dX3_shareOf_140 rfl ?_
      refine f_lload C 7 dX3_shareOf_142 rfl ?_
      refine f_lc_if_ge C 152 ⟨by omega, by omega⟩ ⟨by omega, by omega⟩ dX3_shareOf_144 dX3_shareOf_145 (by decide) (fun c7 => ?_) (fun c7 => ?_)
      · refine f_lconst C (z := 0) dX3_shareOf_152 rfl ?_
        refine f_lstore C (lv' := [(13, .long (zJ 0)), (11, .long (zJ (F_X3_weightOf v1 v2 st))), (0, .ref (a 1)), (1, .int (zI v1)), (2, .int (zI v2)), (3, .long (zJ v3)), (5, .long (zJ v5)), (7, .long (zJ v7)), (9, .long (zJ v9))]) dX3_shareOf_153 (Nat.le_of_ble_eq_true rfl) rfl ?_
        refine f_lload_n C 3 dX3_shareOf_155 rfl rfl ?_
        refine f_lload C 11 dX3_shareOf_156 rfl ?_
        refine f_lmul C dX3_shareOf_158 ?_
        have k8 := mulp v3 (F_X3_weightOf v1 v2 st) (A := 100000000000000) (B := 1000) (C := 100000000000000000) (by decide) ⟨by omega, by omega⟩ ⟨by omega, by omega⟩
        refine f_lload C 5 dX3_shareOf_159 rfl ?_
        refine f_ldiv C ⟨by omega, by omega⟩ ⟨by omega, by omega⟩ dX3_shareOf_161 ?_
        have k9 := edivb (v3 * (F_X3_weightOf v1 v2 st)) v5 (by omega) (by omega)
        refine f_lload C 13 dX3_shareOf_162 rfl ?_
        refine f_ladd C dX3_shareOf_164 ?_
        exact f_lret C hret hlk dX3_shareOf_165 ⟨by omega, by omega⟩ (hp _ (by rw [F_X3_shareOf_61, if_pos c2, if_neg c4, if_pos c7]) (by omega))
      refine f_lconst C (z := 1) dX3_shareOf_148 rfl ?_
      refine f_goto C 153 dX3_shareOf_149 (by decide) ?_
      refine f_lstore C (lv' := [(13, .long (zJ 1)), (11, .long (zJ (F_X3_weightOf v1 v2 st))), (0, .ref (a 1)), (1, .int (zI v1)), (2, .int (zI v2)), (3, .long (zJ v3)), (5, .long (zJ v5)), (7, .long (zJ v7)), (9, .long (zJ v9))]) dX3_shareOf_153 (Nat.le_of_ble_eq_true rfl) rfl ?_
      refine f_lload_n C 3 dX3_shareOf_155 rfl rfl ?_
      refine f_lload C 11 dX3_shareOf_156 rfl ?_
      refine f_lmul C dX3_shareOf_158 ?_
      have k10 := mulp v3 (F_X3_weightOf v1 v2 st) (A := 100000000000000) (B := 1000) (C := 100000000000000000) (by decide) ⟨by omega, by omega⟩ ⟨by omega, by omega⟩
      refine f_lload C 5 dX3_shareOf_159 rfl ?_
      refine f_ldiv C ⟨by omega, by omega⟩ ⟨by omega, by omega⟩ dX3_shareOf_161 ?_
      have k11 := edivb (v3 * (F_X3_weightOf v1 v2 st)) v5 (by omega) (by omega)
      refine f_lload C 13 dX3_shareOf_162 rfl ?_
      refine f_ladd C dX3_shareOf_164 ?_
      exact f_lret C hret hlk dX3_shareOf_165 ⟨by omega, by omega⟩ (hp _ (by rw [F_X3_shareOf_61, if_pos c2, if_neg c4, if_neg c7]) (by omega))
    refine f_iload C 11 dX3_shareOf_71 rfl ?_
    refine f_bipush C dX3_shareOf_73 (by decide) ?_
    refine f_icmp_ge C 125 ⟨by omega, by omega⟩ ⟨by decide, by decide⟩ dX3_shareOf_75 (by decide) (fun c12 => ?_) (fun c12 => ?_)
    · refine f_aload_n C 0 dX3_shareOf_125 rfl rfl ?_
      refine f_iload_n C 1 dX3_shareOf_126 rfl rfl ?_
      refine f_iload_n C 2 dX3_shareOf_127 rfl rfl ?_
      refine f_calll C (c_X3_weightOf hX v1 v2 ⟨by omega, by omega⟩ ⟨by omega, by omega⟩ st (show (-1000000) ≤ v1 ∧ v1 ≤ 1000000 by omega) (show (-1000000) ≤ v2 ∧ v2 ≤ 1000000 by omega)) (cwV 2 C.1.2.2.2.2 gX3_shareOf_X3_weightOf rfl rfl rfl (by decide +kernel) ⟨Nat.le_of_ble_eq_true rfl, Nat.le_of_ble_eq_true rfl⟩) 1 rfl rfl rfl rfl rfl (Nat.le_of_ble_eq_true rfl) ⟨Nat.zero_le _, Nat.zero_le _⟩ dX3_shareOf_128 (fun z u hz13 hu => ?_)
      obtain ⟨qz13, hu, rz13⟩ := hu; replace hu := hu.symm; subst hu; subst qz13
      refine f_lstore C (lv' := [(11, .long (zJ (F_X3_weightOf v1 v2 st))), (0, .ref (a 1)), (1, .int (zI v1)), (2, .int (zI v2)), (3, .long (zJ v3)), (5, .long (zJ v5)), (7, .long (zJ v7)), (9, .long (zJ v9))]) dX3_shareOf_131 (Nat.le_of_ble_eq_true rfl) rfl ?_
      refine f_lload C 11 dX3_shareOf_133 rfl ?_
      refine f_lconst C (z := 0) dX3_shareOf_135 rfl ?_
      refine f_lc_if_le C 152 ⟨by omega, by omega⟩ ⟨by decide, by decide⟩ dX3_shareOf_136 dX3_shareOf_137 (by decide) (fun c14 => ?_) (fun c14 => ?_)
      · refine f_lconst C (z := 0) dX3_shareOf_152 rfl ?_
        refine f_lstore C (lv' := [(13, .long (zJ 0)), (11, .long (zJ (F_X3_weightOf v1 v2 st))), (0, .ref (a 1)), (1, .int (zI v1)), (2, .int (zI v2)), (3, .long (zJ v3)), (5, .long (zJ v5)), (7, .long (zJ v7)), (9, .long (zJ v9))]) dX3_shareOf_153 (Nat.le_of_ble_eq_true rfl) rfl ?_
        refine f_lload_n C 3 dX3_shareOf_155 rfl rfl ?_
        refine f_lload C 11 dX3_shareOf_156 rfl ?_
        refine f_lmul C dX3_shareOf_158 ?_
        have k15 := mulp v3 (F_X3_weightOf v1 v2 st) (A := 100000000000000) (B := 1000) (C := 100000000000000000) (by decide) ⟨by omega, by omega⟩ ⟨by omega, by omega⟩
        refine f_lload C 5 dX3_shareOf_159 rfl ?_
        refine f_ldiv C ⟨by omega, by omega⟩ ⟨by omega, by omega⟩ dX3_shareOf_161 ?_
        have k16 := edivb (v3 * (F_X3_weightOf v1 v2 st)) v5 (by omega) (by omega)
        refine f_lload C 13 dX3_shareOf_162 rfl ?_
        refine f_ladd C dX3_shareOf_164 ?_
        exact f_lret C hret hlk dX3_shareOf_165 ⟨by omega, by omega⟩ (hp _ (by rw [F_X3_shareOf_61, if_neg c2, if_pos c12, if_pos c14]) (by omega))
      refine f_lload C 9 dX3_shareOf_140 rfl ?_
      refine f_lload C 7 dX3_shareOf_142 rfl ?_
      refine f_lc_if_ge C 152 ⟨by omega, by omega⟩ ⟨by omega, by omega⟩ dX3_shareOf_144 dX3_shareOf_145 (by decide) (fun c17 => ?_) (fun c17 => ?_)
      · refine f_lconst C (z := 0) dX3_shareOf_152 rfl ?_
        refine f_lstore C (lv' := [(13, .long (zJ 0)), (11, .long (zJ (F_X3_weightOf v1 v2 st))), (0, .ref (a 1)), (1, .int (zI v1)), (2, .int (zI v2)), (3, .long (zJ v3)), (5, .long (zJ v5)), (7, .long (zJ v7)), (9, .long (zJ v9))]) dX3_shareOf_153 (Nat.le_of_ble_eq_true rfl) rfl ?_
        refine f_lload_n C 3 dX3_shareOf_155 rfl rfl ?_
        refine f_lload C 11 dX3_shareOf_156 rfl ?_
        refine f_lmul C dX3_shareOf_158 ?_
        have k18 := mulp v3 (F_X3_weightOf v1 v2 st) (A := 100000000000000) (B := 1000) (C := 100000000000000000) (by decide) ⟨by omega, by omega⟩ ⟨by omega, by omega⟩
        refine f_lload C 5 dX3_shareOf_159 rfl ?_
        refine f_ldiv C ⟨by omega, by omega⟩ ⟨by omega, by omega⟩ dX3_shareOf_161 ?_
        have k19 := edivb (v3 * (F_X3_weightOf v1 v2 st)) v5 (by omega) (by omega)
        refine f_lload C 13 dX3_shareOf_162 rfl ?_
        refine f_ladd C dX3_shareOf_164 ?_
        exact f_lret C hret hlk dX3_shareOf_165 ⟨by omega, by omega⟩ (hp _ (by rw [F_X3_shareOf_61, if_neg c2, if_pos c12, if_neg c14, if_pos c17]) (by omega))
      refine f_lconst C (z := 1) dX3_shareOf_148 rfl ?_
      refine f_goto C 153 dX3_shareOf_149 (by decide) ?_
      refine f_lstore C (lv' := [(13, .long (zJ 1)), (11, .long (zJ (F_X3_weightOf v1 v2 st))), (0, .ref (a 1)), (1, .int (zI v1)), (2, .int (zI v2)), (3, .long (zJ v3)), (5, .long (zJ v5)), (7, .long (zJ v7)), (9, .long (zJ v9))]) dX3_shareOf_153 (Nat.le_of_ble_eq_true rfl) rfl ?_
      refine f_lload_n C 3 dX3_shareOf_155 rfl rfl ?_
      refine f_lload C 11 dX3_shareOf_156 rfl ?_
      refine f_lmul C dX3_shareOf_158 ?_
      have k20 := mulp v3 (F_X3_weightOf v1 v2 st) (A := 100000000000000) (B := 1000) (C := 100000000000000000) (by decide) ⟨by omega, by omega⟩ ⟨by omega, by omega⟩
      refine f_lload C 5 dX3_shareOf_159 rfl ?_
      refine f_ldiv C ⟨by omega, by omega⟩ ⟨by omega, by omega⟩ dX3_shareOf_161 ?_
      have k21 := edivb (v3 * (F_X3_weightOf v1 v2 st)) v5 (by omega) (by omega)
      refine f_lload C 13 dX3_shareOf_162 rfl ?_
      refine f_ladd C dX3_shareOf_164 ?_
      exact f_lret C hret hlk dX3_shareOf_165 ⟨by omega, by omega⟩ (hp _ (by rw [F_X3_shareOf_61, if_neg c2, if_pos c12, if_neg c14, if_neg c17]) (by omega))
    refine f_lload C 7 dX3_shareOf_78 rfl ?_
    refine f_lload_n C 3 dX3_shareOf_80 rfl rfl ?_
    refine f_aload_n C 0 dX3_shareOf_81 rfl rfl ?_
    refine f_iload_n C 1 dX3_shareOf_82 rfl rfl ?_
    refine f_iload C 11 dX3_shareOf_83 rfl ?_
    refine f_calll C (c_X3_weightOf hX v1 v11 ⟨by omega, by omega⟩ ⟨by omega, by omega⟩ st (show (-1000000) ≤ v1 ∧ v1 ≤ 1000000 by omega) (show (-1000000) ≤ v11 ∧ v11 ≤ 1000000 by omega)) (cwV 2 C.1.2.2.2.2 gX3_shareOf_X3_weightOf rfl rfl rfl (by decide +kernel) ⟨Nat.le_of_ble_eq_true rfl, Nat.le_of_ble_eq_true rfl⟩) 1 rfl rfl rfl rfl rfl (Nat.le_of_ble_eq_true rfl) ⟨Nat.zero_le _, Nat.zero_le _⟩ dX3_shareOf_85 (fun z u hz22 hu => ?_)
    obtain ⟨qz22, hu, rz22⟩ := hu; replace hu := hu.symm; subst hu; subst qz22
    refine f_lmul C dX3_shareOf_88 ?_
    have k23 := mulp v3 (F_X3_weightOf v1 v11 st) (A := 100000000000000) (B := 1000) (C := 100000000000000000) (by decide) ⟨by omega, by omega⟩ ⟨by omega, by omega⟩
    refine f_lload C 5 dX3_shareOf_89 rfl ?_
    refine f_ldiv C ⟨by omega, by omega⟩ ⟨by omega, by omega⟩ dX3_shareOf_91 ?_
    have k24 := edivb (v3 * (F_X3_weightOf v1 v11 st)) v5 (by omega) (by omega)
    refine f_lsub C dX3_shareOf_92 ?_
    refine f_lstore C (lv' := [(7, .long (zJ (v7 - ((v3 * (F_X3_weightOf v1 v11 st)) / v5)))), (0, .ref (a 1)), (1, .int (zI v1)), (2, .int (zI v2)), (3, .long (zJ v3)), (5, .long (zJ v5)), (9, .long (zJ v9)), (11, .int (zI v11))]) dX3_shareOf_93 (Nat.le_of_ble_eq_true rfl) rfl ?_
    refine f_iload C 11 dX3_shareOf_95 rfl ?_
    refine f_iload_n C 2 dX3_shareOf_97 rfl rfl ?_
    refine f_icmp_ge C 119 ⟨by omega, by omega⟩ ⟨by omega, by omega⟩ dX3_shareOf_98 (by decide) (fun c25 => ?_) (fun c25 => ?_)
    · refine f_iinc C (lv' := [(11, .int (zI (v11 + 1))), (7, .long (zJ (v7 - ((v3 * (F_X3_weightOf v1 v11 st)) / v5)))), (0, .ref (a 1)), (1, .int (zI v1)), (2, .int (zI v2)), (3, .long (zJ v3)), (5, .long (zJ v5)), (9, .long (zJ v9))]) 7 dX3_shareOf_119 rfl (Nat.le_of_ble_eq_true rfl) rfl ?_
      refine f_goto C 61 dX3_shareOf_122 (by decide) ?_
      refine f_re (lv' := [(0, .ref (a 1)), (1, .int (zI v1)), (2, .int (zI v2)), (3, .long (zJ v3)), (5, .long (zJ v5)), (7, .long (zJ (v7 - ((v3 * (F_X3_weightOf v1 v11 st)) / v5)))), (9, .long (zJ v9)), (11, .int (zI (v11 + 1)))]) [2, 3, 4, 5, 6, 1, 7, 0] rfl ?_
      exact ih (v7 - ((v3 * (F_X3_weightOf v1 v11 st)) / v5)) v9 (v11 + 1) st ⟨by omega, by omega⟩ ⟨by omega, by omega⟩ ⟨by omega, by omega⟩ (show (-1000000) ≤ v1 ∧ v1 ≤ 1000000 by omega) (show (-1000000) ≤ v2 ∧ v2 ≤ 1000000 by omega) (show 0 ≤ v3 ∧ v3 ≤ 100000000000000 by omega) (show 0 < v5 ∧ v5 ≤ 6000 by omega) (show 0 ≤ (v11 + 1) ∧ (v11 + 1) ≤ 6 by omega) (show 0 ≤ v9 ∧ v9 ≤ (v11 + 1) by omega) (show -100000000000000 - (v11 + 1) * 100000000000000000 ≤ (v7 - ((v3 * (F_X3_weightOf v1 v11 st)) / v5)) ∧ (v7 - ((v3 * (F_X3_weightOf v1 v11 st)) / v5)) ≤ 100000000000000 + (v11 + 1) * 100000000000000000 by omega) (show 6 - (v11 + 1) < ((n : Nat) : Int) by omega) (fun z e1 r1 => hp z (by rw [F_X3_shareOf_61, if_neg c2, if_neg c12, if_pos c25]; exact e1) r1)
    refine f_aload_n C 0 dX3_shareOf_101 rfl rfl ?_
    refine f_iload_n C 1 dX3_shareOf_102 rfl rfl ?_
    refine f_iload C 11 dX3_shareOf_103 rfl ?_
    refine f_calll C (c_X3_weightOf hX v1 v11 ⟨by omega, by omega⟩ ⟨by omega, by omega⟩ st (show (-1000000) ≤ v1 ∧ v1 ≤ 1000000 by omega) (show (-1000000) ≤ v11 ∧ v11 ≤ 1000000 by omega)) (cwV 2 C.1.2.2.2.2 gX3_shareOf_X3_weightOf rfl rfl rfl (by decide +kernel) ⟨Nat.le_of_ble_eq_true rfl, Nat.le_of_ble_eq_true rfl⟩) 1 rfl rfl rfl rfl rfl (Nat.le_of_ble_eq_true rfl) ⟨Nat.zero_le _, Nat.zero_le _⟩ dX3_shareOf_105 (fun z u hz26 hu => ?_)
    obtain ⟨qz26, hu, rz26⟩ := hu; replace hu := hu.symm; subst hu; subst qz26
    refine f_lconst C (z := 0) dX3_shareOf_108 rfl ?_
    refine f_lc_if_le C 119 ⟨by omega, by omega⟩ ⟨by decide, by decide⟩ dX3_shareOf_109 dX3_shareOf_110 (by decide) (fun c27 => ?_) (fun c27 => ?_)
    · refine f_iinc C (lv' := [(11, .int (zI (v11 + 1))), (7, .long (zJ (v7 - ((v3 * (F_X3_weightOf v1 v11 st)) / v5)))), (0, .ref (a 1)), (1, .int (zI v1)), (2, .int (zI v2)), (3, .long (zJ v3)), (5, .long (zJ v5)), (9, .long (zJ v9))]) 7 dX3_shareOf_119 rfl (Nat.le_of_ble_eq_true rfl) rfl ?_
      refine f_goto C 61 dX3_shareOf_122 (by decide) ?_
      refine f_re (lv' := [(0, .ref (a 1)), (1, .int (zI v1)), (2, .int (zI v2)), (3, .long (zJ v3)), (5, .long (zJ v5)), (7, .long (zJ (v7 - ((v3 * (F_X3_weightOf v1 v11 st)) / v5)))), (9, .long (zJ v9)), (11, .int (zI (v11 + 1)))]) [2, 3, 4, 5, 6, 1, 7, 0] rfl ?_
      exact ih (v7 - ((v3 * (F_X3_weightOf v1 v11 st)) / v5)) v9 (v11 + 1) st ⟨by omega, by omega⟩ ⟨by omega, by omega⟩ ⟨by omega, by omega⟩ (show (-1000000) ≤ v1 ∧ v1 ≤ 1000000 by omega) (show (-1000000) ≤ v2 ∧ v2 ≤ 1000000 by omega) (show 0 ≤ v3 ∧ v3 ≤ 100000000000000 by omega) (show 0 < v5 ∧ v5 ≤ 6000 by omega) (show 0 ≤ (v11 + 1) ∧ (v11 + 1) ≤ 6 by omega) (show 0 ≤ v9 ∧ v9 ≤ (v11 + 1) by omega) (show -100000000000000 - (v11 + 1) * 100000000000000000 ≤ (v7 - ((v3 * (F_X3_weightOf v1 v11 st)) / v5)) ∧ (v7 - ((v3 * (F_X3_weightOf v1 v11 st)) / v5)) ≤ 100000000000000 + (v11 + 1) * 100000000000000000 by omega) (show 6 - (v11 + 1) < ((n : Nat) : Int) by omega) (fun z e1 r1 => hp z (by rw [F_X3_shareOf_61, if_neg c2, if_neg c12, if_neg c25, if_pos c27]; exact e1) r1)
    refine f_lload C 9 dX3_shareOf_113 rfl ?_
    refine f_lconst C (z := 1) dX3_shareOf_115 rfl ?_
    refine f_ladd C dX3_shareOf_116 ?_
    refine f_lstore C (lv' := [(9, .long (zJ (v9 + 1))), (7, .long (zJ (v7 - ((v3 * (F_X3_weightOf v1 v11 st)) / v5)))), (0, .ref (a 1)), (1, .int (zI v1)), (2, .int (zI v2)), (3, .long (zJ v3)), (5, .long (zJ v5)), (11, .int (zI v11))]) dX3_shareOf_117 (Nat.le_of_ble_eq_true rfl) rfl ?_
    refine f_iinc C (lv' := [(11, .int (zI (v11 + 1))), (9, .long (zJ (v9 + 1))), (7, .long (zJ (v7 - ((v3 * (F_X3_weightOf v1 v11 st)) / v5)))), (0, .ref (a 1)), (1, .int (zI v1)), (2, .int (zI v2)), (3, .long (zJ v3)), (5, .long (zJ v5))]) 7 dX3_shareOf_119 rfl (Nat.le_of_ble_eq_true rfl) rfl ?_
    refine f_goto C 61 dX3_shareOf_122 (by decide) ?_
    refine f_re (lv' := [(0, .ref (a 1)), (1, .int (zI v1)), (2, .int (zI v2)), (3, .long (zJ v3)), (5, .long (zJ v5)), (7, .long (zJ (v7 - ((v3 * (F_X3_weightOf v1 v11 st)) / v5)))), (9, .long (zJ (v9 + 1))), (11, .int (zI (v11 + 1)))]) [3, 4, 5, 6, 7, 2, 1, 0] rfl ?_
    exact ih (v7 - ((v3 * (F_X3_weightOf v1 v11 st)) / v5)) (v9 + 1) (v11 + 1) st ⟨by omega, by omega⟩ ⟨by omega, by omega⟩ ⟨by omega, by omega⟩ (show (-1000000) ≤ v1 ∧ v1 ≤ 1000000 by omega) (show (-1000000) ≤ v2 ∧ v2 ≤ 1000000 by omega) (show 0 ≤ v3 ∧ v3 ≤ 100000000000000 by omega) (show 0 < v5 ∧ v5 ≤ 6000 by omega) (show 0 ≤ (v11 + 1) ∧ (v11 + 1) ≤ 6 by omega) (show 0 ≤ (v9 + 1) ∧ (v9 + 1) ≤ (v11 + 1) by omega) (show -100000000000000 - (v11 + 1) * 100000000000000000 ≤ (v7 - ((v3 * (F_X3_weightOf v1 v11 st)) / v5)) ∧ (v7 - ((v3 * (F_X3_weightOf v1 v11 st)) / v5)) ≤ 100000000000000 + (v11 + 1) * 100000000000000000 by omega) (show 6 - (v11 + 1) < ((n : Nat) : Int) by omega) (fun z e1 r1 => hp z (by rw [F_X3_shareOf_61, if_neg c2, if_neg c12, if_neg c25, if_neg c27]; exact e1) r1)
set_option maxRecDepth 100000 in
set_option maxHeartbeats 8000000 in
theorem v_X3_shareOf_6 {l : Launch} {D : va_G} {cI cJ cZ cB : ClassId} {a : Nat → Nat} {E : State → Prop} (hX : xHyp a E) (v1 v2 v3 : Int) (hv1 : in32 v1) (hv2 : in32 v2) (hv3 : in64 v3) {p : Program} {e : Env} {s : State} {m : MethodId} {args : Array Value} {below : List Frame} {meth : Method} {c : Code} (C : fC p m c cX3_shareOf 15 s args wsX3_shareOf yX3_shareOf.cls D (fTys cI cJ cZ cB) E (xA a)) (hret : meth.sig.returnType = (some .long)) (hlk : meth.locks = false) {post : Int → fS → Prop} : ∀ (n : Nat) (v5 v7 : Int) (st : fS), in64 v5 → in32 v7 → ((-1000000) ≤ v1 ∧ v1 ≤ 1000000) → ((-1000000) ≤ v2 ∧ v2 ≤ 1000000) → (0 ≤ v3 ∧ v3 ≤ 100000000000000) → (0 ≤ v7 ∧ v7 ≤ 6) → (0 ≤ v5 ∧ v5 ≤ 1000 * v7) → 6 - v7 < n → (∀ z : Int, z = F_X3_shareOf_6 v1 v2 v3 n v5 v7 st → (z = -9223372036854775808 ∨ (-1000000000000000000 ≤ z ∧ z ≤ 1000000000000000000)) → post z st) → fV D (wX cJ a) xOk (xA a) 15 p l e rm_X3_shareOf s m args below meth c 0 0 (fMQ below (fQl D (wX cJ a) xOk (xA a) post) args s (xA a)) st 6 [(0, .ref (a 1)), (1, .int (zI v1)), (2, .int (zI v2)), (3, .long (zJ v3)), (5, .long (zJ v5)), (7, .int (zI v7))] [] := by
  intro n
  induction n with
  | zero =>
    intro v5 v7 st hv5 hv7 i0 i1 i2 i3 i4 hm hp
    omega
  | succ n ih =>
    intro v5 v7 st hv5 hv7 i0 i1 i2 i3 i4 hm hp
    refine f_aload_n C 0 dX3_shareOf_6 rfl rfl ?_
    refine f_iload_n C 1 dX3_shareOf_7 rfl rfl ?_
    refine f_iload C 7 dX3_shareOf_8 rfl ?_
    refine f_calli C (c_X3_hasFlat hX v1 v7 ⟨by omega, by omega⟩ ⟨by omega, by omega⟩ st) (cwV 2 C.1.2.2.2.2 gX3_shareOf_X3_hasFlat rfl rfl rfl (by decide +kernel) ⟨Nat.le_of_ble_eq_true rfl, Nat.le_of_ble_eq_true rfl⟩) 1 rfl rfl rfl rfl rfl (Nat.le_of_ble_eq_true rfl) ⟨Nat.zero_le _, Nat.zero_le _⟩ dX3_shareOf_10 (fun z u hz28 hu => ?_)
    obtain ⟨qz28, hu, rz28⟩ := hu; replace hu := hu.symm; subst hu; subst qz28
    refine f_if_eq C 41 ⟨by omega, by omega⟩ dX3_shareOf_13 (by decide) (fun c29 => ?_) (fun c29 => ?_)
    · refine f_lload C 5 dX3_shareOf_41 rfl ?_
      refine f_lconst C (z := 0) dX3_shareOf_43 rfl ?_
      refine f_lc_if_gt C 52 ⟨by omega, by omega⟩ ⟨by decide, by decide⟩ dX3_shareOf_44 dX3_shareOf_45 (by decide) (fun c30 => ?_) (fun c30 => ?_)
      · refine f_lload_n C 3 dX3_shareOf_52 rfl rfl ?_
        refine f_lstore C (lv' := [(7, .long (zJ v3)), (0, .ref (a 1)), (1, .int (zI v1)), (2, .int (zI v2)), (3, .long (zJ v3)), (5, .long (zJ v5))]) dX3_shareOf_53 (Nat.le_of_ble_eq_true rfl) rfl ?_
        refine f_lconst C (z := 0) dX3_shareOf_55 rfl ?_
        refine f_lstore C (lv' := [(9, .long (zJ 0)), (7, .long (zJ v3)), (0, .ref (a 1)), (1, .int (zI v1)), (2, .int (zI v2)), (3, .long (zJ v3)), (5, .long (zJ v5))]) dX3_shareOf_56 (Nat.le_of_ble_eq_true rfl) rfl ?_
        refine f_iconst C dX3_shareOf_58 ?_
        refine f_istore C (lv' := [(11, .int (zI 0)), (9, .long (zJ 0)), (7, .long (zJ v3)), (0, .ref (a 1)), (1, .int (zI v1)), (2, .int (zI v2)), (3, .long (zJ v3)), (5, .long (zJ v5))]) dX3_shareOf_59 (Nat.le_of_ble_eq_true rfl) rfl ?_
        refine f_re (lv' := [(0, .ref (a 1)), (1, .int (zI v1)), (2, .int (zI v2)), (3, .long (zJ v3)), (5, .long (zJ v5)), (7, .long (zJ v3)), (9, .long (zJ 0)), (11, .int (zI 0))]) [3, 4, 5, 6, 7, 2, 1, 0] rfl ?_
        exact v_X3_shareOf_61 hX v1 v2 v3 v5 ⟨by omega, by omega⟩ ⟨by omega, by omega⟩ ⟨by omega, by omega⟩ ⟨by omega, by omega⟩ C hret hlk (Int.toNat (6 - (0 : Int)) + 1) v3 0 0 st ⟨by omega, by omega⟩ ⟨by omega, by omega⟩ ⟨by omega, by omega⟩ (show (-1000000) ≤ v1 ∧ v1 ≤ 1000000 by omega) (show (-1000000) ≤ v2 ∧ v2 ≤ 1000000 by omega) (show 0 ≤ v3 ∧ v3 ≤ 100000000000000 by omega) (show 0 < v5 ∧ v5 ≤ 6000 by omega) (show 0 ≤ (0 : Int) ∧ (0 : Int) ≤ 6 by omega) (show 0 ≤ (0 : Int) ∧ (0 : Int) ≤ (0 : Int) by omega) (show -100000000000000 - (0 : Int) * 100000000000000000 ≤ v3 ∧ v3 ≤ 100000000000000 + (0 : Int) * 100000000000000000 by omega) (show 6 - (0 : Int) < ((Int.toNat (6 - (0 : Int)) + 1 : Nat) : Int) by omega) (fun z e1 r1 => hp z (by rw [F_X3_shareOf_6, if_pos c29, if_pos c30]; exact e1) r1)
      refine f_ldc2 C (v := (-9223372036854775808)) (z := (-9223372036854775808)) (by decide +kernel) (by decide) dX3_shareOf_48 ?_
      exact f_lret C hret hlk dX3_shareOf_51 ⟨by decide, by decide⟩ (hp _ (by rw [F_X3_shareOf_6, if_pos c29, if_neg c30]) (by omega))
    refine f_iload C 7 dX3_shareOf_16 rfl ?_
    refine f_bipush C dX3_shareOf_18 (by decide) ?_
    refine f_icmp_ge C 41 ⟨by omega, by omega⟩ ⟨by decide, by decide⟩ dX3_shareOf_20 (by decide) (fun c31 => ?_) (fun c31 => ?_)
    · refine f_lload C 5 dX3_shareOf_41 rfl ?_
      refine f_lconst C (z := 0) dX3_shareOf_43 rfl ?_
      refine f_lc_if_gt C 52 ⟨by omega, by omega⟩ ⟨by decide, by decide⟩ dX3_shareOf_44 dX3_shareOf_45 (by decide) (fun c32 => ?_) (fun c32 => ?_)
      · refine f_lload_n C 3 dX3_shareOf_52 rfl rfl ?_
        refine f_lstore C (lv' := [(7, .long (zJ v3)), (0, .ref (a 1)), (1, .int (zI v1)), (2, .int (zI v2)), (3, .long (zJ v3)), (5, .long (zJ v5))]) dX3_shareOf_53 (Nat.le_of_ble_eq_true rfl) rfl ?_
        refine f_lconst C (z := 0) dX3_shareOf_55 rfl ?_
        refine f_lstore C (lv' := [(9, .long (zJ 0)), (7, .long (zJ v3)), (0, .ref (a 1)), (1, .int (zI v1)), (2, .int (zI v2)), (3, .long (zJ v3)), (5, .long (zJ v5))]) dX3_shareOf_56 (Nat.le_of_ble_eq_true rfl) rfl ?_
        refine f_iconst C dX3_shareOf_58 ?_
        refine f_istore C (lv' := [(11, .int (zI 0)), (9, .long (zJ 0)), (7, .long (zJ v3)), (0, .ref (a 1)), (1, .int (zI v1)), (2, .int (zI v2)), (3, .long (zJ v3)), (5, .long (zJ v5))]) dX3_shareOf_59 (Nat.le_of_ble_eq_true rfl) rfl ?_
        refine f_re (lv' := [(0, .ref (a 1)), (1, .int (zI v1)), (2, .int (zI v2)), (3, .long (zJ v3)), (5, .long (zJ v5)), (7, .long (zJ v3)), (9, .long (zJ 0)), (11, .int (zI 0))]) [3, 4, 5, 6, 7, 2, 1, 0] rfl ?_
        exact v_X3_shareOf_61 hX v1 v2 v3 v5 ⟨by omega, by omega⟩ ⟨by omega, by omega⟩ ⟨by omega, by omega⟩ ⟨by omega, by omega⟩ C hret hlk (Int.toNat (6 - (0 : Int)) + 1) v3 0 0 st ⟨by omega, by omega⟩ ⟨by omega, by omega⟩ ⟨by omega, by omega⟩ (show (-1000000) ≤ v1 ∧ v1 ≤ 1000000 by omega) (show (-1000000) ≤ v2 ∧ v2 ≤ 1000000 by omega) (show 0 ≤ v3 ∧ v3 ≤ 100000000000000 by omega) (show 0 < v5 ∧ v5 ≤ 6000 by omega) (show 0 ≤ (0 : Int) ∧ (0 : Int) ≤ 6 by omega) (show 0 ≤ (0 : Int) ∧ (0 : Int) ≤ (0 : Int) by omega) (show -100000000000000 - (0 : Int) * 100000000000000000 ≤ v3 ∧ v3 ≤ 100000000000000 + (0 : Int) * 100000000000000000 by omega) (show 6 - (0 : Int) < ((Int.toNat (6 - (0 : Int)) + 1 : Nat) : Int) by omega) (fun z e1 r1 => hp z (by rw [F_X3_shareOf_6, if_neg c29, if_pos c31, if_pos c32]; exact e1) r1)
      refine f_ldc2 C (v := (-9223372036854775808)) (z := (-9223372036854775808)) (by decide +kernel) (by decide) dX3_shareOf_48 ?_
      exact f_lret C hret hlk dX3_shareOf_51 ⟨by decide, by decide⟩ (hp _ (by rw [F_X3_shareOf_6, if_neg c29, if_pos c31, if_neg c32]) (by omega))
    refine f_lload C 5 dX3_shareOf_23 rfl ?_
    refine f_aload_n C 0 dX3_shareOf_25 rfl rfl ?_
    refine f_iload_n C 1 dX3_shareOf_26 rfl rfl ?_
    refine f_iload C 7 dX3_shareOf_27 rfl ?_
    refine f_calll C (c_X3_weightOf hX v1 v7 ⟨by omega, by omega⟩ ⟨by omega, by omega⟩ st (show (-1000000) ≤ v1 ∧ v1 ≤ 1000000 by omega) (show (-1000000) ≤ v7 ∧ v7 ≤ 1000000 by omega)) (cwV 2 C.1.2.2.2.2 gX3_shareOf_X3_weightOf rfl rfl rfl (by decide +kernel) ⟨Nat.le_of_ble_eq_true rfl, Nat.le_of_ble_eq_true rfl⟩) 1 rfl rfl rfl rfl rfl (Nat.le_of_ble_eq_true rfl) ⟨Nat.zero_le _, Nat.zero_le _⟩ dX3_shareOf_29 (fun z u hz33 hu => ?_)
    obtain ⟨qz33, hu, rz33⟩ := hu; replace hu := hu.symm; subst hu; subst qz33
    refine f_ladd C dX3_shareOf_32 ?_
    refine f_lstore C (lv' := [(5, .long (zJ (v5 + (F_X3_weightOf v1 v7 st)))), (0, .ref (a 1)), (1, .int (zI v1)), (2, .int (zI v2)), (3, .long (zJ v3)), (7, .int (zI v7))]) dX3_shareOf_33 (Nat.le_of_ble_eq_true rfl) rfl ?_
    refine f_iinc C (lv' := [(7, .int (zI (v7 + 1))), (5, .long (zJ (v5 + (F_X3_weightOf v1 v7 st)))), (0, .ref (a 1)), (1, .int (zI v1)), (2, .int (zI v2)), (3, .long (zJ v3))]) 5 dX3_shareOf_35 rfl (Nat.le_of_ble_eq_true rfl) rfl ?_
    refine f_goto C 6 dX3_shareOf_38 (by decide) ?_
    refine f_re (lv' := [(0, .ref (a 1)), (1, .int (zI v1)), (2, .int (zI v2)), (3, .long (zJ v3)), (5, .long (zJ (v5 + (F_X3_weightOf v1 v7 st)))), (7, .int (zI (v7 + 1)))]) [2, 3, 4, 5, 1, 0] rfl ?_
    exact ih (v5 + (F_X3_weightOf v1 v7 st)) (v7 + 1) st ⟨by omega, by omega⟩ ⟨by omega, by omega⟩ (show (-1000000) ≤ v1 ∧ v1 ≤ 1000000 by omega) (show (-1000000) ≤ v2 ∧ v2 ≤ 1000000 by omega) (show 0 ≤ v3 ∧ v3 ≤ 100000000000000 by omega) (show 0 ≤ (v7 + 1) ∧ (v7 + 1) ≤ 6 by omega) (show 0 ≤ (v5 + (F_X3_weightOf v1 v7 st)) ∧ (v5 + (F_X3_weightOf v1 v7 st)) ≤ 1000 * (v7 + 1) by omega) (show 6 - (v7 + 1) < ((n : Nat) : Int) by omega) (fun z e1 r1 => hp z (by rw [F_X3_shareOf_6, if_neg c29, if_neg c31]; exact e1) r1)
set_option maxRecDepth 100000 in
set_option maxHeartbeats 8000000 in
theorem c_X3_shareOf {l : Launch} {D : va_G} {cI cJ cZ cB : ClassId} {a : Nat → Nat} {E : State → Prop} (hX : xHyp a E) (p1 : Int) (p2 : Int) (p3 : Int) (h1 : in32 p1) (h2 : in32 p2) (h3 : in64 p3) (st : fS) (q1 : (-1000000) ≤ p1 ∧ p1 ≤ 1000000) (q2 : (-1000000) ≤ p2 ∧ p2 ≤ 1000000) (q3 : 0 ≤ p3 ∧ p3 ≤ 100000000000000) : xMl l D cI cJ cZ cB a E yX3_shareOf wsX3_shareOf rm_X3_shareOf [.ref (a 1), .int (zI p1), .int (zI p2), .long (zJ p3)] st (fun z u => z = F_X3_shareOf p1 p2 p3 st ∧ u = st ∧ (z = -9223372036854775808 ∨ (-1000000000000000000 ≤ z ∧ z ≤ 1000000000000000000))) := by
  refine fB_open (cc := cX3_shareOf) (maxL := 15) (ret := (some .long)) (by decide) rfl (Nat.le_of_ble_eq_true rfl) hX.2 ?_
  intro p e s m below meth c C hret hlk
  have hp : ∀ z : Int, z = F_X3_shareOf p1 p2 p3 st → (z = -9223372036854775808 ∨ (-1000000000000000000 ≤ z ∧ z ≤ 1000000000000000000)) → z = F_X3_shareOf p1 p2 p3 st ∧ st = st ∧ (z = -9223372036854775808 ∨ (-1000000000000000000 ≤ z ∧ z ≤ 1000000000000000000)) := fun z h r1 => ⟨h, rfl, r1⟩
  refine f_lconst C (z := 0) dX3_shareOf_0 rfl ?_
  refine f_lstore C (lv' := [(5, .long (zJ 0)), (0, .ref (a 1)), (1, .int (zI p1)), (2, .int (zI p2)), (3, .long (zJ p3))]) dX3_shareOf_1 (Nat.le_of_ble_eq_true rfl) rfl ?_
  refine f_iconst C dX3_shareOf_3 ?_
  refine f_istore C (lv' := [(7, .int (zI 0)), (5, .long (zJ 0)), (0, .ref (a 1)), (1, .int (zI p1)), (2, .int (zI p2)), (3, .long (zJ p3))]) dX3_shareOf_4 (Nat.le_of_ble_eq_true rfl) rfl ?_
  refine f_re (lv' := [(0, .ref (a 1)), (1, .int (zI p1)), (2, .int (zI p2)), (3, .long (zJ p3)), (5, .long (zJ 0)), (7, .int (zI 0))]) [2, 3, 4, 5, 1, 0] rfl ?_
  exact v_X3_shareOf_6 hX p1 p2 p3 ⟨by omega, by omega⟩ ⟨by omega, by omega⟩ ⟨by omega, by omega⟩ C hret hlk (Int.toNat (6 - (0 : Int)) + 1) 0 0 st ⟨by omega, by omega⟩ ⟨by omega, by omega⟩ (show (-1000000) ≤ p1 ∧ p1 ≤ 1000000 by omega) (show (-1000000) ≤ p2 ∧ p2 ≤ 1000000 by omega) (show 0 ≤ p3 ∧ p3 ≤ 100000000000000 by omega) (show 0 ≤ (0 : Int) ∧ (0 : Int) ≤ 6 by omega) (show 0 ≤ (0 : Int) ∧ (0 : Int) ≤ 1000 * (0 : Int) by omega) (show 6 - (0 : Int) < ((Int.toNat (6 - (0 : Int)) + 1 : Nat) : Int) by omega) (fun z e1 r1 => hp z (by rw [F_X3_shareOf]; exact e1) r1)

def F_X1_add (p1 : Int) (p2 : Int) (p3 : Int) (p5 : Int) (p7 : Int) (st : fS) : Int × fS := if (st.1 1) < 24 then (st.1 1, sN (rset (rset (rset (rset (rset st 3 (st.1 1) p1) 4 (st.1 1) p2) 5 (st.1 1) p3) 6 (st.1 1) p5) 7 (st.1 1) p7) 1 ((st.1 1) + 1)) else ((-1), st)
abbrev rm_X1_add : Room := { frames := 1, cells := 0, slots := 0, locals := 23 }
set_option maxRecDepth 100000 in
set_option maxHeartbeats 8000000 in
theorem c_X1_add {l : Launch} {D : va_G} {cI cJ cZ cB : ClassId} {a : Nat → Nat} {E : State → Prop} (hX : xHyp a E) (p1 : Int) (p2 : Int) (p3 : Int) (p5 : Int) (p7 : Int) (h1 : in32 p1) (h2 : in32 p2) (h3 : in64 p3) (h5 : in64 p5) (h7 : in64 p7) (st : fS) (q1 : 0 ≤ p1 ∧ p1 ≤ 3) (q2 : 0 ≤ p2 ∧ p2 ≤ 5) (q3 : 0 ≤ p3 ∧ p3 ≤ 3599) (q5 : 0 ≤ p5 ∧ p5 ≤ 1000000) (q7 : 0 ≤ p7 ∧ p7 ≤ 3599) : xMi l D cI cJ cZ cB a E yX1_add wsX1_add rm_X1_add [.ref (a 2), .int (zI p1), .int (zI p2), .long (zJ p3), .long (zJ p5), .long (zJ p7)] st (fun z u => z = (F_X1_add p1 p2 p3 p5 p7 st).1 ∧ u = (F_X1_add p1 p2 p3 p5 p7 st).2) := by
  refine fB_open (cc := cX1_add) (maxL := 10) (ret := (some .int)) (by decide) rfl (Nat.le_of_ble_eq_true rfl) hX.2 ?_
  intro p e s m below meth c C hret hlk
  have hin1 : ∀ w ∈ u_ws RX1 TX1 6, w ∈ wsX1_add := by decide +kernel
  have hp : ∀ (z : Int) (u : fS), z = (F_X1_add p1 p2 p3 p5 p7 st).1 → u = (F_X1_add p1 p2 p3 p5 p7 st).2 → z = (F_X1_add p1 p2 p3 p5 p7 st).1 ∧ u = (F_X1_add p1 p2 p3 p5 p7 st).2 := fun z u h1 h2 => ⟨h1, h2⟩
  refine f_aload_n C 0 dX1_add_0 rfl rfl ?_
  refine f_ok (fun hO1 => ?_)
  have k2 : 0 ≤ st.1 1 ∧ st.1 1 ≤ 24 := hO1.1 1
  refine f_get C (v := .int (zI (st.1 1))) hin1 2 5 rfl rfl (Nat.le_of_ble_eq_true rfl) (by decide +kernel) rfl rfl dX1_add_1 ?_
  refine f_bipush C dX1_add_4 (by decide) ?_
  refine f_icmp_lt C 11 ⟨by omega, by omega⟩ ⟨by decide, by decide⟩ dX1_add_6 (by decide) (fun c3 => ?_) (fun c3 => ?_)
  · refine f_aload_n C 0 dX1_add_11 rfl rfl ?_
    refine f_get C (v := .int (zI (st.1 1))) hin1 2 5 rfl rfl (Nat.le_of_ble_eq_true rfl) (by decide +kernel) rfl rfl dX1_add_12 ?_
    refine f_istore C (lv' := [(9, .int (zI (st.1 1))), (0, .ref (a 2)), (1, .int (zI p1)), (2, .int (zI p2)), (3, .long (zJ p3)), (5, .long (zJ p5)), (7, .long (zJ p7))]) dX1_add_15 (Nat.le_of_ble_eq_true rfl) rfl ?_
    refine f_aload_n C 0 dX1_add_17 rfl rfl ?_
    refine f_get C hin1 2 0 rfl rfl (Nat.le_of_ble_eq_true rfl) (by decide +kernel) rfl rfl dX1_add_18 ?_
    refine f_iload C 9 dX1_add_21 rfl ?_
    refine f_iload_n C 1 dX1_add_23 rfl rfl ?_
    refine f_i2l C ⟨by omega, by omega⟩ dX1_add_24 ?_
    refine f_callv C (c_Row_set hX 3 (Nat.le_of_ble_eq_true rfl) (st.1 1) p1 ⟨by omega, by omega⟩ (show 0 ≤ p1 ∧ p1 ≤ 3 by omega) st) (cwV 2 C.1.2.2.2.2 gX1_add_X5_set rfl rfl rfl (by decide +kernel) ⟨Nat.le_of_ble_eq_true rfl, Nat.le_of_ble_eq_true rfl⟩) 11 (wX_row cJ a st (r := 3) (Nat.le_of_ble_eq_true rfl)) rfl rfl rfl rfl (Nat.le_of_ble_eq_true rfl) ⟨Nat.zero_le _, Nat.zero_le _⟩ dX1_add_25 (fun u hu => ?_)
    replace hu := hu.symm; subst hu
    refine f_aload_n C 0 dX1_add_28 rfl rfl ?_
    refine f_get C hin1 2 1 rfl rfl (Nat.le_of_ble_eq_true rfl) (by decide +kernel) rfl rfl dX1_add_29 ?_
    refine f_iload C 9 dX1_add_32 rfl ?_
    refine f_iload_n C 2 dX1_add_34 rfl rfl ?_
    refine f_i2l C ⟨by omega, by omega⟩ dX1_add_35 ?_
    refine f_callv C (c_Row_set hX 4 (Nat.le_of_ble_eq_true rfl) (st.1 1) p2 ⟨by omega, by omega⟩ (show 0 ≤ p2 ∧ p2 ≤ 5 by omega) (rset st 3 (st.1 1) p1)) (cwV 2 C.1.2.2.2.2 gX1_add_X5_set rfl rfl rfl (by decide +kernel) ⟨Nat.le_of_ble_eq_true rfl, Nat.le_of_ble_eq_true rfl⟩) 12 (wX_row cJ a (rset st 3 (st.1 1) p1) (r := 4) (Nat.le_of_ble_eq_true rfl)) rfl rfl rfl rfl (Nat.le_of_ble_eq_true rfl) ⟨Nat.zero_le _, Nat.zero_le _⟩ dX1_add_36 (fun u hu => ?_)
    replace hu := hu.symm; subst hu
    refine f_aload_n C 0 dX1_add_39 rfl rfl ?_
    refine f_get C hin1 2 2 rfl rfl (Nat.le_of_ble_eq_true rfl) (by decide +kernel) rfl rfl dX1_add_40 ?_
    refine f_iload C 9 dX1_add_43 rfl ?_
    refine f_lload_n C 3 dX1_add_45 rfl rfl ?_
    refine f_callv C (c_Row_set hX 5 (Nat.le_of_ble_eq_true rfl) (st.1 1) p3 ⟨by omega, by omega⟩ (show 0 ≤ p3 ∧ p3 ≤ 3599 by omega) (rset (rset st 3 (st.1 1) p1) 4 (st.1 1) p2)) (cwV 2 C.1.2.2.2.2 gX1_add_X5_set rfl rfl rfl (by decide +kernel) ⟨Nat.le_of_ble_eq_true rfl, Nat.le_of_ble_eq_true rfl⟩) 13 (wX_row cJ a (rset (rset st 3 (st.1 1) p1) 4 (st.1 1) p2) (r := 5) (Nat.le_of_ble_eq_true rfl)) rfl rfl rfl rfl (Nat.le_of_ble_eq_true rfl) ⟨Nat.zero_le _, Nat.zero_le _⟩ dX1_add_46 (fun u hu => ?_)
    replace hu := hu.symm; subst hu
    refine f_aload_n C 0 dX1_add_49 rfl rfl ?_
    refine f_get C hin1 2 3 rfl rfl (Nat.le_of_ble_eq_true rfl) (by decide +kernel) rfl rfl dX1_add_50 ?_
    refine f_iload C 9 dX1_add_53 rfl ?_
    refine f_lload C 5 dX1_add_55 rfl ?_
    refine f_callv C (c_Row_set hX 6 (Nat.le_of_ble_eq_true rfl) (st.1 1) p5 ⟨by omega, by omega⟩ (show 0 ≤ p5 ∧ p5 ≤ 1000000 by omega) (rset (rset (rset st 3 (st.1 1) p1) 4 (st.1 1) p2) 5 (st.1 1) p3)) (cwV 2 C.1.2.2.2.2 gX1_add_X5_set rfl rfl rfl (by decide +kernel) ⟨Nat.le_of_ble_eq_true rfl, Nat.le_of_ble_eq_true rfl⟩) 14 (wX_row cJ a (rset (rset (rset st 3 (st.1 1) p1) 4 (st.1 1) p2) 5 (st.1 1) p3) (r := 6) (Nat.le_of_ble_eq_true rfl)) rfl rfl rfl rfl (Nat.le_of_ble_eq_true rfl) ⟨Nat.zero_le _, Nat.zero_le _⟩ dX1_add_57 (fun u hu => ?_)
    replace hu := hu.symm; subst hu
    refine f_aload_n C 0 dX1_add_60 rfl rfl ?_
    refine f_get C hin1 2 4 rfl rfl (Nat.le_of_ble_eq_true rfl) (by decide +kernel) rfl rfl dX1_add_61 ?_
    refine f_iload C 9 dX1_add_64 rfl ?_
    refine f_lload C 7 dX1_add_66 rfl ?_
    refine f_callv C (c_Row_set hX 7 (Nat.le_of_ble_eq_true rfl) (st.1 1) p7 ⟨by omega, by omega⟩ (show 0 ≤ p7 ∧ p7 ≤ 3599 by omega) (rset (rset (rset (rset st 3 (st.1 1) p1) 4 (st.1 1) p2) 5 (st.1 1) p3) 6 (st.1 1) p5)) (cwV 2 C.1.2.2.2.2 gX1_add_X5_set rfl rfl rfl (by decide +kernel) ⟨Nat.le_of_ble_eq_true rfl, Nat.le_of_ble_eq_true rfl⟩) 15 (wX_row cJ a (rset (rset (rset (rset st 3 (st.1 1) p1) 4 (st.1 1) p2) 5 (st.1 1) p3) 6 (st.1 1) p5) (r := 7) (Nat.le_of_ble_eq_true rfl)) rfl rfl rfl rfl (Nat.le_of_ble_eq_true rfl) ⟨Nat.zero_le _, Nat.zero_le _⟩ dX1_add_68 (fun u hu => ?_)
    replace hu := hu.symm; subst hu
    refine f_aload_n C 0 dX1_add_71 rfl rfl ?_
    refine f_dup C dX1_add_72 rfl ?_
    refine f_ok (fun hO4 => ?_)
    have k5 : 0 ≤ st.1 1 ∧ st.1 1 ≤ 24 := hO4.1 1
    refine f_get C (v := .int (zI (st.1 1))) hin1 2 5 rfl rfl (Nat.le_of_ble_eq_true rfl) (by decide +kernel) rfl rfl dX1_add_73 ?_
    refine f_iconst C dX1_add_76 ?_
    refine f_iadd C dX1_add_77 ?_
    refine f_put C (xD hX.1 cJ) hin1 tyX1 tyX1_ok nmX1 2 5 rfl rfl (Nat.le_of_ble_eq_true rfl) (by decide +kernel) rfl rfl (ty := .int) (by decide +kernel) rfl rfl (Nat.le_of_ble_eq_true rfl) (u := sN (rset (rset (rset (rset (rset st 3 (st.1 1) p1) 4 (st.1 1) p2) 5 (st.1 1) p3) 6 (st.1 1) p5) 7 (st.1 1) p7) 1 ((st.1 1) + 1)) rfl (fun h => fOk_N h (show 0 ≤ ((st.1 1) + 1) ∧ ((st.1 1) + 1) ≤ 24 by omega)) dX1_add_78 ?_
    refine f_iload C 9 dX1_add_81 rfl ?_
    exact f_iret C hret hlk dX1_add_83 ⟨by omega, by omega⟩ (hp _ _ (by rw [F_X1_add, if_pos c3]) (by rw [F_X1_add, if_pos c3]))
  refine f_iconst C dX1_add_9 ?_
  exact f_iret C hret hlk dX1_add_10 ⟨by decide, by decide⟩ (hp _ _ (by rw [F_X1_add, if_neg c3]) (by rw [F_X1_add, if_neg c3]))

def F_X1_isOf (p1 : Int) (p2 : Int) (p3 : Int) (p4 : Int) (st : fS) : Int := if (rget 24 (st.2 3) p1) = p2 then (if ((rget 24 (st.2 5) p1) / 30) = p3 then (if p4 < (rget 24 (st.2 7) p1) then 0 else 1) else 0) else 0
abbrev rm_X1_isOf : Room := { frames := 1, cells := 0, slots := 0, locals := 21 }
set_option maxRecDepth 100000 in
set_option maxHeartbeats 8000000 in
theorem c_X1_isOf {l : Launch} {D : va_G} {cI cJ cZ cB : ClassId} {a : Nat → Nat} {E : State → Prop} (hX : xHyp a E) (p1 : Int) (p2 : Int) (p3 : Int) (p4 : Int) (h1 : in32 p1) (h2 : in32 p2) (h3 : in32 p3) (h4 : in64 p4) (st : fS)  : xMi l D cI cJ cZ cB a E yX1_isOf wsX1_isOf rm_X1_isOf [.ref (a 2), .int (zI p1), .int (zI p2), .int (zI p3), .long (zJ p4)] st (fun z u => z = F_X1_isOf p1 p2 p3 p4 st ∧ u = st ∧ (z = 0 ∨ z = 1)) := by
  refine fB_open (cc := cX1_isOf) (maxL := 6) (ret := (some .boolean)) (by decide) rfl (Nat.le_of_ble_eq_true rfl) hX.2 ?_
  intro p e s m below meth c C hret hlk
  have hin1 : ∀ w ∈ u_ws RX1 TX1 6, w ∈ wsX1_isOf := by decide +kernel
  have hp : ∀ z : Int, z = F_X1_isOf p1 p2 p3 p4 st → (z = 0 ∨ z = 1) → z = F_X1_isOf p1 p2 p3 p4 st ∧ st = st ∧ (z = 0 ∨ z = 1) := fun z h r1 => ⟨h, rfl, r1⟩
  refine f_aload_n C 0 dX1_isOf_0 rfl rfl ?_
  refine f_get C hin1 2 0 rfl rfl (Nat.le_of_ble_eq_true rfl) (by decide +kernel) rfl rfl dX1_isOf_1 ?_
  refine f_iload_n C 1 dX1_isOf_4 rfl rfl ?_
  refine f_ok (fun hO1 => ?_)
  refine f_calll C (c_Row_get hX 3 (Nat.le_of_ble_eq_true rfl) p1 ⟨by omega, by omega⟩ st) (cwV 1 C.1.2.2.2.2 gX1_isOf_X5_get rfl rfl rfl (by decide +kernel) ⟨Nat.le_of_ble_eq_true rfl, Nat.le_of_ble_eq_true rfl⟩) 11 (wX_row cJ a st (r := 3) (Nat.le_of_ble_eq_true rfl)) rfl rfl rfl rfl (Nat.le_of_ble_eq_true rfl) ⟨Nat.zero_le _, Nat.zero_le _⟩ dX1_isOf_5 (fun z u hz2 hu => ?_)
  obtain ⟨qz2, hu⟩ : z = rget 24 (st.2 3) p1 ∧ u = st := hu
  replace hu := hu.symm; subst hu; subst qz2
  have k3 : 0 ≤ rget 24 (st.2 3) p1 ∧ rget 24 (st.2 3) p1 ≤ 3 := xget_ok hO1 3 24 p1
  refine f_iload_n C 2 dX1_isOf_8 rfl rfl ?_
  refine f_i2l C ⟨by omega, by omega⟩ dX1_isOf_9 ?_
  refine f_lc_if_ne C 50 ⟨by omega, by omega⟩ ⟨by omega, by omega⟩ dX1_isOf_10 dX1_isOf_11 (by decide) (fun c4 => ?_) (fun c4 => ?_)
  · refine f_iconst C dX1_isOf_50 ?_
    exact f_zret C hret hlk dX1_isOf_51 (by decide) (hp _ (by rw [F_X1_isOf, if_neg c4]) (by omega))
  refine f_aload_n C 0 dX1_isOf_14 rfl rfl ?_
  refine f_get C hin1 2 2 rfl rfl (Nat.le_of_ble_eq_true rfl) (by decide +kernel) rfl rfl dX1_isOf_15 ?_
  refine f_iload_n C 1 dX1_isOf_18 rfl rfl ?_
  refine f_calll C (c_Row_get hX 5 (Nat.le_of_ble_eq_true rfl) p1 ⟨by omega, by omega⟩ st) (cwV 1 C.1.2.2.2.2 gX1_isOf_X5_get rfl rfl rfl (by decide +kernel) ⟨Nat.le_of_ble_eq_true rfl, Nat.le_of_ble_eq_true rfl⟩) 13 (wX_row cJ a st (r := 5) (Nat.le_of_ble_eq_true rfl)) rfl rfl rfl rfl (Nat.le_of_ble_eq_true rfl) ⟨Nat.zero_le _, Nat.zero_le _⟩ dX1_isOf_19 (fun z u hz5 hu => ?_)
  obtain ⟨qz5, hu⟩ : z = rget 24 (st.2 5) p1 ∧ u = st := hu
  replace hu := hu.symm; subst hu; subst qz5
  have k6 : 0 ≤ rget 24 (st.2 5) p1 ∧ rget 24 (st.2 5) p1 ≤ 3599 := xget_ok hO1 5 24 p1
  refine f_ldc2 C (v := 30) (z := 30) (by decide +kernel) (by decide) dX1_isOf_22 ?_
  refine f_ldiv C ⟨by omega, by omega⟩ ⟨by omega, by omega⟩ dX1_isOf_25 ?_
  refine f_iload_n C 3 dX1_isOf_26 rfl rfl ?_
  refine f_i2l C ⟨by omega, by omega⟩ dX1_isOf_27 ?_
  refine f_lc_if_ne C 50 ⟨by omega, by omega⟩ ⟨by omega, by omega⟩ dX1_isOf_28 dX1_isOf_29 (by decide) (fun c7 => ?_) (fun c7 => ?_)
  · refine f_iconst C dX1_isOf_50 ?_
    exact f_zret C hret hlk dX1_isOf_51 (by decide) (hp _ (by rw [F_X1_isOf, if_pos c4, if_neg c7]) (by omega))
  refine f_aload_n C 0 dX1_isOf_32 rfl rfl ?_
  refine f_get C hin1 2 4 rfl rfl (Nat.le_of_ble_eq_true rfl) (by decide +kernel) rfl rfl dX1_isOf_33 ?_
  refine f_iload_n C 1 dX1_isOf_36 rfl rfl ?_
  refine f_calll C (c_Row_get hX 7 (Nat.le_of_ble_eq_true rfl) p1 ⟨by omega, by omega⟩ st) (cwV 1 C.1.2.2.2.2 gX1_isOf_X5_get rfl rfl rfl (by decide +kernel) ⟨Nat.le_of_ble_eq_true rfl, Nat.le_of_ble_eq_true rfl⟩) 15 (wX_row cJ a st (r := 7) (Nat.le_of_ble_eq_true rfl)) rfl rfl rfl rfl (Nat.le_of_ble_eq_true rfl) ⟨Nat.zero_le _, Nat.zero_le _⟩ dX1_isOf_37 (fun z u hz8 hu => ?_)
  obtain ⟨qz8, hu⟩ : z = rget 24 (st.2 7) p1 ∧ u = st := hu
  replace hu := hu.symm; subst hu; subst qz8
  have k9 : 0 ≤ rget 24 (st.2 7) p1 ∧ rget 24 (st.2 7) p1 ≤ 3599 := xget_ok hO1 7 24 p1
  refine f_lload C 4 dX1_isOf_40 rfl ?_
  refine f_lc_if_gt C 50 ⟨by omega, by omega⟩ ⟨by omega, by omega⟩ dX1_isOf_42 dX1_isOf_43 (by decide) (fun c10 => ?_) (fun c10 => ?_)
  · refine f_iconst C dX1_isOf_50 ?_
    exact f_zret C hret hlk dX1_isOf_51 (by decide) (hp _ (by rw [F_X1_isOf, if_pos c4, if_pos c7, if_pos c10]) (by omega))
  refine f_iconst C dX1_isOf_46 ?_
  refine f_goto C 51 dX1_isOf_47 (by decide) ?_
  exact f_zret C hret hlk dX1_isOf_51 (by decide) (hp _ (by rw [F_X1_isOf, if_pos c4, if_pos c7, if_neg c10]) (by omega))

def F_X4_add (p1 : Int) (p2 : Int) (p3 : Int) (p5 : Int) (st : fS) : Int × fS := if (st.1 8) < 8 then (1, sN (rset (rset (rset (rset st 19 (st.1 8) p1) 20 (st.1 8) p2) 21 (st.1 8) p3) 22 (st.1 8) p5) 8 ((st.1 8) + 1)) else (0, st)
abbrev rm_X4_add : Room := { frames := 1, cells := 0, slots := 0, locals := 23 }
set_option maxRecDepth 100000 in
set_option maxHeartbeats 8000000 in
theorem c_X4_add {l : Launch} {D : va_G} {cI cJ cZ cB : ClassId} {a : Nat → Nat} {E : State → Prop} (hX : xHyp a E) (p1 : Int) (p2 : Int) (p3 : Int) (p5 : Int) (h1 : in32 p1) (h2 : in32 p2) (h3 : in64 p3) (h5 : in64 p5) (st : fS) (q1 : 0 ≤ p1 ∧ p1 ≤ 3) (q2 : 0 ≤ p2 ∧ p2 ≤ 5) (q3 : 0 ≤ p3 ∧ p3 ≤ 3599) (q5 : 0 ≤ p5 ∧ p5 ≤ 3599) : xMi l D cI cJ cZ cB a E yX4_add wsX4_add rm_X4_add [.ref (a 6), .int (zI p1), .int (zI p2), .long (zJ p3), .long (zJ p5)] st (fun z u => z = (F_X4_add p1 p2 p3 p5 st).1 ∧ u = (F_X4_add p1 p2 p3 p5 st).2 ∧ (z = 0 ∨ z = 1)) := by
  refine fB_open (cc := cX4_add) (maxL := 7) (ret := (some .boolean)) (by decide) rfl (Nat.le_of_ble_eq_true rfl) hX.2 ?_
  intro p e s m below meth c C hret hlk
  have hin4 : ∀ w ∈ u_ws RX4 TX4 5, w ∈ wsX4_add := by decide +kernel
  have hp : ∀ (z : Int) (u : fS), z = (F_X4_add p1 p2 p3 p5 st).1 → u = (F_X4_add p1 p2 p3 p5 st).2 → (z = 0 ∨ z = 1) → z = (F_X4_add p1 p2 p3 p5 st).1 ∧ u = (F_X4_add p1 p2 p3 p5 st).2 ∧ (z = 0 ∨ z = 1) := fun z u h1 h2 r1 => ⟨h1, h2, r1⟩
  refine f_aload_n C 0 dX4_add_0 rfl rfl ?_
  refine f_ok (fun hO1 => ?_)
  have k2 : 0 ≤ st.1 8 ∧ st.1 8 ≤ 8 := hO1.1 8
  refine f_get C (v := .int (zI (st.1 8))) hin4 6 4 rfl rfl (Nat.le_of_ble_eq_true rfl) (by decide +kernel) rfl rfl dX4_add_1 ?_
  refine f_bipush C dX4_add_4 (by decide) ?_
  refine f_icmp_lt C 11 ⟨by omega, by omega⟩ ⟨by decide, by decide⟩ dX4_add_6 (by decide) (fun c3 => ?_) (fun c3 => ?_)
  · refine f_aload_n C 0 dX4_add_11 rfl rfl ?_
    refine f_get C hin4 6 0 rfl rfl (Nat.le_of_ble_eq_true rfl) (by decide +kernel) rfl rfl dX4_add_12 ?_
    refine f_aload_n C 0 dX4_add_15 rfl rfl ?_
    refine f_get C (v := .int (zI (st.1 8))) hin4 6 4 rfl rfl (Nat.le_of_ble_eq_true rfl) (by decide +kernel) rfl rfl dX4_add_16 ?_
    refine f_iload_n C 1 dX4_add_19 rfl rfl ?_
    refine f_i2l C ⟨by omega, by omega⟩ dX4_add_20 ?_
    refine f_callv C (c_Row_set hX 19 (Nat.le_of_ble_eq_true rfl) (st.1 8) p1 ⟨by omega, by omega⟩ (show 0 ≤ p1 ∧ p1 ≤ 3 by omega) st) (cwV 2 C.1.2.2.2.2 gX4_add_X5_set rfl rfl rfl (by decide +kernel) ⟨Nat.le_of_ble_eq_true rfl, Nat.le_of_ble_eq_true rfl⟩) 27 (wX_row cJ a st (r := 19) (Nat.le_of_ble_eq_true rfl)) rfl rfl rfl rfl (Nat.le_of_ble_eq_true rfl) ⟨Nat.zero_le _, Nat.zero_le _⟩ dX4_add_21 (fun u hu => ?_)
    replace hu := hu.symm; subst hu
    refine f_aload_n C 0 dX4_add_24 rfl rfl ?_
    refine f_get C hin4 6 1 rfl rfl (Nat.le_of_ble_eq_true rfl) (by decide +kernel) rfl rfl dX4_add_25 ?_
    refine f_aload_n C 0 dX4_add_28 rfl rfl ?_
    refine f_ok (fun hO4 => ?_)
    have k5 : 0 ≤ st.1 8 ∧ st.1 8 ≤ 8 := hO4.1 8
    refine f_get C (v := .int (zI (st.1 8))) hin4 6 4 rfl rfl (Nat.le_of_ble_eq_true rfl) (by decide +kernel) rfl rfl dX4_add_29 ?_
    refine f_iload_n C 2 dX4_add_32 rfl rfl ?_
    refine f_i2l C ⟨by omega, by omega⟩ dX4_add_33 ?_
    refine f_callv C (c_Row_set hX 20 (Nat.le_of_ble_eq_true rfl) (st.1 8) p2 ⟨by omega, by omega⟩ (show 0 ≤ p2 ∧ p2 ≤ 5 by omega) (rset st 19 (st.1 8) p1)) (cwV 2 C.1.2.2.2.2 gX4_add_X5_set rfl rfl rfl (by decide +kernel) ⟨Nat.le_of_ble_eq_true rfl, Nat.le_of_ble_eq_true rfl⟩) 28 (wX_row cJ a (rset st 19 (st.1 8) p1) (r := 20) (Nat.le_of_ble_eq_true rfl)) rfl rfl rfl rfl (Nat.le_of_ble_eq_true rfl) ⟨Nat.zero_le _, Nat.zero_le _⟩ dX4_add_34 (fun u hu => ?_)
    replace hu := hu.symm; subst hu
    refine f_aload_n C 0 dX4_add_37 rfl rfl ?_
    refine f_get C hin4 6 2 rfl rfl (Nat.le_of_ble_eq_true rfl) (by decide +kernel) rfl rfl dX4_add_38 ?_
    refine f_aload_n C 0 dX4_add_41 rfl rfl ?_
    refine f_ok (fun hO6 => ?_)
    have k7 : 0 ≤ st.1 8 ∧ st.1 8 ≤ 8 := hO6.1 8
    refine f_get C (v := .int (zI (st.1 8))) hin4 6 4 rfl rfl (Nat.le_of_ble_eq_true rfl) (by decide +kernel) rfl rfl dX4_add_42 ?_
    refine f_lload_n C 3 dX4_add_45 rfl rfl ?_
    refine f_callv C (c_Row_set hX 21 (Nat.le_of_ble_eq_true rfl) (st.1 8) p3 ⟨by omega, by omega⟩ (show 0 ≤ p3 ∧ p3 ≤ 3599 by omega) (rset (rset st 19 (st.1 8) p1) 20 (st.1 8) p2)) (cwV 2 C.1.2.2.2.2 gX4_add_X5_set rfl rfl rfl (by decide +kernel) ⟨Nat.le_of_ble_eq_true rfl, Nat.le_of_ble_eq_true rfl⟩) 29 (wX_row cJ a (rset (rset st 19 (st.1 8) p1) 20 (st.1 8) p2) (r := 21) (Nat.le_of_ble_eq_true rfl)) rfl rfl rfl rfl (Nat.le_of_ble_eq_true rfl) ⟨Nat.zero_le _, Nat.zero_le _⟩ dX4_add_46 (fun u hu => ?_)
    replace hu := hu.symm; subst hu
    refine f_aload_n C 0 dX4_add_49 rfl rfl ?_
    refine f_get C hin4 6 3 rfl rfl (Nat.le_of_ble_eq_true rfl) (by decide +kernel) rfl rfl dX4_add_50 ?_
    refine f_aload_n C 0 dX4_add_53 rfl rfl ?_
    refine f_ok (fun hO8 => ?_)
    have k9 : 0 ≤ st.1 8 ∧ st.1 8 ≤ 8 := hO8.1 8
    refine f_get C (v := .int (zI (st.1 8))) hin4 6 4 rfl rfl (Nat.le_of_ble_eq_true rfl) (by decide +kernel) rfl rfl dX4_add_54 ?_
    refine f_lload C 5 dX4_add_57 rfl ?_
    refine f_callv C (c_Row_set hX 22 (Nat.le_of_ble_eq_true rfl) (st.1 8) p5 ⟨by omega, by omega⟩ (show 0 ≤ p5 ∧ p5 ≤ 3599 by omega) (rset (rset (rset st 19 (st.1 8) p1) 20 (st.1 8) p2) 21 (st.1 8) p3)) (cwV 2 C.1.2.2.2.2 gX4_add_X5_set rfl rfl rfl (by decide +kernel) ⟨Nat.le_of_ble_eq_true rfl, Nat.le_of_ble_eq_true rfl⟩) 30 (wX_row cJ a (rset (rset (rset st 19 (st.1 8) p1) 20 (st.1 8) p2) 21 (st.1 8) p3) (r := 22) (Nat.le_of_ble_eq_true rfl)) rfl rfl rfl rfl (Nat.le_of_ble_eq_true rfl) ⟨Nat.zero_le _, Nat.zero_le _⟩ dX4_add_59 (fun u hu => ?_)
    replace hu := hu.symm; subst hu
    refine f_aload_n C 0 dX4_add_62 rfl rfl ?_
    refine f_dup C dX4_add_63 rfl ?_
    refine f_ok (fun hO10 => ?_)
    have k11 : 0 ≤ st.1 8 ∧ st.1 8 ≤ 8 := hO10.1 8
    refine f_get C (v := .int (zI (st.1 8))) hin4 6 4 rfl rfl (Nat.le_of_ble_eq_true rfl) (by decide +kernel) rfl rfl dX4_add_64 ?_
    refine f_iconst C dX4_add_67 ?_
    refine f_iadd C dX4_add_68 ?_
    refine f_put C (xD hX.1 cJ) hin4 tyX4 tyX4_ok nmX4 6 4 rfl rfl (Nat.le_of_ble_eq_true rfl) (by decide +kernel) rfl rfl (ty := .int) (by decide +kernel) rfl rfl (Nat.le_of_ble_eq_true rfl) (u := sN (rset (rset (rset (rset st 19 (st.1 8) p1) 20 (st.1 8) p2) 21 (st.1 8) p3) 22 (st.1 8) p5) 8 ((st.1 8) + 1)) rfl (fun h => fOk_N h (show 0 ≤ ((st.1 8) + 1) ∧ ((st.1 8) + 1) ≤ 8 by omega)) dX4_add_69 ?_
    refine f_iconst C dX4_add_72 ?_
    exact f_zret C hret hlk dX4_add_73 (by decide) (hp _ _ (by rw [F_X4_add, if_pos c3]) (by rw [F_X4_add, if_pos c3]) (by omega))
  refine f_iconst C dX4_add_9 ?_
  exact f_zret C hret hlk dX4_add_10 (by decide) (hp _ _ (by rw [F_X4_add, if_neg c3]) (by rw [F_X4_add, if_neg c3]) (by omega))

def F_X4_relieve_3 (v1 v2 v3 : Int) : Nat → Int → fS → Int
  | 0, _, _ => 0
  | n + 1, v5, st => if (st.1 8) ≤ v5 then 0 else (if (rget 8 (st.2 19) v5) = v1 then (if (rget 8 (st.2 20) v5) = v2 then (if v3 < (rget 8 (st.2 21) v5) then F_X4_relieve_3 v1 v2 v3 (n) (v5 + 1) st else (if (rget 8 (st.2 22) v5) < v3 then F_X4_relieve_3 v1 v2 v3 (n) (v5 + 1) st else 1)) else F_X4_relieve_3 v1 v2 v3 (n) (v5 + 1) st) else F_X4_relieve_3 v1 v2 v3 (n) (v5 + 1) st)

def F_X4_relieve (p1 : Int) (p2 : Int) (p3 : Int) (st : fS) : Int := F_X4_relieve_3 p1 p2 p3 (Int.toNat ((st.1 8) - (0 : Int)) + 1) 0 st
abbrev rm_X4_relieve : Room := { frames := 1, cells := 0, slots := 0, locals := 21 }
set_option maxRecDepth 100000 in
set_option maxHeartbeats 8000000 in
theorem v_X4_relieve_3 {l : Launch} {D : va_G} {cI cJ cZ cB : ClassId} {a : Nat → Nat} {E : State → Prop} (hX : xHyp a E) (v1 v2 v3 : Int) (hv1 : in32 v1) (hv2 : in32 v2) (hv3 : in64 v3) {p : Program} {e : Env} {s : State} {m : MethodId} {args : Array Value} {below : List Frame} {meth : Method} {c : Code} (C : fC p m c cX4_relieve 6 s args wsX4_relieve yX4_relieve.cls D (fTys cI cJ cZ cB) E (xA a)) (hret : meth.sig.returnType = (some .boolean)) (hlk : meth.locks = false) {post : Int → fS → Prop} : ∀ (n : Nat) (v5 : Int) (st : fS), in32 v5 → (0 ≤ v5 ∧ v5 ≤ st.1 8) → (0 ≤ st.1 8 ∧ st.1 8 ≤ 8) → st.1 8 - v5 < n → (∀ z : Int, z = F_X4_relieve_3 v1 v2 v3 n v5 st → (z = 0 ∨ z = 1) → post z st) → fV D (wX cJ a) xOk (xA a) 6 p l e rm_X4_relieve s m args below meth c 0 0 (fMQ below (fQi D (wX cJ a) xOk (xA a) post) args s (xA a)) st 3 [(0, .ref (a 6)), (1, .int (zI v1)), (2, .int (zI v2)), (3, .long (zJ v3)), (5, .int (zI v5))] [] := by
  have hin4 : ∀ w ∈ u_ws RX4 TX4 5, w ∈ wsX4_relieve := by decide +kernel
  intro n
  induction n with
  | zero =>
    intro v5 st hv5 i0 i1 hm hp
    omega
  | succ n ih =>
    intro v5 st hv5 i0 i1 hm hp
    refine f_iload C 5 dX4_relieve_3 rfl ?_
    refine f_aload_n C 0 dX4_relieve_5 rfl rfl ?_
    refine f_ok (fun hO1 => ?_)
    have k2 : 0 ≤ st.1 8 ∧ st.1 8 ≤ 8 := hO1.1 8
    refine f_get C (v := .int (zI (st.1 8))) hin4 6 4 rfl rfl (Nat.le_of_ble_eq_true rfl) (by decide +kernel) rfl rfl dX4_relieve_6 ?_
    refine f_icmp_ge C 78 ⟨by omega, by omega⟩ ⟨by omega, by omega⟩ dX4_relieve_9 (by decide) (fun c3 => ?_) (fun c3 => ?_)
    · refine f_iconst C dX4_relieve_78 ?_
      exact f_zret C hret hlk dX4_relieve_79 (by decide) (hp _ (by rw [F_X4_relieve_3, if_pos c3]) (by omega))
    refine f_aload_n C 0 dX4_relieve_12 rfl rfl ?_
    refine f_get C hin4 6 0 rfl rfl (Nat.le_of_ble_eq_true rfl) (by decide +kernel) rfl rfl dX4_relieve_13 ?_
    refine f_iload C 5 dX4_relieve_16 rfl ?_
    refine f_calll C (c_Row_get hX 19 (Nat.le_of_ble_eq_true rfl) v5 ⟨by omega, by omega⟩ st) (cwV 1 C.1.2.2.2.2 gX4_relieve_X5_get rfl rfl rfl (by decide +kernel) ⟨Nat.le_of_ble_eq_true rfl, Nat.le_of_ble_eq_true rfl⟩) 27 (wX_row cJ a st (r := 19) (Nat.le_of_ble_eq_true rfl)) rfl rfl rfl rfl (Nat.le_of_ble_eq_true rfl) ⟨Nat.zero_le _, Nat.zero_le _⟩ dX4_relieve_18 (fun z u hz4 hu => ?_)
    obtain ⟨qz4, hu⟩ : z = rget 8 (st.2 19) v5 ∧ u = st := hu
    replace hu := hu.symm; subst hu; subst qz4
    have k5 : 0 ≤ rget 8 (st.2 19) v5 ∧ rget 8 (st.2 19) v5 ≤ 3 := xget_ok hO1 19 8 v5
    refine f_iload_n C 1 dX4_relieve_21 rfl rfl ?_
    refine f_i2l C ⟨by omega, by omega⟩ dX4_relieve_22 ?_
    refine f_lc_if_ne C 72 ⟨by omega, by omega⟩ ⟨by omega, by omega⟩ dX4_relieve_23 dX4_relieve_24 (by decide) (fun c6 => ?_) (fun c6 => ?_)
    · refine f_iinc C (lv' := [(5, .int (zI (v5 + 1))), (0, .ref (a 6)), (1, .int (zI v1)), (2, .int (zI v2)), (3, .long (zJ v3))]) 4 dX4_relieve_72 rfl (Nat.le_of_ble_eq_true rfl) rfl ?_
      refine f_goto C 3 dX4_relieve_75 (by decide) ?_
      refine f_re (lv' := [(0, .ref (a 6)), (1, .int (zI v1)), (2, .int (zI v2)), (3, .long (zJ v3)), (5, .int (zI (v5 + 1)))]) [1, 2, 3, 4, 0] rfl ?_
      exact ih (v5 + 1) st ⟨by omega, by omega⟩ (show 0 ≤ (v5 + 1) ∧ (v5 + 1) ≤ (st.1 8) by omega) (show 0 ≤ (st.1 8) ∧ (st.1 8) ≤ 8 by omega) (show (st.1 8) - (v5 + 1) < ((n : Nat) : Int) by omega) (fun z e1 r1 => hp z (by rw [F_X4_relieve_3, if_neg c3, if_neg c6]; exact e1) r1)
    refine f_aload_n C 0 dX4_relieve_27 rfl rfl ?_
    refine f_get C hin4 6 1 rfl rfl (Nat.le_of_ble_eq_true rfl) (by decide +kernel) rfl rfl dX4_relieve_28 ?_
    refine f_iload C 5 dX4_relieve_31 rfl ?_
    refine f_calll C (c_Row_get hX 20 (Nat.le_of_ble_eq_true rfl) v5 ⟨by omega, by omega⟩ st) (cwV 1 C.1.2.2.2.2 gX4_relieve_X5_get rfl rfl rfl (by decide +kernel) ⟨Nat.le_of_ble_eq_true rfl, Nat.le_of_ble_eq_true rfl⟩) 28 (wX_row cJ a st (r := 20) (Nat.le_of_ble_eq_true rfl)) rfl rfl rfl rfl (Nat.le_of_ble_eq_true rfl) ⟨Nat.zero_le _, Nat.zero_le _⟩ dX4_relieve_33 (fun z u hz7 hu => ?_)
    obtain ⟨qz7, hu⟩ : z = rget 8 (st.2 20) v5 ∧ u = st := hu
    replace hu := hu.symm; subst hu; subst qz7
    have k8 : 0 ≤ rget 8 (st.2 20) v5 ∧ rget 8 (st.2 20) v5 ≤ 5 := xget_ok hO1 20 8 v5
    refine f_iload_n C 2 dX4_relieve_36 rfl rfl ?_
    refine f_i2l C ⟨by omega, by omega⟩ dX4_relieve_37 ?_
    refine f_lc_if_ne C 72 ⟨by omega, by omega⟩ ⟨by omega, by omega⟩ dX4_relieve_38 dX4_relieve_39 (by decide) (fun c9 => ?_) (fun c9 => ?_)
    · refine f_iinc C (lv' := [(5, .int (zI (v5 + 1))), (0, .ref (a 6)), (1, .int (zI v1)), (2, .int (zI v2)), (3, .long (zJ v3))]) 4 dX4_relieve_72 rfl (Nat.le_of_ble_eq_true rfl) rfl ?_
      refine f_goto C 3 dX4_relieve_75 (by decide) ?_
      refine f_re (lv' := [(0, .ref (a 6)), (1, .int (zI v1)), (2, .int (zI v2)), (3, .long (zJ v3)), (5, .int (zI (v5 + 1)))]) [1, 2, 3, 4, 0] rfl ?_
      exact ih (v5 + 1) st ⟨by omega, by omega⟩ (show 0 ≤ (v5 + 1) ∧ (v5 + 1) ≤ (st.1 8) by omega) (show 0 ≤ (st.1 8) ∧ (st.1 8) ≤ 8 by omega) (show (st.1 8) - (v5 + 1) < ((n : Nat) : Int) by omega) (fun z e1 r1 => hp z (by rw [F_X4_relieve_3, if_neg c3, if_pos c6, if_neg c9]; exact e1) r1)
    refine f_aload_n C 0 dX4_relieve_42 rfl rfl ?_
    refine f_get C hin4 6 2 rfl rfl (Nat.le_of_ble_eq_true rfl) (by decide +kernel) rfl rfl dX4_relieve_43 ?_
    refine f_iload C 5 dX4_relieve_46 rfl ?_
    refine f_calll C (c_Row_get hX 21 (Nat.le_of_ble_eq_true rfl) v5 ⟨by omega, by omega⟩ st) (cwV 1 C.1.2.2.2.2 gX4_relieve_X5_get rfl rfl rfl (by decide +kernel) ⟨Nat.le_of_ble_eq_true rfl, Nat.le_of_ble_eq_true rfl⟩) 29 (wX_row cJ a st (r := 21) (Nat.le_of_ble_eq_true rfl)) rfl rfl rfl rfl (Nat.le_of_ble_eq_true rfl) ⟨Nat.zero_le _, Nat.zero_le _⟩ dX4_relieve_48 (fun z u hz10 hu => ?_)
    obtain ⟨qz10, hu⟩ : z = rget 8 (st.2 21) v5 ∧ u = st := hu
    replace hu := hu.symm; subst hu; subst qz10
    have k11 : 0 ≤ rget 8 (st.2 21) v5 ∧ rget 8 (st.2 21) v5 ≤ 3599 := xget_ok hO1 21 8 v5
    refine f_lload_n C 3 dX4_relieve_51 rfl rfl ?_
    refine f_lc_if_gt C 72 ⟨by omega, by omega⟩ ⟨by omega, by omega⟩ dX4_relieve_52 dX4_relieve_53 (by decide) (fun c12 => ?_) (fun c12 => ?_)
    · refine f_iinc C (lv' := [(5, .int (zI (v5 + 1))), (0, .ref (a 6)), (1, .int (zI v1)), (2, .int (zI v2)), (3, .long (zJ v3))]) 4 dX4_relieve_72 rfl (Nat.le_of_ble_eq_true rfl) rfl ?_
      refine f_goto C 3 dX4_relieve_75 (by decide) ?_
      refine f_re (lv' := [(0, .ref (a 6)), (1, .int (zI v1)), (2, .int (zI v2)), (3, .long (zJ v3)), (5, .int (zI (v5 + 1)))]) [1, 2, 3, 4, 0] rfl ?_
      exact ih (v5 + 1) st ⟨by omega, by omega⟩ (show 0 ≤ (v5 + 1) ∧ (v5 + 1) ≤ (st.1 8) by omega) (show 0 ≤ (st.1 8) ∧ (st.1 8) ≤ 8 by omega) (show (st.1 8) - (v5 + 1) < ((n : Nat) : Int) by omega) (fun z e1 r1 => hp z (by rw [F_X4_relieve_3, if_neg c3, if_pos c6, if_pos c9, if_pos c12]; exact e1) r1)
    refine f_lload_n C 3 dX4_relieve_56 rfl rfl ?_
    refine f_aload_n C 0 dX4_relieve_57 rfl rfl ?_
    refine f_get C hin4 6 3 rfl rfl (Nat.le_of_ble_eq_true rfl) (by decide +kernel) rfl rfl dX4_relieve_58 ?_
    refine f_iload C 5 dX4_relieve_61 rfl ?_
    refine f_calll C (c_Row_get hX 22 (Nat.le_of_ble_eq_true rfl) v5 ⟨by omega, by omega⟩ st) (cwV 1 C.1.2.2.2.2 gX4_relieve_X5_get rfl rfl rfl (by decide +kernel) ⟨Nat.le_of_ble_eq_true rfl, Nat.le_of_ble_eq_true rfl⟩) 30 (wX_row cJ a st (r := 22) (Nat.le_of_ble_eq_true rfl)) rfl rfl rfl rfl (Nat.le_of_ble_eq_true rfl) ⟨Nat.zero_le _, Nat.zero_le _⟩ dX4_relieve_63 (fun z u hz13 hu => ?_)
    obtain ⟨qz13, hu⟩ : z = rget 8 (st.2 22) v5 ∧ u = st := hu
    replace hu := hu.symm; subst hu; subst qz13
    have k14 : 0 ≤ rget 8 (st.2 22) v5 ∧ rget 8 (st.2 22) v5 ≤ 3599 := xget_ok hO1 22 8 v5
    refine f_lc_if_gt C 72 ⟨by omega, by omega⟩ ⟨by omega, by omega⟩ dX4_relieve_66 dX4_relieve_67 (by decide) (fun c15 => ?_) (fun c15 => ?_)
    · refine f_iinc C (lv' := [(5, .int (zI (v5 + 1))), (0, .ref (a 6)), (1, .int (zI v1)), (2, .int (zI v2)), (3, .long (zJ v3))]) 4 dX4_relieve_72 rfl (Nat.le_of_ble_eq_true rfl) rfl ?_
      refine f_goto C 3 dX4_relieve_75 (by decide) ?_
      refine f_re (lv' := [(0, .ref (a 6)), (1, .int (zI v1)), (2, .int (zI v2)), (3, .long (zJ v3)), (5, .int (zI (v5 + 1)))]) [1, 2, 3, 4, 0] rfl ?_
      exact ih (v5 + 1) st ⟨by omega, by omega⟩ (show 0 ≤ (v5 + 1) ∧ (v5 + 1) ≤ (st.1 8) by omega) (show 0 ≤ (st.1 8) ∧ (st.1 8) ≤ 8 by omega) (show (st.1 8) - (v5 + 1) < ((n : Nat) : Int) by omega) (fun z e1 r1 => hp z (by rw [F_X4_relieve_3, if_neg c3, if_pos c6, if_pos c9, if_neg c12, if_pos c15]; exact e1) r1)
    refine f_iconst C dX4_relieve_70 ?_
    exact f_zret C hret hlk dX4_relieve_71 (by decide) (hp _ (by rw [F_X4_relieve_3, if_neg c3, if_pos c6, if_pos c9, if_neg c12, if_neg c15]) (by omega))
set_option maxRecDepth 100000 in
set_option maxHeartbeats 8000000 in
theorem c_X4_relieve {l : Launch} {D : va_G} {cI cJ cZ cB : ClassId} {a : Nat → Nat} {E : State → Prop} (hX : xHyp a E) (p1 : Int) (p2 : Int) (p3 : Int) (h1 : in32 p1) (h2 : in32 p2) (h3 : in64 p3) (st : fS)  : xMi l D cI cJ cZ cB a E yX4_relieve wsX4_relieve rm_X4_relieve [.ref (a 6), .int (zI p1), .int (zI p2), .long (zJ p3)] st (fun z u => z = F_X4_relieve p1 p2 p3 st ∧ u = st ∧ (z = 0 ∨ z = 1)) := by
  refine fB_open (cc := cX4_relieve) (maxL := 6) (ret := (some .boolean)) (by decide) rfl (Nat.le_of_ble_eq_true rfl) hX.2 ?_
  intro p e s m below meth c C hret hlk
  have hp : ∀ z : Int, z = F_X4_relieve p1 p2 p3 st → (z = 0 ∨ z = 1) → z = F_X4_relieve p1 p2 p3 st ∧ st = st ∧ (z = 0 ∨ z = 1) := fun z h r1 => ⟨h, rfl, r1⟩
  refine f_iconst C dX4_relieve_0 ?_
  refine f_istore C (lv' := [(5, .int (zI 0)), (0, .ref (a 6)), (1, .int (zI p1)), (2, .int (zI p2)), (3, .long (zJ p3))]) dX4_relieve_1 (Nat.le_of_ble_eq_true rfl) rfl ?_
  refine f_re (lv' := [(0, .ref (a 6)), (1, .int (zI p1)), (2, .int (zI p2)), (3, .long (zJ p3)), (5, .int (zI 0))]) [1, 2, 3, 4, 0] rfl ?_
  refine f_ok (fun hO16 => ?_)
  have k17 : 0 ≤ st.1 8 ∧ st.1 8 ≤ 8 := hO16.1 8
  exact v_X4_relieve_3 hX p1 p2 p3 ⟨by omega, by omega⟩ ⟨by omega, by omega⟩ ⟨by omega, by omega⟩ C hret hlk (Int.toNat ((st.1 8) - (0 : Int)) + 1) 0 st ⟨by omega, by omega⟩ (show 0 ≤ (0 : Int) ∧ (0 : Int) ≤ (st.1 8) by omega) (show 0 ≤ (st.1 8) ∧ (st.1 8) ≤ 8 by omega) (show (st.1 8) - (0 : Int) < ((Int.toNat ((st.1 8) - (0 : Int)) + 1 : Nat) : Int) by omega) (fun z e1 r1 => hp z (by rw [F_X4_relieve]; exact e1) r1)
