/-! ===== PART 44: the reference, bills, walks (laid by program) ===== -/
def F_X9_bill_27 (v1 v2 : Int) : Nat → Int → Int → fS → Int × fS
  | 0, _, _, st => (0, st)
  | n + 1, v5, v7, st => if (st.1 31) ≤ v7 then (if (st.2 24 v2) < 0 then (v5, st) else (if v5 ≤ (st.2 24 v2) then (v5, st) else (st.2 24 v2, st))) else (if (st.2 35 v7) ≤ 0 then F_X9_bill_27 v1 v2 (n) (v5 + (st.2 33 v7)) (v7 + 1) st else ((-9223372036854775808), st))

def F_X9_bill (p1 p2 p3 : Int) (st : fS) : Int × fS := if (F_X9_isAsked p1 p2 p3 st) = 0 then ((-9223372036854775808), st) else F_X9_bill_27 p1 p2 (Int.toNat (24 - (0 : Int)) + 1) 0 0 (F_X9_findLines p1 p2 p3 st)
abbrev rm_X9_bill : Room := { frames := 2, cells := 0, slots := 0, locals := 57 }
set_option maxRecDepth 100000 in
set_option maxHeartbeats 8000000 in
theorem v_X9_bill_27 {l : Launch} {D : va_G} {cI cJ cZ cB : ClassId} {b : Nat → Nat} {E : State → Prop} (hX : mHyp b E) (v1 v2 : Int) (hv1 : in32 v1) (hv2 : in32 v2) {p : Program} {e : Env} {s : State} {m : MethodId} {args : Array Value} {below : List Frame} {meth : Method} {c : Code} (C : fC p m c cX9_bill 8 s args wsX9_bill yX9_bill.cls D (fTys cI cJ cZ cB) E (mA b)) (hret : meth.sig.returnType = (some .long)) (hlk : meth.locks = false) {post : Int → fS → Prop} : ∀ (n : Nat) (v5 v7 : Int) (st : fS), in64 v5 → in32 v7 → (0 ≤ v7 ∧ v7 ≤ st.1 31 ∧ st.1 31 ≤ 24) → (-v7 ≤ v5 ∧ v5 ≤ 1000000000000 * v7) → (0 ≤ v1 ∧ v1 ≤ 3) → (0 ≤ v2 ∧ v2 ≤ 119) → 24 - v7 < n → (∀ (z : Int) (u : fS), z = (F_X9_bill_27 v1 v2 n v5 v7 st).1 → u = (F_X9_bill_27 v1 v2 n v5 v7 st).2 → (z = -9223372036854775808 ∨ ((-24 ≤ z ∧ z ≤ 24000000000000) ∧ (0 ≤ v1 ∧ v1 ≤ 3) ∧ (0 ≤ v2 ∧ v2 ≤ 119))) → post z u) → fV D (wM cI cJ cZ cB b) mOk (mA b) 8 p l e rm_X9_bill s m args below meth c 0 0 (fMQ below (fQl D (wM cI cJ cZ cB b) mOk (mA b) post) args s (mA b)) st 27 [(0, .ref (b 0)), (1, .int (zI v1)), (2, .int (zI v2)), (5, .long (zJ v5)), (7, .int (zI v7))] [] := by
  have hin9 : ∀ w ∈ u_ws RX9 TX9 43, w ∈ wsX9_bill := by decide +kernel
  intro n
  induction n with
  | zero =>
    intro v5 v7 st hv5 hv7 i0 i1 i2 i3 hm hp
    omega
  | succ n ih =>
    intro v5 v7 st hv5 hv7 i0 i1 i2 i3 hm hp
    refine f_iload C 7 dX9_bill_27 rfl ?_
    refine f_aload_n C 0 dX9_bill_29 rfl rfl ?_
    refine f_ok (fun hO1 => ?_)
    have k2 : 0 ≤ st.1 31 ∧ st.1 31 ≤ 24 := hO1.1 31
    refine f_get C (v := .int (zI (st.1 31))) hin9 0 31 rfl rfl (Nat.le_of_ble_eq_true rfl) (by decide +kernel) rfl rfl dX9_bill_30 ?_
    refine f_icmp_ge C 68 ⟨by omega, by omega⟩ ⟨by omega, by omega⟩ dX9_bill_33 (by decide) (fun c3 => ?_) (fun c3 => ?_)
    · refine f_aload_n C 0 dX9_bill_68 rfl rfl ?_
      refine f_get C hin9 0 24 rfl rfl (Nat.le_of_ble_eq_true rfl) (by decide +kernel) rfl rfl dX9_bill_69 ?_
      refine f_iload_n C 2 dX9_bill_72 rfl rfl ?_
      refine f_lald C (f := st.2 24) 20 1 rfl rfl ⟨by omega, by omega⟩ (Nat.le_of_ble_eq_true rfl) dX9_bill_73 ?_
      have k4 : (-1) ≤ st.2 24 v2 ∧ st.2 24 v2 ≤ 1000000000000 := hO1.2 24 v2
      refine f_lconst C (z := 0) dX9_bill_74 rfl ?_
      refine f_lc_if_lt C 100 ⟨by omega, by omega⟩ ⟨by decide, by decide⟩ dX9_bill_75 dX9_bill_76 (by decide) (fun c5 => ?_) (fun c5 => ?_)
      · refine f_lload C 5 dX9_bill_100 rfl ?_
        exact f_lret C hret hlk dX9_bill_102 ⟨by omega, by omega⟩ (hp _ _ (by rw [F_X9_bill_27, if_pos c3, if_pos c5]) (by rw [F_X9_bill_27, if_pos c3, if_pos c5]) (by omega))
      refine f_lload C 5 dX9_bill_79 rfl ?_
      refine f_aload_n C 0 dX9_bill_81 rfl rfl ?_
      refine f_get C hin9 0 24 rfl rfl (Nat.le_of_ble_eq_true rfl) (by decide +kernel) rfl rfl dX9_bill_82 ?_
      refine f_iload_n C 2 dX9_bill_85 rfl rfl ?_
      refine f_lald C (f := st.2 24) 20 1 rfl rfl ⟨by omega, by omega⟩ (Nat.le_of_ble_eq_true rfl) dX9_bill_86 ?_
      refine f_lc_if_le C 100 ⟨by omega, by omega⟩ ⟨by omega, by omega⟩ dX9_bill_87 dX9_bill_88 (by decide) (fun c6 => ?_) (fun c6 => ?_)
      · refine f_lload C 5 dX9_bill_100 rfl ?_
        exact f_lret C hret hlk dX9_bill_102 ⟨by omega, by omega⟩ (hp _ _ (by rw [F_X9_bill_27, if_pos c3, if_neg c5, if_pos c6]) (by rw [F_X9_bill_27, if_pos c3, if_neg c5, if_pos c6]) (by omega))
      refine f_aload_n C 0 dX9_bill_91 rfl rfl ?_
      refine f_get C hin9 0 24 rfl rfl (Nat.le_of_ble_eq_true rfl) (by decide +kernel) rfl rfl dX9_bill_92 ?_
      refine f_iload_n C 2 dX9_bill_95 rfl rfl ?_
      refine f_lald C (f := st.2 24) 20 1 rfl rfl ⟨by omega, by omega⟩ (Nat.le_of_ble_eq_true rfl) dX9_bill_96 ?_
      refine f_goto C 102 dX9_bill_97 (by decide) ?_
      exact f_lret C hret hlk dX9_bill_102 ⟨by omega, by omega⟩ (hp _ _ (by rw [F_X9_bill_27, if_pos c3, if_neg c5, if_neg c6]) (by rw [F_X9_bill_27, if_pos c3, if_neg c5, if_neg c6]) (by omega))
    refine f_aload_n C 0 dX9_bill_36 rfl rfl ?_
    refine f_get C hin9 0 35 rfl rfl (Nat.le_of_ble_eq_true rfl) (by decide +kernel) rfl rfl dX9_bill_37 ?_
    refine f_iload C 7 dX9_bill_40 rfl ?_
    refine f_iald C (f := st.2 35) 29 0 rfl rfl ⟨by omega, by omega⟩ (Nat.le_of_ble_eq_true rfl) dX9_bill_42 ?_
    have k7 : 0 ≤ st.2 35 v7 ∧ st.2 35 v7 ≤ 2 := hO1.2 35 v7
    refine f_if_le C 50 ⟨by omega, by omega⟩ dX9_bill_43 (by decide) (fun c8 => ?_) (fun c8 => ?_)
    · refine f_lload C 5 dX9_bill_50 rfl ?_
      refine f_aload_n C 0 dX9_bill_52 rfl rfl ?_
      refine f_get C hin9 0 33 rfl rfl (Nat.le_of_ble_eq_true rfl) (by decide +kernel) rfl rfl dX9_bill_53 ?_
      refine f_iload C 7 dX9_bill_56 rfl ?_
      refine f_lald C (f := st.2 33) 27 1 rfl rfl ⟨by omega, by omega⟩ (Nat.le_of_ble_eq_true rfl) dX9_bill_58 ?_
      have k9 : (-1) ≤ st.2 33 v7 ∧ st.2 33 v7 ≤ 1000000000000 := hO1.2 33 v7
      refine f_ladd C dX9_bill_59 ?_
      refine f_lstore C (lv' := [(5, .long (zJ (v5 + (st.2 33 v7)))), (0, .ref (b 0)), (1, .int (zI v1)), (2, .int (zI v2)), (7, .int (zI v7))]) dX9_bill_60 (Nat.le_of_ble_eq_true rfl) rfl ?_
      refine f_iinc C (lv' := [(7, .int (zI (v7 + 1))), (5, .long (zJ (v5 + (st.2 33 v7)))), (0, .ref (b 0)), (1, .int (zI v1)), (2, .int (zI v2))]) 4 dX9_bill_62 rfl (Nat.le_of_ble_eq_true rfl) rfl ?_
      refine f_goto C 27 dX9_bill_65 (by decide) ?_
      refine f_re (lv' := [(0, .ref (b 0)), (1, .int (zI v1)), (2, .int (zI v2)), (5, .long (zJ (v5 + (st.2 33 v7)))), (7, .int (zI (v7 + 1)))]) [2, 3, 4, 1, 0] rfl ?_
      exact ih (v5 + (st.2 33 v7)) (v7 + 1) st ⟨by omega, by omega⟩ ⟨by omega, by omega⟩ (show 0 ≤ (v7 + 1) ∧ (v7 + 1) ≤ (st.1 31) ∧ (st.1 31) ≤ 24 by omega) (show -(v7 + 1) ≤ (v5 + (st.2 33 v7)) ∧ (v5 + (st.2 33 v7)) ≤ 1000000000000 * (v7 + 1) by omega) (show 0 ≤ v1 ∧ v1 ≤ 3 by omega) (show 0 ≤ v2 ∧ v2 ≤ 119 by omega) (show 24 - (v7 + 1) < ((n : Nat) : Int) by omega) (fun z u e1 e2 r1 => hp z u (by rw [F_X9_bill_27, if_neg c3, if_pos c8]; exact e1) (by rw [F_X9_bill_27, if_neg c3, if_pos c8]; exact e2) r1)
    refine f_ldc2 C (v := (-9223372036854775808)) (z := (-9223372036854775808)) (by decide +kernel) (by decide) dX9_bill_46 ?_
    exact f_lret C hret hlk dX9_bill_49 ⟨by decide, by decide⟩ (hp _ _ (by rw [F_X9_bill_27, if_neg c3, if_neg c8]) (by rw [F_X9_bill_27, if_neg c3, if_neg c8]) (by omega))
set_option maxRecDepth 100000 in
set_option maxHeartbeats 8000000 in
theorem c_X9_bill {l : Launch} {D : va_G} {cI cJ cZ cB : ClassId} {b : Nat → Nat} {E : State → Prop} (hX : mHyp b E) (p1 p2 p3 : Int) (h1 : in32 p1) (h2 : in32 p2) (h3 : in64 p3) (st : fS) (hI : mSteps st) : mMl l D cI cJ cZ cB b E yX9_bill wsX9_bill rm_X9_bill [.ref (b 0), .int (zI p1), .int (zI p2), .long (zJ p3)] st (fun z u => z = (F_X9_bill p1 p2 p3 st).1 ∧ u = (F_X9_bill p1 p2 p3 st).2 ∧ (z = -9223372036854775808 ∨ ((-24 ≤ z ∧ z ≤ 24000000000000) ∧ (0 ≤ p1 ∧ p1 ≤ 3) ∧ (0 ≤ p2 ∧ p2 ≤ 119)))) := by
  refine fB_open (cc := cX9_bill) (maxL := 8) (ret := (some .long)) (by decide) rfl (Nat.le_of_ble_eq_true rfl) hX.2 ?_
  intro p e s m below meth c C hret hlk
  have hp : ∀ (z : Int) (u : fS), z = (F_X9_bill p1 p2 p3 st).1 → u = (F_X9_bill p1 p2 p3 st).2 → (z = -9223372036854775808 ∨ ((-24 ≤ z ∧ z ≤ 24000000000000) ∧ (0 ≤ p1 ∧ p1 ≤ 3) ∧ (0 ≤ p2 ∧ p2 ≤ 119))) → z = (F_X9_bill p1 p2 p3 st).1 ∧ u = (F_X9_bill p1 p2 p3 st).2 ∧ (z = -9223372036854775808 ∨ ((-24 ≤ z ∧ z ≤ 24000000000000) ∧ (0 ≤ p1 ∧ p1 ≤ 3) ∧ (0 ≤ p2 ∧ p2 ≤ 119))) := fun z u h1 h2 r1 => ⟨h1, h2, r1⟩
  refine f_aload_n C 0 dX9_bill_0 rfl rfl ?_
  refine f_iload_n C 1 dX9_bill_1 rfl rfl ?_
  refine f_iload_n C 2 dX9_bill_2 rfl rfl ?_
  refine f_lload_n C 3 dX9_bill_3 rfl rfl ?_
  refine f_calli C (c_X9_isAsked hX p1 p2 p3 ⟨by omega, by omega⟩ ⟨by omega, by omega⟩ ⟨by omega, by omega⟩ st) (cwV 3 C.1.2.2.2.2 gX9_bill_X9_isAsked rfl rfl rfl (by decide +kernel) ⟨Nat.le_of_ble_eq_true rfl, Nat.le_of_ble_eq_true rfl⟩) 0 rfl rfl rfl rfl rfl (Nat.le_of_ble_eq_true rfl) ⟨Nat.zero_le _, Nat.zero_le _⟩ dX9_bill_4 (fun z u hz10 hu => ?_)
  obtain ⟨qz10, hu, rz10⟩ := hu; replace hu := hu.symm; subst hu; subst qz10
  refine f_if_ne C 14 ⟨by omega, by omega⟩ dX9_bill_7 (by decide) (fun c11 => ?_) (fun c11 => ?_)
  · refine f_aload_n C 0 dX9_bill_14 rfl rfl ?_
    refine f_iload_n C 1 dX9_bill_15 rfl rfl ?_
    refine f_iload_n C 2 dX9_bill_16 rfl rfl ?_
    refine f_lload_n C 3 dX9_bill_17 rfl rfl ?_
    refine f_callv C (c_X9_findLines hX p1 p2 p3 ⟨by omega, by omega⟩ ⟨by omega, by omega⟩ ⟨by omega, by omega⟩ st hI) (cwV 3 C.1.2.2.2.2 gX9_bill_X9_findLines rfl rfl rfl (by decide +kernel) ⟨Nat.le_of_ble_eq_true rfl, Nat.le_of_ble_eq_true rfl⟩) 0 rfl rfl rfl rfl rfl (Nat.le_of_ble_eq_true rfl) ⟨Nat.zero_le _, Nat.zero_le _⟩ dX9_bill_18 (fun u hu => ?_)
    replace hu := hu.symm; subst hu
    refine f_lconst C (z := 0) dX9_bill_21 rfl ?_
    refine f_lstore C (lv' := [(5, .long (zJ 0)), (0, .ref (b 0)), (1, .int (zI p1)), (2, .int (zI p2)), (3, .long (zJ p3))]) dX9_bill_22 (Nat.le_of_ble_eq_true rfl) rfl ?_
    refine f_iconst C dX9_bill_24 ?_
    refine f_istore C (lv' := [(7, .int (zI 0)), (5, .long (zJ 0)), (0, .ref (b 0)), (1, .int (zI p1)), (2, .int (zI p2)), (3, .long (zJ p3))]) dX9_bill_25 (Nat.le_of_ble_eq_true rfl) rfl ?_
    refine f_re (lv' := [(0, .ref (b 0)), (1, .int (zI p1)), (2, .int (zI p2)), (5, .long (zJ 0)), (7, .int (zI 0))]) [2, 3, 4, 1, 0] rfl ?_
    refine f_ok (fun hO13 => ?_)
    have k14 : 0 ≤ (F_X9_findLines p1 p2 p3 st).1 31 ∧ (F_X9_findLines p1 p2 p3 st).1 31 ≤ 24 := hO13.1 31
    exact v_X9_bill_27 hX p1 p2 ⟨by omega, by omega⟩ ⟨by omega, by omega⟩ C hret hlk (Int.toNat (24 - (0 : Int)) + 1) 0 0 (F_X9_findLines p1 p2 p3 st) ⟨by omega, by omega⟩ ⟨by omega, by omega⟩ (show 0 ≤ (0 : Int) ∧ (0 : Int) ≤ ((F_X9_findLines p1 p2 p3 st).1 31) ∧ ((F_X9_findLines p1 p2 p3 st).1 31) ≤ 24 by omega) (show -(0 : Int) ≤ (0 : Int) ∧ (0 : Int) ≤ 1000000000000 * (0 : Int) by omega) (show 0 ≤ p1 ∧ p1 ≤ 3 by omega) (show 0 ≤ p2 ∧ p2 ≤ 119 by omega) (show 24 - (0 : Int) < ((Int.toNat (24 - (0 : Int)) + 1 : Nat) : Int) by omega) (fun z u e1 e2 r1 => hp z u (by rw [F_X9_bill, if_neg c11]; exact e1) (by rw [F_X9_bill, if_neg c11]; exact e2) r1)
  refine f_ldc2 C (v := (-9223372036854775808)) (z := (-9223372036854775808)) (by decide +kernel) (by decide) dX9_bill_10 ?_
  exact f_lret C hret hlk dX9_bill_13 ⟨by decide, by decide⟩ (hp _ _ (by rw [F_X9_bill, if_pos c11]) (by rw [F_X9_bill, if_pos c11]) (by omega))

def F_X9_flat_157 (v1 v5 v10 v12 : Int) : Nat → Int → Int → fS → Int × fS
  | 0, _, _, st => (0, st)
  | n + 1, v14, v15, st => if v5 ≤ v15 then (if (st.2 2 ((6 * v1) + v5)) ≤ 0 then (v12, st) else (if v10 ≤ v14 then (v12, st) else (v12 + 1, st))) else (if (st.2 2 ((6 * v1) + v15)) ≤ 0 then F_X9_flat_157 v1 v5 v10 v12 (n) v14 (v15 + 1) st else F_X9_flat_157 v1 v5 v10 v12 (n) (v14 + 1) (v15 + 1) st)

def F_X9_flat_89 (v1 v5 v6 v8 : Int) : Nat → Int → Int → fS → Int × fS
  | 0, _, _, st => (0, st)
  | n + 1, v10, v12, st => if (st.2 1 v1) ≤ v12 then F_X9_flat_157 v1 v5 v10 ((v6 * (st.2 2 ((6 * v1) + v5))) / v8) (Int.toNat (v5 - (0 : Int)) + 1) 0 0 st else F_X9_flat_89 v1 v5 v6 v8 (n) (v10 - ((v6 * (st.2 2 ((6 * v1) + v12))) / v8)) (v12 + 1) st

def F_X9_flat_29 (v1 v5 v6 : Int) : Nat → Int → Int → fS → Int × fS
  | 0, _, _, st => (0, st)
  | n + 1, v8, v10, st => if (st.2 1 v1) ≤ v10 then (if v6 < 0 then ((-9223372036854775808), st) else (if v8 = 0 then ((-9223372036854775808), st) else F_X9_flat_89 v1 v5 v6 v8 (Int.toNat (6 - (0 : Int)) + 1) v6 0 st)) else F_X9_flat_29 v1 v5 v6 (n) (v8 + (st.2 2 ((6 * v1) + v10))) (v10 + 1) st

def F_X9_flat (p1 p2 p3 p5 : Int) (st : fS) : Int × fS := if (F_X9_isFlat p1 p5 st) = 0 then ((-9223372036854775808), st) else F_X9_flat_29 p1 p5 ((F_X9_bill p1 p2 p3 st).1) (Int.toNat (6 - (0 : Int)) + 1) 0 0 ((F_X9_bill p1 p2 p3 st).2)
abbrev rm_X9_flat : Room := { frames := 3, cells := 0, slots := 0, locals := 84 }
set_option maxRecDepth 100000 in
set_option maxHeartbeats 8000000 in
theorem v_X9_flat_157 {l : Launch} {D : va_G} {cI cJ cZ cB : ClassId} {b : Nat → Nat} {E : State → Prop} (hX : mHyp b E) (v1 v5 v10 v12 : Int) (hv1 : in32 v1) (hv5 : in32 v5) (hv10 : in64 v10) (hv12 : in64 v12) {p : Program} {e : Env} {s : State} {m : MethodId} {args : Array Value} {below : List Frame} {meth : Method} {c : Code} (C : fC p m c cX9_flat 16 s args wsX9_flat yX9_flat.cls D (fTys cI cJ cZ cB) E (mA b)) (hret : meth.sig.returnType = (some .long)) (hlk : meth.locks = false) {post : Int → fS → Prop} : ∀ (n : Nat) (v14 v15 : Int) (st : fS), in32 v14 → in32 v15 → (0 ≤ v1 ∧ v1 ≤ 3) → (0 ≤ v5 ∧ v5 ≤ 5) → (0 ≤ v12 ∧ v12 ≤ 24000000000000000) → (0 ≤ v15 ∧ v15 ≤ v5) → (0 ≤ v14 ∧ v14 ≤ v15) → ((-1000000000000000000) ≤ v10 ∧ v10 ≤ 1000000000000000000) → v5 - v15 < n → (∀ (z : Int) (u : fS), z = (F_X9_flat_157 v1 v5 v10 v12 n v14 v15 st).1 → u = (F_X9_flat_157 v1 v5 v10 v12 n v14 v15 st).2 → post z u) → fV D (wM cI cJ cZ cB b) mOk (mA b) 16 p l e rm_X9_flat s m args below meth c 0 0 (fMQ below (fQl D (wM cI cJ cZ cB b) mOk (mA b) post) args s (mA b)) st 157 [(0, .ref (b 0)), (1, .int (zI v1)), (5, .int (zI v5)), (10, .long (zJ v10)), (12, .long (zJ v12)), (14, .int (zI v14)), (15, .int (zI v15))] [] := by
  have hin9 : ∀ w ∈ u_ws RX9 TX9 43, w ∈ wsX9_flat := by decide +kernel
  intro n
  induction n with
  | zero =>
    intro v14 v15 st hv14 hv15 i0 i1 i2 i3 i4 i5 hm hp
    omega
  | succ n ih =>
    intro v14 v15 st hv14 hv15 i0 i1 i2 i3 i4 i5 hm hp
    refine f_iload C 15 dX9_flat_157 rfl ?_
    refine f_iload C 5 dX9_flat_159 rfl ?_
    refine f_icmp_ge C 196 ⟨by omega, by omega⟩ ⟨by omega, by omega⟩ dX9_flat_161 (by decide) (fun c1 => ?_) (fun c1 => ?_)
    · refine f_aload_n C 0 dX9_flat_196 rfl rfl ?_
      refine f_get C hin9 0 2 rfl rfl (Nat.le_of_ble_eq_true rfl) (by decide +kernel) rfl rfl dX9_flat_197 ?_
      refine f_bipush C dX9_flat_200 (by decide) ?_
      refine f_iload_n C 1 dX9_flat_202 rfl rfl ?_
      refine f_imul C dX9_flat_203 ?_
      refine f_iload C 5 dX9_flat_204 rfl ?_
      refine f_iadd C dX9_flat_206 ?_
      refine f_iald C (f := st.2 2) 2 0 rfl rfl ⟨by omega, by omega⟩ (Nat.le_of_ble_eq_true rfl) dX9_flat_207 ?_
      refine f_ok (fun hO2 => ?_)
      have k3 : 0 ≤ st.2 2 ((6 * v1) + v5) ∧ st.2 2 ((6 * v1) + v5) ≤ 1000 := hO2.2 2 ((6 * v1) + v5)
      refine f_if_le C 227 ⟨by omega, by omega⟩ dX9_flat_208 (by decide) (fun c4 => ?_) (fun c4 => ?_)
      · refine f_lload C 12 dX9_flat_227 rfl ?_
        exact f_lret C hret hlk dX9_flat_229 ⟨by omega, by omega⟩ (hp _ _ (by rw [F_X9_flat_157, if_pos c1, if_pos c4]) (by rw [F_X9_flat_157, if_pos c1, if_pos c4]))
      refine f_iload C 14 dX9_flat_211 rfl ?_
      refine f_i2l C ⟨by omega, by omega⟩ dX9_flat_213 ?_
      refine f_lload C 10 dX9_flat_214 rfl ?_
      refine f_lc_if_ge C 227 ⟨by omega, by omega⟩ ⟨by omega, by omega⟩ dX9_flat_216 dX9_flat_217 (by decide) (fun c5 => ?_) (fun c5 => ?_)
      · refine f_lload C 12 dX9_flat_227 rfl ?_
        exact f_lret C hret hlk dX9_flat_229 ⟨by omega, by omega⟩ (hp _ _ (by rw [F_X9_flat_157, if_pos c1, if_neg c4, if_pos c5]) (by rw [F_X9_flat_157, if_pos c1, if_neg c4, if_pos c5]))
      refine f_lload C 12 dX9_flat_220 rfl ?_
      refine f_lconst C (z := 1) dX9_flat_222 rfl ?_
      refine f_ladd C dX9_flat_223 ?_
      refine f_goto C 229 dX9_flat_224 (by decide) ?_
      exact f_lret C hret hlk dX9_flat_229 ⟨by omega, by omega⟩ (hp _ _ (by rw [F_X9_flat_157, if_pos c1, if_neg c4, if_neg c5]) (by rw [F_X9_flat_157, if_pos c1, if_neg c4, if_neg c5]))
    refine f_aload_n C 0 dX9_flat_164 rfl rfl ?_
    refine f_get C hin9 0 2 rfl rfl (Nat.le_of_ble_eq_true rfl) (by decide +kernel) rfl rfl dX9_flat_165 ?_
    refine f_bipush C dX9_flat_168 (by decide) ?_
    refine f_iload_n C 1 dX9_flat_170 rfl rfl ?_
    refine f_imul C dX9_flat_171 ?_
    refine f_iload C 15 dX9_flat_172 rfl ?_
    refine f_iadd C dX9_flat_174 ?_
    refine f_iald C (f := st.2 2) 2 0 rfl rfl ⟨by omega, by omega⟩ (Nat.le_of_ble_eq_true rfl) dX9_flat_175 ?_
    refine f_ok (fun hO6 => ?_)
    have k7 : 0 ≤ st.2 2 ((6 * v1) + v15) ∧ st.2 2 ((6 * v1) + v15) ≤ 1000 := hO6.2 2 ((6 * v1) + v15)
    refine f_if_le C 186 ⟨by omega, by omega⟩ dX9_flat_176 (by decide) (fun c8 => ?_) (fun c8 => ?_)
    · refine f_iload C 14 dX9_flat_186 rfl ?_
      refine f_istore C (lv' := [(14, .int (zI v14)), (0, .ref (b 0)), (1, .int (zI v1)), (5, .int (zI v5)), (10, .long (zJ v10)), (12, .long (zJ v12)), (15, .int (zI v15))]) dX9_flat_188 (Nat.le_of_ble_eq_true rfl) rfl ?_
      refine f_iinc C (lv' := [(15, .int (zI (v15 + 1))), (14, .int (zI v14)), (0, .ref (b 0)), (1, .int (zI v1)), (5, .int (zI v5)), (10, .long (zJ v10)), (12, .long (zJ v12))]) 6 dX9_flat_190 rfl (Nat.le_of_ble_eq_true rfl) rfl ?_
      refine f_goto C 157 dX9_flat_193 (by decide) ?_
      refine f_re (lv' := [(0, .ref (b 0)), (1, .int (zI v1)), (5, .int (zI v5)), (10, .long (zJ v10)), (12, .long (zJ v12)), (14, .int (zI v14)), (15, .int (zI (v15 + 1)))]) [2, 3, 4, 5, 6, 1, 0] rfl ?_
      exact ih v14 (v15 + 1) st ⟨by omega, by omega⟩ ⟨by omega, by omega⟩ (show 0 ≤ v1 ∧ v1 ≤ 3 by omega) (show 0 ≤ v5 ∧ v5 ≤ 5 by omega) (show 0 ≤ v12 ∧ v12 ≤ 24000000000000000 by omega) (show 0 ≤ (v15 + 1) ∧ (v15 + 1) ≤ v5 by omega) (show 0 ≤ v14 ∧ v14 ≤ (v15 + 1) by omega) (show (-1000000000000000000) ≤ v10 ∧ v10 ≤ 1000000000000000000 by omega) (show v5 - (v15 + 1) < ((n : Nat) : Int) by omega) (fun z u e1 e2 => hp z u (by rw [F_X9_flat_157, if_neg c1, if_pos c8]; exact e1) (by rw [F_X9_flat_157, if_neg c1, if_pos c8]; exact e2))
    refine f_iload C 14 dX9_flat_179 rfl ?_
    refine f_iconst C dX9_flat_181 ?_
    refine f_iadd C dX9_flat_182 ?_
    refine f_goto C 188 dX9_flat_183 (by decide) ?_
    refine f_istore C (lv' := [(14, .int (zI (v14 + 1))), (0, .ref (b 0)), (1, .int (zI v1)), (5, .int (zI v5)), (10, .long (zJ v10)), (12, .long (zJ v12)), (15, .int (zI v15))]) dX9_flat_188 (Nat.le_of_ble_eq_true rfl) rfl ?_
    refine f_iinc C (lv' := [(15, .int (zI (v15 + 1))), (14, .int (zI (v14 + 1))), (0, .ref (b 0)), (1, .int (zI v1)), (5, .int (zI v5)), (10, .long (zJ v10)), (12, .long (zJ v12))]) 6 dX9_flat_190 rfl (Nat.le_of_ble_eq_true rfl) rfl ?_
    refine f_goto C 157 dX9_flat_193 (by decide) ?_
    refine f_re (lv' := [(0, .ref (b 0)), (1, .int (zI v1)), (5, .int (zI v5)), (10, .long (zJ v10)), (12, .long (zJ v12)), (14, .int (zI (v14 + 1))), (15, .int (zI (v15 + 1)))]) [2, 3, 4, 5, 6, 1, 0] rfl ?_
    exact ih (v14 + 1) (v15 + 1) st ⟨by omega, by omega⟩ ⟨by omega, by omega⟩ (show 0 ≤ v1 ∧ v1 ≤ 3 by omega) (show 0 ≤ v5 ∧ v5 ≤ 5 by omega) (show 0 ≤ v12 ∧ v12 ≤ 24000000000000000 by omega) (show 0 ≤ (v15 + 1) ∧ (v15 + 1) ≤ v5 by omega) (show 0 ≤ (v14 + 1) ∧ (v14 + 1) ≤ (v15 + 1) by omega) (show (-1000000000000000000) ≤ v10 ∧ v10 ≤ 1000000000000000000 by omega) (show v5 - (v15 + 1) < ((n : Nat) : Int) by omega) (fun z u e1 e2 => hp z u (by rw [F_X9_flat_157, if_neg c1, if_neg c8]; exact e1) (by rw [F_X9_flat_157, if_neg c1, if_neg c8]; exact e2))
set_option maxRecDepth 100000 in
set_option maxHeartbeats 8000000 in
theorem v_X9_flat_89 {l : Launch} {D : va_G} {cI cJ cZ cB : ClassId} {b : Nat → Nat} {E : State → Prop} (hX : mHyp b E) (v1 v5 v6 v8 : Int) (hv1 : in32 v1) (hv5 : in32 v5) (hv6 : in64 v6) (hv8 : in64 v8) {p : Program} {e : Env} {s : State} {m : MethodId} {args : Array Value} {below : List Frame} {meth : Method} {c : Code} (C : fC p m c cX9_flat 16 s args wsX9_flat yX9_flat.cls D (fTys cI cJ cZ cB) E (mA b)) (hret : meth.sig.returnType = (some .long)) (hlk : meth.locks = false) {post : Int → fS → Prop} : ∀ (n : Nat) (v10 v12 : Int) (st : fS), in64 v10 → in32 v12 → (0 ≤ v1 ∧ v1 ≤ 3) → (0 ≤ v5 ∧ v5 ≤ 5) → (0 ≤ v6 ∧ v6 ≤ 24000000000000) → (0 < v8 ∧ v8 ≤ 6000) → (0 ≤ v12 ∧ v12 ≤ 6) → (-(24000000000000000 * v12) ≤ v10 ∧ v10 ≤ 24000000000000) → 6 - v12 < n → (∀ (z : Int) (u : fS), z = (F_X9_flat_89 v1 v5 v6 v8 n v10 v12 st).1 → u = (F_X9_flat_89 v1 v5 v6 v8 n v10 v12 st).2 → post z u) → fV D (wM cI cJ cZ cB b) mOk (mA b) 16 p l e rm_X9_flat s m args below meth c 0 0 (fMQ below (fQl D (wM cI cJ cZ cB b) mOk (mA b) post) args s (mA b)) st 89 [(0, .ref (b 0)), (1, .int (zI v1)), (5, .int (zI v5)), (6, .long (zJ v6)), (8, .long (zJ v8)), (10, .long (zJ v10)), (12, .int (zI v12))] [] := by
  have hin9 : ∀ w ∈ u_ws RX9 TX9 43, w ∈ wsX9_flat := by decide +kernel
  intro n
  induction n with
  | zero =>
    intro v10 v12 st hv10 hv12 i0 i1 i2 i3 i4 i5 hm hp
    omega
  | succ n ih =>
    intro v10 v12 st hv10 hv12 i0 i1 i2 i3 i4 i5 hm hp
    refine f_iload C 12 dX9_flat_89 rfl ?_
    refine f_aload_n C 0 dX9_flat_91 rfl rfl ?_
    refine f_get C hin9 0 1 rfl rfl (Nat.le_of_ble_eq_true rfl) (by decide +kernel) rfl rfl dX9_flat_92 ?_
    refine f_iload_n C 1 dX9_flat_95 rfl rfl ?_
    refine f_iald C (f := st.2 1) 1 0 rfl rfl ⟨by omega, by omega⟩ (Nat.le_of_ble_eq_true rfl) dX9_flat_96 ?_
    refine f_ok (fun hO9 => ?_)
    have k10 : 0 ≤ st.2 1 v1 ∧ st.2 1 v1 ≤ 6 := hO9.2 1 v1
    refine f_icmp_ge C 130 ⟨by omega, by omega⟩ ⟨by omega, by omega⟩ dX9_flat_97 (by decide) (fun c11 => ?_) (fun c11 => ?_)
    · refine f_lload C 6 dX9_flat_130 rfl ?_
      refine f_aload_n C 0 dX9_flat_132 rfl rfl ?_
      refine f_get C hin9 0 2 rfl rfl (Nat.le_of_ble_eq_true rfl) (by decide +kernel) rfl rfl dX9_flat_133 ?_
      refine f_bipush C dX9_flat_136 (by decide) ?_
      refine f_iload_n C 1 dX9_flat_138 rfl rfl ?_
      refine f_imul C dX9_flat_139 ?_
      refine f_iload C 5 dX9_flat_140 rfl ?_
      refine f_iadd C dX9_flat_142 ?_
      refine f_iald C (f := st.2 2) 2 0 rfl rfl ⟨by omega, by omega⟩ (Nat.le_of_ble_eq_true rfl) dX9_flat_143 ?_
      have k12 : 0 ≤ st.2 2 ((6 * v1) + v5) ∧ st.2 2 ((6 * v1) + v5) ≤ 1000 := hO9.2 2 ((6 * v1) + v5)
      refine f_i2l C ⟨by omega, by omega⟩ dX9_flat_144 ?_
      refine f_lmul C dX9_flat_145 ?_
      have k13 := mulp v6 (st.2 2 ((6 * v1) + v5)) (A := 24000000000000) (B := 1000) (C := 24000000000000000) (by decide) ⟨by omega, by omega⟩ ⟨by omega, by omega⟩
      refine f_lload C 8 dX9_flat_146 rfl ?_
      refine f_ldiv C ⟨by omega, by omega⟩ ⟨by omega, by omega⟩ dX9_flat_148 ?_
      have k14 := edivb (v6 * (st.2 2 ((6 * v1) + v5))) v8 (by omega) (by omega)
      refine f_lstore C (lv' := [(12, .long (zJ ((v6 * (st.2 2 ((6 * v1) + v5))) / v8))), (0, .ref (b 0)), (1, .int (zI v1)), (5, .int (zI v5)), (6, .long (zJ v6)), (8, .long (zJ v8)), (10, .long (zJ v10))]) dX9_flat_149 (Nat.le_of_ble_eq_true rfl) rfl ?_
      refine f_iconst C dX9_flat_151 ?_
      refine f_istore C (lv' := [(14, .int (zI 0)), (12, .long (zJ ((v6 * (st.2 2 ((6 * v1) + v5))) / v8))), (0, .ref (b 0)), (1, .int (zI v1)), (5, .int (zI v5)), (6, .long (zJ v6)), (8, .long (zJ v8)), (10, .long (zJ v10))]) dX9_flat_152 (Nat.le_of_ble_eq_true rfl) rfl ?_
      refine f_iconst C dX9_flat_154 ?_
      refine f_istore C (lv' := [(15, .int (zI 0)), (14, .int (zI 0)), (12, .long (zJ ((v6 * (st.2 2 ((6 * v1) + v5))) / v8))), (0, .ref (b 0)), (1, .int (zI v1)), (5, .int (zI v5)), (6, .long (zJ v6)), (8, .long (zJ v8)), (10, .long (zJ v10))]) dX9_flat_155 (Nat.le_of_ble_eq_true rfl) rfl ?_
      refine f_re (lv' := [(0, .ref (b 0)), (1, .int (zI v1)), (5, .int (zI v5)), (10, .long (zJ v10)), (12, .long (zJ ((v6 * (st.2 2 ((6 * v1) + v5))) / v8))), (14, .int (zI 0)), (15, .int (zI 0))]) [3, 4, 5, 8, 2, 1, 0] rfl ?_
      exact v_X9_flat_157 hX v1 v5 v10 ((v6 * (st.2 2 ((6 * v1) + v5))) / v8) ⟨by omega, by omega⟩ ⟨by omega, by omega⟩ ⟨by omega, by omega⟩ ⟨by omega, by omega⟩ C hret hlk (Int.toNat (v5 - (0 : Int)) + 1) 0 0 st ⟨by omega, by omega⟩ ⟨by omega, by omega⟩ (show 0 ≤ v1 ∧ v1 ≤ 3 by omega) (show 0 ≤ v5 ∧ v5 ≤ 5 by omega) (show 0 ≤ ((v6 * (st.2 2 ((6 * v1) + v5))) / v8) ∧ ((v6 * (st.2 2 ((6 * v1) + v5))) / v8) ≤ 24000000000000000 by omega) (show 0 ≤ (0 : Int) ∧ (0 : Int) ≤ v5 by omega) (show 0 ≤ (0 : Int) ∧ (0 : Int) ≤ (0 : Int) by omega) (show (-1000000000000000000) ≤ v10 ∧ v10 ≤ 1000000000000000000 by omega) (show v5 - (0 : Int) < ((Int.toNat (v5 - (0 : Int)) + 1 : Nat) : Int) by omega) (fun z u e1 e2 => hp z u (by rw [F_X9_flat_89, if_pos c11]; exact e1) (by rw [F_X9_flat_89, if_pos c11]; exact e2))
    refine f_lload C 10 dX9_flat_100 rfl ?_
    refine f_lload C 6 dX9_flat_102 rfl ?_
    refine f_aload_n C 0 dX9_flat_104 rfl rfl ?_
    refine f_get C hin9 0 2 rfl rfl (Nat.le_of_ble_eq_true rfl) (by decide +kernel) rfl rfl dX9_flat_105 ?_
    refine f_bipush C dX9_flat_108 (by decide) ?_
    refine f_iload_n C 1 dX9_flat_110 rfl rfl ?_
    refine f_imul C dX9_flat_111 ?_
    refine f_iload C 12 dX9_flat_112 rfl ?_
    refine f_iadd C dX9_flat_114 ?_
    refine f_iald C (f := st.2 2) 2 0 rfl rfl ⟨by omega, by omega⟩ (Nat.le_of_ble_eq_true rfl) dX9_flat_115 ?_
    have k15 : 0 ≤ st.2 2 ((6 * v1) + v12) ∧ st.2 2 ((6 * v1) + v12) ≤ 1000 := hO9.2 2 ((6 * v1) + v12)
    refine f_i2l C ⟨by omega, by omega⟩ dX9_flat_116 ?_
    refine f_lmul C dX9_flat_117 ?_
    have k16 := mulp v6 (st.2 2 ((6 * v1) + v12)) (A := 24000000000000) (B := 1000) (C := 24000000000000000) (by decide) ⟨by omega, by omega⟩ ⟨by omega, by omega⟩
    refine f_lload C 8 dX9_flat_118 rfl ?_
    refine f_ldiv C ⟨by omega, by omega⟩ ⟨by omega, by omega⟩ dX9_flat_120 ?_
    have k17 := edivb (v6 * (st.2 2 ((6 * v1) + v12))) v8 (by omega) (by omega)
    refine f_lsub C dX9_flat_121 ?_
    refine f_lstore C (lv' := [(10, .long (zJ (v10 - ((v6 * (st.2 2 ((6 * v1) + v12))) / v8)))), (0, .ref (b 0)), (1, .int (zI v1)), (5, .int (zI v5)), (6, .long (zJ v6)), (8, .long (zJ v8)), (12, .int (zI v12))]) dX9_flat_122 (Nat.le_of_ble_eq_true rfl) rfl ?_
    refine f_iinc C (lv' := [(12, .int (zI (v12 + 1))), (10, .long (zJ (v10 - ((v6 * (st.2 2 ((6 * v1) + v12))) / v8)))), (0, .ref (b 0)), (1, .int (zI v1)), (5, .int (zI v5)), (6, .long (zJ v6)), (8, .long (zJ v8))]) 6 dX9_flat_124 rfl (Nat.le_of_ble_eq_true rfl) rfl ?_
    refine f_goto C 89 dX9_flat_127 (by decide) ?_
    refine f_re (lv' := [(0, .ref (b 0)), (1, .int (zI v1)), (5, .int (zI v5)), (6, .long (zJ v6)), (8, .long (zJ v8)), (10, .long (zJ (v10 - ((v6 * (st.2 2 ((6 * v1) + v12))) / v8)))), (12, .int (zI (v12 + 1)))]) [2, 3, 4, 5, 6, 1, 0] rfl ?_
    exact ih (v10 - ((v6 * (st.2 2 ((6 * v1) + v12))) / v8)) (v12 + 1) st ⟨by omega, by omega⟩ ⟨by omega, by omega⟩ (show 0 ≤ v1 ∧ v1 ≤ 3 by omega) (show 0 ≤ v5 ∧ v5 ≤ 5 by omega) (show 0 ≤ v6 ∧ v6 ≤ 24000000000000 by omega) (show 0 < v8 ∧ v8 ≤ 6000 by omega) (show 0 ≤ (v12 + 1) ∧ (v12 + 1) ≤ 6 by omega) (show -(24000000000000000 * (v12 + 1)) ≤ (v10 - ((v6 * (st.2 2 ((6 * v1) + v12))) / v8)) ∧ (v10 - ((v6 * (st.2 2 ((6 * v1) + v12))) / v8)) ≤ 24000000000000 by omega) (show 6 - (v12 + 1) < ((n : Nat) : Int) by omega) (fun z u e1 e2 => hp z u (by rw [F_X9_flat_89, if_neg c11]; exact e1) (by rw [F_X9_flat_89, if_neg c11]; exact e2))
set_option maxRecDepth 100000 in
set_option maxHeartbeats 8000000 in
theorem v_X9_flat_29 {l : Launch} {D : va_G} {cI cJ cZ cB : ClassId} {b : Nat → Nat} {E : State → Prop} (hX : mHyp b E) (v1 v5 v6 : Int) (hv1 : in32 v1) (hv5 : in32 v5) (hv6 : in64 v6) {p : Program} {e : Env} {s : State} {m : MethodId} {args : Array Value} {below : List Frame} {meth : Method} {c : Code} (C : fC p m c cX9_flat 16 s args wsX9_flat yX9_flat.cls D (fTys cI cJ cZ cB) E (mA b)) (hret : meth.sig.returnType = (some .long)) (hlk : meth.locks = false) {post : Int → fS → Prop} : ∀ (n : Nat) (v8 v10 : Int) (st : fS), in64 v8 → in32 v10 → (0 ≤ v1 ∧ v1 ≤ 3) → (0 ≤ v5 ∧ v5 ≤ 5) → (v6 = -9223372036854775808 ∨ (-24 ≤ v6 ∧ v6 ≤ 24000000000000)) → (0 ≤ v10 ∧ v10 ≤ 6) → (0 ≤ v8 ∧ v8 ≤ 1000 * v10) → 6 - v10 < n → (∀ (z : Int) (u : fS), z = (F_X9_flat_29 v1 v5 v6 n v8 v10 st).1 → u = (F_X9_flat_29 v1 v5 v6 n v8 v10 st).2 → post z u) → fV D (wM cI cJ cZ cB b) mOk (mA b) 16 p l e rm_X9_flat s m args below meth c 0 0 (fMQ below (fQl D (wM cI cJ cZ cB b) mOk (mA b) post) args s (mA b)) st 29 [(0, .ref (b 0)), (1, .int (zI v1)), (5, .int (zI v5)), (6, .long (zJ v6)), (8, .long (zJ v8)), (10, .int (zI v10))] [] := by
  have hin9 : ∀ w ∈ u_ws RX9 TX9 43, w ∈ wsX9_flat := by decide +kernel
  intro n
  induction n with
  | zero =>
    intro v8 v10 st hv8 hv10 i0 i1 i2 i3 i4 hm hp
    omega
  | succ n ih =>
    intro v8 v10 st hv8 hv10 i0 i1 i2 i3 i4 hm hp
    refine f_iload C 10 dX9_flat_29 rfl ?_
    refine f_aload_n C 0 dX9_flat_31 rfl rfl ?_
    refine f_get C hin9 0 1 rfl rfl (Nat.le_of_ble_eq_true rfl) (by decide +kernel) rfl rfl dX9_flat_32 ?_
    refine f_iload_n C 1 dX9_flat_35 rfl rfl ?_
    refine f_iald C (f := st.2 1) 1 0 rfl rfl ⟨by omega, by omega⟩ (Nat.le_of_ble_eq_true rfl) dX9_flat_36 ?_
    refine f_ok (fun hO18 => ?_)
    have k19 : 0 ≤ st.2 1 v1 ∧ st.2 1 v1 ≤ 6 := hO18.2 1 v1
    refine f_icmp_ge C 64 ⟨by omega, by omega⟩ ⟨by omega, by omega⟩ dX9_flat_37 (by decide) (fun c20 => ?_) (fun c20 => ?_)
    · refine f_lload C 6 dX9_flat_64 rfl ?_
      refine f_lconst C (z := 0) dX9_flat_66 rfl ?_
      refine f_lc_if_lt C 78 ⟨by omega, by omega⟩ ⟨by decide, by decide⟩ dX9_flat_67 dX9_flat_68 (by decide) (fun c21 => ?_) (fun c21 => ?_)
      · refine f_ldc2 C (v := (-9223372036854775808)) (z := (-9223372036854775808)) (by decide +kernel) (by decide) dX9_flat_78 ?_
        exact f_lret C hret hlk dX9_flat_81 ⟨by decide, by decide⟩ (hp _ _ (by rw [F_X9_flat_29, if_pos c20, if_pos c21]) (by rw [F_X9_flat_29, if_pos c20, if_pos c21]))
      refine f_lload C 8 dX9_flat_71 rfl ?_
      refine f_lconst C (z := 0) dX9_flat_73 rfl ?_
      refine f_lc_if_ne C 82 ⟨by omega, by omega⟩ ⟨by decide, by decide⟩ dX9_flat_74 dX9_flat_75 (by decide) (fun c22 => ?_) (fun c22 => ?_)
      · refine f_lload C 6 dX9_flat_82 rfl ?_
        refine f_lstore C (lv' := [(10, .long (zJ v6)), (0, .ref (b 0)), (1, .int (zI v1)), (5, .int (zI v5)), (6, .long (zJ v6)), (8, .long (zJ v8))]) dX9_flat_84 (Nat.le_of_ble_eq_true rfl) rfl ?_
        refine f_iconst C dX9_flat_86 ?_
        refine f_istore C (lv' := [(12, .int (zI 0)), (10, .long (zJ v6)), (0, .ref (b 0)), (1, .int (zI v1)), (5, .int (zI v5)), (6, .long (zJ v6)), (8, .long (zJ v8))]) dX9_flat_87 (Nat.le_of_ble_eq_true rfl) rfl ?_
        refine f_re (lv' := [(0, .ref (b 0)), (1, .int (zI v1)), (5, .int (zI v5)), (6, .long (zJ v6)), (8, .long (zJ v8)), (10, .long (zJ v6)), (12, .int (zI 0))]) [2, 3, 4, 5, 6, 1, 0] rfl ?_
        exact v_X9_flat_89 hX v1 v5 v6 v8 ⟨by omega, by omega⟩ ⟨by omega, by omega⟩ ⟨by omega, by omega⟩ ⟨by omega, by omega⟩ C hret hlk (Int.toNat (6 - (0 : Int)) + 1) v6 0 st ⟨by omega, by omega⟩ ⟨by omega, by omega⟩ (show 0 ≤ v1 ∧ v1 ≤ 3 by omega) (show 0 ≤ v5 ∧ v5 ≤ 5 by omega) (show 0 ≤ v6 ∧ v6 ≤ 24000000000000 by omega) (show 0 < v8 ∧ v8 ≤ 6000 by omega) (show 0 ≤ (0 : Int) ∧ (0 : Int) ≤ 6 by omega) (show -(24000000000000000 * (0 : Int)) ≤ v6 ∧ v6 ≤ 24000000000000 by omega) (show 6 - (0 : Int) < ((Int.toNat (6 - (0 : Int)) + 1 : Nat) : Int) by omega) (fun z u e1 e2 => hp z u (by rw [F_X9_flat_29, if_pos c20, if_neg c21, if_neg c22]; exact e1) (by rw [F_X9_flat_29, if_pos c20, if_neg c21, if_neg c22]; exact e2))
      refine f_ldc2 C (v := (-9223372036854775808)) (z := (-9223372036854775808)) (by decide +kernel) (by decide) dX9_flat_78 ?_
      exact f_lret C hret hlk dX9_flat_81 ⟨by decide, by decide⟩ (hp _ _ (by rw [F_X9_flat_29, if_pos c20, if_neg c21, if_pos c22]) (by rw [F_X9_flat_29, if_pos c20, if_neg c21, if_pos c22]))
    refine f_lload C 8 dX9_flat_40 rfl ?_
    refine f_aload_n C 0 dX9_flat_42 rfl rfl ?_
    refine f_get C hin9 0 2 rfl rfl (Nat.le_of_ble_eq_true rfl) (by decide +kernel) rfl rfl dX9_flat_43 ?_
    refine f_bipush C dX9_flat_46 (by decide) ?_
    refine f_iload_n C 1 dX9_flat_48 rfl rfl ?_
    refine f_imul C dX9_flat_49 ?_
    refine f_iload C 10 dX9_flat_50 rfl ?_
    refine f_iadd C dX9_flat_52 ?_
    refine f_iald C (f := st.2 2) 2 0 rfl rfl ⟨by omega, by omega⟩ (Nat.le_of_ble_eq_true rfl) dX9_flat_53 ?_
    have k23 : 0 ≤ st.2 2 ((6 * v1) + v10) ∧ st.2 2 ((6 * v1) + v10) ≤ 1000 := hO18.2 2 ((6 * v1) + v10)
    refine f_i2l C ⟨by omega, by omega⟩ dX9_flat_54 ?_
    refine f_ladd C dX9_flat_55 ?_
    refine f_lstore C (lv' := [(8, .long (zJ (v8 + (st.2 2 ((6 * v1) + v10))))), (0, .ref (b 0)), (1, .int (zI v1)), (5, .int (zI v5)), (6, .long (zJ v6)), (10, .int (zI v10))]) dX9_flat_56 (Nat.le_of_ble_eq_true rfl) rfl ?_
    refine f_iinc C (lv' := [(10, .int (zI (v10 + 1))), (8, .long (zJ (v8 + (st.2 2 ((6 * v1) + v10))))), (0, .ref (b 0)), (1, .int (zI v1)), (5, .int (zI v5)), (6, .long (zJ v6))]) 5 dX9_flat_58 rfl (Nat.le_of_ble_eq_true rfl) rfl ?_
    refine f_goto C 29 dX9_flat_61 (by decide) ?_
    refine f_re (lv' := [(0, .ref (b 0)), (1, .int (zI v1)), (5, .int (zI v5)), (6, .long (zJ v6)), (8, .long (zJ (v8 + (st.2 2 ((6 * v1) + v10))))), (10, .int (zI (v10 + 1)))]) [2, 3, 4, 5, 1, 0] rfl ?_
    exact ih (v8 + (st.2 2 ((6 * v1) + v10))) (v10 + 1) st ⟨by omega, by omega⟩ ⟨by omega, by omega⟩ (show 0 ≤ v1 ∧ v1 ≤ 3 by omega) (show 0 ≤ v5 ∧ v5 ≤ 5 by omega) (show v6 = -9223372036854775808 ∨ (-24 ≤ v6 ∧ v6 ≤ 24000000000000) by omega) (show 0 ≤ (v10 + 1) ∧ (v10 + 1) ≤ 6 by omega) (show 0 ≤ (v8 + (st.2 2 ((6 * v1) + v10))) ∧ (v8 + (st.2 2 ((6 * v1) + v10))) ≤ 1000 * (v10 + 1) by omega) (show 6 - (v10 + 1) < ((n : Nat) : Int) by omega) (fun z u e1 e2 => hp z u (by rw [F_X9_flat_29, if_neg c20]; exact e1) (by rw [F_X9_flat_29, if_neg c20]; exact e2))
set_option maxRecDepth 100000 in
set_option maxHeartbeats 8000000 in
theorem c_X9_flat {l : Launch} {D : va_G} {cI cJ cZ cB : ClassId} {b : Nat → Nat} {E : State → Prop} (hX : mHyp b E) (p1 p2 p3 p5 : Int) (h1 : in32 p1) (h2 : in32 p2) (h3 : in64 p3) (h5 : in32 p5) (st : fS) (hI : mSteps st) : mMl l D cI cJ cZ cB b E yX9_flat wsX9_flat rm_X9_flat [.ref (b 0), .int (zI p1), .int (zI p2), .long (zJ p3), .int (zI p5)] st (fun z u => z = (F_X9_flat p1 p2 p3 p5 st).1 ∧ u = (F_X9_flat p1 p2 p3 p5 st).2) := by
  refine fB_open (cc := cX9_flat) (maxL := 16) (ret := (some .long)) (by decide) rfl (Nat.le_of_ble_eq_true rfl) hX.2 ?_
  intro p e s m below meth c C hret hlk
  have hp : ∀ (z : Int) (u : fS), z = (F_X9_flat p1 p2 p3 p5 st).1 → u = (F_X9_flat p1 p2 p3 p5 st).2 → z = (F_X9_flat p1 p2 p3 p5 st).1 ∧ u = (F_X9_flat p1 p2 p3 p5 st).2 := fun z u h1 h2 => ⟨h1, h2⟩
  refine f_aload_n C 0 dX9_flat_0 rfl rfl ?_
  refine f_iload_n C 1 dX9_flat_1 rfl rfl ?_
  refine f_iload C 5 dX9_flat_2 rfl ?_
  refine f_calli C (c_X9_isFlat hX p1 p5 ⟨by omega, by omega⟩ ⟨by omega, by omega⟩ st) (cwV 2 C.1.2.2.2.2 gX9_flat_X9_isFlat rfl rfl rfl (by decide +kernel) ⟨Nat.le_of_ble_eq_true rfl, Nat.le_of_ble_eq_true rfl⟩) 0 rfl rfl rfl rfl rfl (Nat.le_of_ble_eq_true rfl) ⟨Nat.zero_le _, Nat.zero_le _⟩ dX9_flat_4 (fun z u hz24 hu => ?_)
  obtain ⟨qz24, hu, rz24⟩ := hu; replace hu := hu.symm; subst hu; subst qz24
  refine f_if_ne C 14 ⟨by omega, by omega⟩ dX9_flat_7 (by decide) (fun c25 => ?_) (fun c25 => ?_)
  · refine f_aload_n C 0 dX9_flat_14 rfl rfl ?_
    refine f_iload_n C 1 dX9_flat_15 rfl rfl ?_
    refine f_iload_n C 2 dX9_flat_16 rfl rfl ?_
    refine f_lload_n C 3 dX9_flat_17 rfl rfl ?_
    refine f_calll C (c_X9_bill hX p1 p2 p3 ⟨by omega, by omega⟩ ⟨by omega, by omega⟩ ⟨by omega, by omega⟩ st hI) (cwV 3 C.1.2.2.2.2 gX9_flat_X9_bill rfl rfl rfl (by decide +kernel) ⟨Nat.le_of_ble_eq_true rfl, Nat.le_of_ble_eq_true rfl⟩) 0 rfl rfl rfl rfl rfl (Nat.le_of_ble_eq_true rfl) ⟨Nat.zero_le _, Nat.zero_le _⟩ dX9_flat_18 (fun z u hz26 hu => ?_)
    obtain ⟨qz26, hu, rz26⟩ := hu; replace hu := hu.symm; subst hu; subst qz26
    refine f_lstore C (lv' := [(6, .long (zJ ((F_X9_bill p1 p2 p3 st).1))), (0, .ref (b 0)), (1, .int (zI p1)), (2, .int (zI p2)), (3, .long (zJ p3)), (5, .int (zI p5))]) dX9_flat_21 (Nat.le_of_ble_eq_true rfl) rfl ?_
    refine f_lconst C (z := 0) dX9_flat_23 rfl ?_
    refine f_lstore C (lv' := [(8, .long (zJ 0)), (6, .long (zJ ((F_X9_bill p1 p2 p3 st).1))), (0, .ref (b 0)), (1, .int (zI p1)), (2, .int (zI p2)), (3, .long (zJ p3)), (5, .int (zI p5))]) dX9_flat_24 (Nat.le_of_ble_eq_true rfl) rfl ?_
    refine f_iconst C dX9_flat_26 ?_
    refine f_istore C (lv' := [(10, .int (zI 0)), (8, .long (zJ 0)), (6, .long (zJ ((F_X9_bill p1 p2 p3 st).1))), (0, .ref (b 0)), (1, .int (zI p1)), (2, .int (zI p2)), (3, .long (zJ p3)), (5, .int (zI p5))]) dX9_flat_27 (Nat.le_of_ble_eq_true rfl) rfl ?_
    refine f_re (lv' := [(0, .ref (b 0)), (1, .int (zI p1)), (5, .int (zI p5)), (6, .long (zJ ((F_X9_bill p1 p2 p3 st).1))), (8, .long (zJ 0)), (10, .int (zI 0))]) [3, 4, 7, 2, 1, 0] rfl ?_
    exact v_X9_flat_29 hX p1 p5 ((F_X9_bill p1 p2 p3 st).1) ⟨by omega, by omega⟩ ⟨by omega, by omega⟩ ⟨by omega, by omega⟩ C hret hlk (Int.toNat (6 - (0 : Int)) + 1) 0 0 ((F_X9_bill p1 p2 p3 st).2) ⟨by omega, by omega⟩ ⟨by omega, by omega⟩ (show 0 ≤ p1 ∧ p1 ≤ 3 by omega) (show 0 ≤ p5 ∧ p5 ≤ 5 by omega) (show ((F_X9_bill p1 p2 p3 st).1) = -9223372036854775808 ∨ (-24 ≤ ((F_X9_bill p1 p2 p3 st).1) ∧ ((F_X9_bill p1 p2 p3 st).1) ≤ 24000000000000) by omega) (show 0 ≤ (0 : Int) ∧ (0 : Int) ≤ 6 by omega) (show 0 ≤ (0 : Int) ∧ (0 : Int) ≤ 1000 * (0 : Int) by omega) (show 6 - (0 : Int) < ((Int.toNat (6 - (0 : Int)) + 1 : Nat) : Int) by omega) (fun z u e1 e2 => hp z u (by rw [F_X9_flat, if_neg c25]; exact e1) (by rw [F_X9_flat, if_neg c25]; exact e2))
  refine f_ldc2 C (v := (-9223372036854775808)) (z := (-9223372036854775808)) (by decide +kernel) (by decide) dX9_flat_10 ?_
  exact f_lret C hret hlk dX9_flat_13 ⟨by decide, by decide⟩ (hp _ _ (by rw [F_X9_flat, if_pos c25]) (by rw [F_X9_flat, if_pos c25]))

def F_X9_issue (p1 p2 p3 : Int) (st : fS) : Int × fS := if 0 ≤ ((F_X9_bill p1 p2 p3 st).1) then (((F_X9_bill p1 p2 p3 st).1) - (((F_X9_bill p1 p2 p3 st).2).2 30 ((120 * p1) + p2)), sR ((F_X9_bill p1 p2 p3 st).2) 30 (f_up (((F_X9_bill p1 p2 p3 st).2).2 30) ((120 * p1) + p2) ((F_X9_bill p1 p2 p3 st).1))) else ((F_X9_bill p1 p2 p3 st).1, (F_X9_bill p1 p2 p3 st).2)
abbrev rm_X9_issue : Room := { frames := 3, cells := 0, slots := 0, locals := 84 }
set_option maxRecDepth 100000 in
set_option maxHeartbeats 8000000 in
theorem c_X9_issue {l : Launch} {D : va_G} {cI cJ cZ cB : ClassId} {b : Nat → Nat} {E : State → Prop} (hX : mHyp b E) (p1 p2 p3 : Int) (h1 : in32 p1) (h2 : in32 p2) (h3 : in64 p3) (st : fS) (hI : mSteps st) : mMl l D cI cJ cZ cB b E yX9_issue wsX9_issue rm_X9_issue [.ref (b 0), .int (zI p1), .int (zI p2), .long (zJ p3)] st (fun z u => z = (F_X9_issue p1 p2 p3 st).1 ∧ u = (F_X9_issue p1 p2 p3 st).2) := by
  refine fB_open (cc := cX9_issue) (maxL := 9) (ret := (some .long)) (by decide) rfl (Nat.le_of_ble_eq_true rfl) hX.2 ?_
  intro p e s m below meth c C hret hlk
  have hin9 : ∀ w ∈ u_ws RX9 TX9 43, w ∈ wsX9_issue := by decide +kernel
  have hp : ∀ (z : Int) (u : fS), z = (F_X9_issue p1 p2 p3 st).1 → u = (F_X9_issue p1 p2 p3 st).2 → z = (F_X9_issue p1 p2 p3 st).1 ∧ u = (F_X9_issue p1 p2 p3 st).2 := fun z u h1 h2 => ⟨h1, h2⟩
  refine f_aload_n C 0 dX9_issue_0 rfl rfl ?_
  refine f_iload_n C 1 dX9_issue_1 rfl rfl ?_
  refine f_iload_n C 2 dX9_issue_2 rfl rfl ?_
  refine f_lload_n C 3 dX9_issue_3 rfl rfl ?_
  refine f_calll C (c_X9_bill hX p1 p2 p3 ⟨by omega, by omega⟩ ⟨by omega, by omega⟩ ⟨by omega, by omega⟩ st hI) (cwV 3 C.1.2.2.2.2 gX9_issue_X9_bill rfl rfl rfl (by decide +kernel) ⟨Nat.le_of_ble_eq_true rfl, Nat.le_of_ble_eq_true rfl⟩) 0 rfl rfl rfl rfl rfl (Nat.le_of_ble_eq_true rfl) ⟨Nat.zero_le _, Nat.zero_le _⟩ dX9_issue_4 (fun z u hz1 hu => ?_)
  obtain ⟨qz1, hu, rz1⟩ := hu; replace hu := hu.symm; subst hu; subst qz1
  refine f_lstore C (lv' := [(5, .long (zJ ((F_X9_bill p1 p2 p3 st).1))), (0, .ref (b 0)), (1, .int (zI p1)), (2, .int (zI p2)), (3, .long (zJ p3))]) dX9_issue_7 (Nat.le_of_ble_eq_true rfl) rfl ?_
  refine f_lload C 5 dX9_issue_9 rfl ?_
  refine f_lconst C (z := 0) dX9_issue_11 rfl ?_
  refine f_lc_if_ge C 19 ⟨by omega, by omega⟩ ⟨by decide, by decide⟩ dX9_issue_12 dX9_issue_13 (by decide) (fun c2 => ?_) (fun c2 => ?_)
  · refine f_lload C 5 dX9_issue_19 rfl ?_
    refine f_aload_n C 0 dX9_issue_21 rfl rfl ?_
    refine f_get C hin9 0 30 rfl rfl (Nat.le_of_ble_eq_true rfl) (by decide +kernel) rfl rfl dX9_issue_22 ?_
    refine f_bipush C dX9_issue_25 (by decide) ?_
    refine f_iload_n C 1 dX9_issue_27 rfl rfl ?_
    refine f_imul C dX9_issue_28 ?_
    refine f_iload_n C 2 dX9_issue_29 rfl rfl ?_
    refine f_iadd C dX9_issue_30 ?_
    refine f_lald C (f := ((F_X9_bill p1 p2 p3 st).2).2 30) 25 1 rfl rfl ⟨by omega, by omega⟩ (Nat.le_of_ble_eq_true rfl) dX9_issue_31 ?_
    refine f_ok (fun hO3 => ?_)
    have k4 : (-10000000000000000) ≤ ((F_X9_bill p1 p2 p3 st).2).2 30 ((120 * p1) + p2) ∧ ((F_X9_bill p1 p2 p3 st).2).2 30 ((120 * p1) + p2) ≤ 10000000000000000 := hO3.2 30 ((120 * p1) + p2)
    refine f_lsub C dX9_issue_32 ?_
    refine f_lstore C (lv' := [(7, .long (zJ (((F_X9_bill p1 p2 p3 st).1) - (((F_X9_bill p1 p2 p3 st).2).2 30 ((120 * p1) + p2))))), (5, .long (zJ ((F_X9_bill p1 p2 p3 st).1))), (0, .ref (b 0)), (1, .int (zI p1)), (2, .int (zI p2)), (3, .long (zJ p3))]) dX9_issue_33 (Nat.le_of_ble_eq_true rfl) rfl ?_
    refine f_aload_n C 0 dX9_issue_35 rfl rfl ?_
    refine f_get C hin9 0 30 rfl rfl (Nat.le_of_ble_eq_true rfl) (by decide +kernel) rfl rfl dX9_issue_36 ?_
    refine f_bipush C dX9_issue_39 (by decide) ?_
    refine f_iload_n C 1 dX9_issue_41 rfl rfl ?_
    refine f_imul C dX9_issue_42 ?_
    refine f_iload_n C 2 dX9_issue_43 rfl rfl ?_
    refine f_iadd C dX9_issue_44 ?_
    refine f_lload C 5 dX9_issue_45 rfl ?_
    refine f_last C (mD hX.1 cI cJ cZ cB) (u := sR ((F_X9_bill p1 p2 p3 st).2) 30 (f_up (((F_X9_bill p1 p2 p3 st).2).2 30) ((120 * p1) + p2) ((F_X9_bill p1 p2 p3 st).1))) (f := ((F_X9_bill p1 p2 p3 st).2).2 30) 25 1 rfl rfl ⟨by omega, by omega⟩ (Nat.le_of_ble_eq_true rfl) rfl (fun h => fOk_up h (r := 30) (show (-10000000000000000) ≤ ((F_X9_bill p1 p2 p3 st).1) ∧ ((F_X9_bill p1 p2 p3 st).1) ≤ 10000000000000000 by omega)) dX9_issue_47 ?_
    refine f_lload C 7 dX9_issue_48 rfl ?_
    exact f_lret C hret hlk dX9_issue_50 ⟨by omega, by omega⟩ (hp _ _ (by rw [F_X9_issue, if_pos c2]) (by rw [F_X9_issue, if_pos c2]))
  refine f_lload C 5 dX9_issue_16 rfl ?_
  exact f_lret C hret hlk dX9_issue_18 ⟨by omega, by omega⟩ (hp _ _ (by rw [F_X9_issue, if_neg c2]) (by rw [F_X9_issue, if_neg c2]))

def F_X9_put (p1 : Int) (st : fS) : fS := sN (sR st 42 (f_up (st.2 42) (st.1 41) p1)) 41 ((st.1 41) + 1)
abbrev rm_X9_put : Room := { frames := 0, cells := 0, slots := 0, locals := 0 }
set_option maxRecDepth 100000 in
set_option maxHeartbeats 8000000 in
theorem c_X9_put {l : Launch} {D : va_G} {cI cJ cZ cB : ClassId} {b : Nat → Nat} {E : State → Prop} (hX : mHyp b E) (p1 : Int) (h1 : in32 p1) (st : fS) (q1 : 0 ≤ p1 ∧ p1 ≤ 127) (q2 : st.1 41 ≤ 899) : mMv l D cI cJ cZ cB b E yX9_put wsX9_put rm_X9_put [.ref (b 0), .int (zI p1)] st (fun u => u = F_X9_put p1 st) := by
  refine fB_open (cc := cX9_put) (maxL := 2) (ret := none) (by decide) rfl (Nat.le_of_ble_eq_true rfl) hX.2 ?_
  intro p e s m below meth c C hret hlk
  have hin9 : ∀ w ∈ u_ws RX9 TX9 43, w ∈ wsX9_put := by decide +kernel
  have hp : ∀ u : fS, u = F_X9_put p1 st → u = F_X9_put p1 st := fun _ h => h
  refine f_aload_n C 0 dX9_put_0 rfl rfl ?_
  refine f_get C hin9 0 42 rfl rfl (Nat.le_of_ble_eq_true rfl) (by decide +kernel) rfl rfl dX9_put_1 ?_
  refine f_aload_n C 0 dX9_put_4 rfl rfl ?_
  refine f_ok (fun hO1 => ?_)
  have k2 : 0 ≤ st.1 41 ∧ st.1 41 ≤ 900 := hO1.1 41
  refine f_get C (v := .int (zI (st.1 41))) hin9 0 41 rfl rfl (Nat.le_of_ble_eq_true rfl) (by decide +kernel) rfl rfl dX9_put_5 ?_
  refine f_iload_n C 1 dX9_put_8 rfl rfl ?_
  refine f_i2b C ⟨by omega, by omega⟩ dX9_put_9 ?_
  refine f_bast C (mD hX.1 cI cJ cZ cB) (u := sR st 42 (f_up (st.2 42) (st.1 41) p1)) (f := st.2 42) 34 3 rfl rfl ⟨by omega, by omega⟩ (Nat.le_of_ble_eq_true rfl) ⟨by omega, by omega⟩ rfl (fun h => fOk_up h (r := 42) (show (-128) ≤ p1 ∧ p1 ≤ 127 by omega)) dX9_put_10 ?_
  refine f_aload_n C 0 dX9_put_11 rfl rfl ?_
  refine f_dup C dX9_put_12 rfl ?_
  refine f_ok (fun hO3 => ?_)
  have k4 : 0 ≤ st.1 41 ∧ st.1 41 ≤ 900 := hO3.1 41
  refine f_get C (v := .int (zI (st.1 41))) hin9 0 41 rfl rfl (Nat.le_of_ble_eq_true rfl) (by decide +kernel) rfl rfl dX9_put_13 ?_
  refine f_iconst C dX9_put_16 ?_
  refine f_iadd C dX9_put_17 ?_
  refine f_put C (mD hX.1 cI cJ cZ cB) hin9 tyX9 tyX9_ok nmX9 0 41 rfl rfl (Nat.le_of_ble_eq_true rfl) (by decide +kernel) rfl rfl (ty := .int) (by decide +kernel) rfl rfl (Nat.le_of_ble_eq_true rfl) (u := sN (sR st 42 (f_up (st.2 42) (st.1 41) p1)) 41 ((st.1 41) + 1)) rfl (fun h => fOk_N h (show 0 ≤ ((st.1 41) + 1) ∧ ((st.1 41) + 1) ≤ 900 by omega)) dX9_put_18 ?_
  exact f_vret C hret hlk dX9_put_21 (hp _ (by rw [F_X9_put]))

theorem pw_pos {p : Int} {j : Nat} (h : p < (10 : Int) ^ j) (h0 : 0 < p) : 1 ≤ j := by
  cases j with
  | zero => exact absurd h (by show ¬ p < 1; omega)
  | succ j => omega
theorem pw_div {p : Int} {j : Nat} (h : p < (10 : Int) ^ j) (hj : 1 ≤ j) : p / 10 < (10 : Int) ^ (j - 1) := by
  obtain ⟨k, rfl⟩ : ∃ k, j = k + 1 := ⟨j - 1, by omega⟩
  rw [Int.pow_succ] at h
  show p / 10 < (10 : Int) ^ k
  omega
theorem pw_one {j : Nat} (hj : 1 ≤ j) : (1 : Int) < (10 : Int) ^ j := by
  induction j with
  | zero => omega
  | succ k ih =>
    rw [Int.pow_succ]
    cases k with
    | zero => show (1 : Int) < 1 * 10; omega
    | succ k => have := ih (by omega); omega
theorem pw_ent {v3 v1 : Int} {j : Nat} (h : 1 ≤ v3 ∧ (v3 = 1 ∨ v3 ≤ v1)) (a1 : v1 < (10 : Int) ^ j) (a2 : 1 ≤ j) : v3 < (10 : Int) ^ j := by
  have := pw_one a2
  omega
theorem pw_1 {x w : Int} (h : x ≤ 9) (h2 : w ≤ 899) : ∃ j : Nat, x < (10 : Int) ^ j ∧ 1 ≤ j ∧ w + (j : Int) ≤ 900 := ⟨1, by show x < 10; omega, by decide, by omega⟩
theorem pw_7 {x w : Int} (h : x ≤ 9999999) (h2 : w ≤ 893) : ∃ j : Nat, x < (10 : Int) ^ j ∧ 1 ≤ j ∧ w + (j : Int) ≤ 900 := ⟨7, by show x < 10000000; omega, by decide, by omega⟩
theorem pw_13 {x w : Int} (h : x ≤ 9999999999999) (h2 : w ≤ 887) : ∃ j : Nat, x < (10 : Int) ^ j ∧ 1 ≤ j ∧ w + (j : Int) ≤ 900 := ⟨13, by show x < 10000000000000; omega, by decide, by omega⟩
theorem tdiv10_le {q v : Int} (h1 : 1 ≤ q) (h2 : q ≤ Int.tdiv v 10) : q * 10 ≤ v := by
  have a := Int.tmod_add_mul_tdiv v 10
  have b := tmodb v (B := 10) (by decide)
  have c : 0 ≤ v := by omega
  have d := Int.tmod_nonneg 10 c
  omega

def F_X9_putNumber_24 (v1 : Int) : Nat → Int → fS → fS
  | 0, _, st => st
  | n + 1, v5, st => if v5 ≤ 0 then st else F_X9_putNumber_24 v1 (n) (v5 / 10) (F_X9_put ((Int.tmod (Int.tdiv v1 v5) 10) + 48) st)

def F_X9_putNumber_2 (v1 : Int) : Nat → Int → fS → fS
  | 0, _, st => st
  | n + 1, v3, st => if (Int.tdiv v1 10) < v3 then F_X9_putNumber_24 v1 (Int.toNat (v3) + 1) v3 st else F_X9_putNumber_2 v1 (n) (v3 * 10) st

def F_X9_putNumber (p1 : Int) (st : fS) : fS := F_X9_putNumber_2 p1 (Int.toNat (1000000000001 - (1 : Int)) + 1) 1 st
abbrev rm_X9_putNumber : Room := { frames := 1, cells := 0, slots := 0, locals := 21 }
set_option maxRecDepth 100000 in
set_option maxHeartbeats 8000000 in
theorem v_X9_putNumber_24 {l : Launch} {D : va_G} {cI cJ cZ cB : ClassId} {b : Nat → Nat} {E : State → Prop} (hX : mHyp b E) (v1 : Int) (hv1 : in64 v1) {p : Program} {e : Env} {s : State} {m : MethodId} {args : Array Value} {below : List Frame} {meth : Method} {c : Code} (C : fC p m c cX9_putNumber 7 s args wsX9_putNumber yX9_putNumber.cls D (fTys cI cJ cZ cB) E (mA b)) (hret : meth.sig.returnType = none) (hlk : meth.locks = false) {post : fS → Prop} : ∀ (n : Nat) (v5 : Int) (st : fS), in64 v5 → ((-1) ≤ v1 ∧ v1 ≤ 1000000000000) → (0 ≤ v5 ∧ v5 ≤ 1000000000000) → (∃ j : Nat, v5 < (10 : Int) ^ j ∧ st.1 41 + (j : Int) ≤ 900) → v5 < n → (∀ u : fS, u = F_X9_putNumber_24 v1 n v5 st → post u) → fV D (wM cI cJ cZ cB b) mOk (mA b) 7 p l e rm_X9_putNumber s m args below meth c 0 0 (fMQ below (fQv D (wM cI cJ cZ cB b) mOk (mA b) post) args s (mA b)) st 24 [(0, .ref (b 0)), (1, .long (zJ v1)), (5, .long (zJ v5))] [] := by
  intro n
  induction n with
  | zero =>
    intro v5 st hv5 i0 i1 i2 hm hp
    omega
  | succ n ih =>
    intro v5 st hv5 i0 i1 i2 hm hp
    refine f_lload C 5 dX9_putNumber_24 rfl ?_
    refine f_lconst C (z := 0) dX9_putNumber_26 rfl ?_
    refine f_lc_if_le C 58 ⟨by omega, by omega⟩ ⟨by decide, by decide⟩ dX9_putNumber_27 dX9_putNumber_28 (by decide) (fun c1 => ?_) (fun c1 => ?_)
    · exact f_vret C hret hlk dX9_putNumber_58 (hp _ (by rw [F_X9_putNumber_24, if_pos c1]))
    obtain ⟨j, hj1, hj2⟩ := i2
    have hj3 : 1 ≤ j := pw_pos hj1 (by omega)
    have hj4 := pw_div hj1 hj3
    refine f_aload_n C 0 dX9_putNumber_31 rfl rfl ?_
    refine f_lload_n C 1 dX9_putNumber_32 rfl rfl ?_
    refine f_lload C 5 dX9_putNumber_33 rfl ?_
    refine f_ldivT C ⟨by omega, by omega⟩ ⟨by omega, by omega⟩ (by omega) dX9_putNumber_35 ?_
    have k2 := tdivb v1 v5 (B := 1000000000000) ⟨by omega, by omega⟩
    refine f_ldc2 C (v := 10) (z := 10) (by decide +kernel) (by decide) dX9_putNumber_36 ?_
    refine f_lremT C ⟨by omega, by omega⟩ ⟨by omega, by omega⟩ (by omega) dX9_putNumber_39 ?_
    have k3 := tmodb (Int.tdiv v1 v5) (B := 10) (by decide)
    refine f_l2i C dX9_putNumber_40 ?_
    refine f_bipush C dX9_putNumber_41 (by decide) ?_
    refine f_iadd C dX9_putNumber_43 ?_
    refine f_ok (fun hO4 => ?_)
    have k5 : 0 ≤ st.1 41 ∧ st.1 41 ≤ 900 := hO4.1 41
    refine f_callv C (c_X9_put hX ((Int.tmod (Int.tdiv v1 v5) 10) + 48) ⟨by omega, by omega⟩ st (show 0 ≤ ((Int.tmod (Int.tdiv v1 v5) 10) + 48) ∧ ((Int.tmod (Int.tdiv v1 v5) 10) + 48) ≤ 127 by omega) (show (st.1 41) ≤ 899 by omega)) (cwV 1 C.1.2.2.2.2 gX9_putNumber_X9_put rfl rfl rfl (by decide +kernel) ⟨Nat.le_of_ble_eq_true rfl, Nat.le_of_ble_eq_true rfl⟩) 0 rfl rfl rfl rfl rfl (Nat.le_of_ble_eq_true rfl) ⟨Nat.zero_le _, Nat.zero_le _⟩ dX9_putNumber_44 (fun u hu => ?_)
    replace hu := hu.symm; subst hu
    have k7 : (F_X9_put ((Int.tmod (Int.tdiv v1 v5) 10) + 48) st).1 41 = st.1 41 + 1 := rfl
    refine f_lload C 5 dX9_putNumber_47 rfl ?_
    refine f_ldc2 C (v := 10) (z := 10) (by decide +kernel) (by decide) dX9_putNumber_49 ?_
    refine f_ldiv C ⟨by omega, by omega⟩ ⟨by omega, by omega⟩ dX9_putNumber_52 ?_
    refine f_lstore C (lv' := [(5, .long (zJ (v5 / 10))), (0, .ref (b 0)), (1, .long (zJ v1))]) dX9_putNumber_53 (Nat.le_of_ble_eq_true rfl) rfl ?_
    refine f_goto C 24 dX9_putNumber_55 (by decide) ?_
    refine f_re (lv' := [(0, .ref (b 0)), (1, .long (zJ v1)), (5, .long (zJ (v5 / 10)))]) [1, 2, 0] rfl ?_
    exact ih (v5 / 10) (F_X9_put ((Int.tmod (Int.tdiv v1 v5) 10) + 48) st) ⟨by omega, by omega⟩ (show (-1) ≤ v1 ∧ v1 ≤ 1000000000000 by omega) (show 0 ≤ (v5 / 10) ∧ (v5 / 10) ≤ 1000000000000 by omega) ⟨j - 1, hj4, by show st.1 41 + 1 + ((j - 1 : Nat) : Int) ≤ 900; omega⟩ (show (v5 / 10) < ((n : Nat) : Int) by omega) (fun u e2 => hp u (by rw [F_X9_putNumber_24, if_neg c1]; exact e2))
set_option maxRecDepth 100000 in
set_option maxHeartbeats 8000000 in
theorem v_X9_putNumber_2 {l : Launch} {D : va_G} {cI cJ cZ cB : ClassId} {b : Nat → Nat} {E : State → Prop} (hX : mHyp b E) (v1 : Int) (hv1 : in64 v1) {p : Program} {e : Env} {s : State} {m : MethodId} {args : Array Value} {below : List Frame} {meth : Method} {c : Code} (C : fC p m c cX9_putNumber 7 s args wsX9_putNumber yX9_putNumber.cls D (fTys cI cJ cZ cB) E (mA b)) (hret : meth.sig.returnType = none) (hlk : meth.locks = false) {post : fS → Prop} : ∀ (n : Nat) (v3 : Int) (st : fS), in64 v3 → ((-1) ≤ v1 ∧ v1 ≤ 1000000000000) → (1 ≤ v3 ∧ (v3 = 1 ∨ v3 ≤ v1)) → (∃ j : Nat, v1 < (10 : Int) ^ j ∧ 1 ≤ j ∧ st.1 41 + (j : Int) ≤ 900) → 1000000000001 - v3 < n → (∀ u : fS, u = F_X9_putNumber_2 v1 n v3 st → post u) → fV D (wM cI cJ cZ cB b) mOk (mA b) 7 p l e rm_X9_putNumber s m args below meth c 0 0 (fMQ below (fQv D (wM cI cJ cZ cB b) mOk (mA b) post) args s (mA b)) st 2 [(0, .ref (b 0)), (1, .long (zJ v1)), (3, .long (zJ v3))] [] := by
  intro n
  induction n with
  | zero =>
    intro v3 st hv3 i0 i1 i2 hm hp
    omega
  | succ n ih =>
    intro v3 st hv3 i0 i1 i2 hm hp
    refine f_lload_n C 3 dX9_putNumber_2 rfl rfl ?_
    refine f_lload_n C 1 dX9_putNumber_3 rfl rfl ?_
    refine f_ldc2 C (v := 10) (z := 10) (by decide +kernel) (by decide) dX9_putNumber_4 ?_
    refine f_ldivT C ⟨by omega, by omega⟩ ⟨by omega, by omega⟩ (by omega) dX9_putNumber_7 ?_
    have k8 := tdivk v1 (y := 10) (B := 1000000000000) (C := 100000000000) (by decide) (by decide) ⟨by omega, by omega⟩
    refine f_lc_if_gt C 21 ⟨by omega, by omega⟩ ⟨by omega, by omega⟩ dX9_putNumber_8 dX9_putNumber_9 (by decide) (fun c9 => ?_) (fun c9 => ?_)
    · refine f_lload_n C 3 dX9_putNumber_21 rfl rfl ?_
      refine f_lstore C (lv' := [(5, .long (zJ v3)), (0, .ref (b 0)), (1, .long (zJ v1)), (3, .long (zJ v3))]) dX9_putNumber_22 (Nat.le_of_ble_eq_true rfl) rfl ?_
      refine f_re (lv' := [(0, .ref (b 0)), (1, .long (zJ v1)), (5, .long (zJ v3))]) [1, 2, 0] rfl ?_
      exact v_X9_putNumber_24 hX v1 ⟨by omega, by omega⟩ C hret hlk (Int.toNat (v3) + 1) v3 st ⟨by omega, by omega⟩ (show (-1) ≤ v1 ∧ v1 ≤ 1000000000000 by omega) (show 0 ≤ v3 ∧ v3 ≤ 1000000000000 by omega) (by obtain ⟨j, a1, a2, a3⟩ := i2; exact ⟨j, pw_ent i1 a1 a2, a3⟩) (show v3 < ((Int.toNat (v3) + 1 : Nat) : Int) by omega) (fun u e2 => hp u (by rw [F_X9_putNumber_2, if_pos c9]; exact e2))
    have h10 := tdiv10_le (q := v3) (v := v1) (by omega) (by omega)
    refine f_lload_n C 3 dX9_putNumber_12 rfl rfl ?_
    refine f_ldc2 C (v := 10) (z := 10) (by decide +kernel) (by decide) dX9_putNumber_13 ?_
    refine f_lmul C dX9_putNumber_16 ?_
    refine f_lstore_n C 3 (lv' := [(3, .long (zJ (v3 * 10))), (0, .ref (b 0)), (1, .long (zJ v1))]) dX9_putNumber_17 rfl (Nat.le_of_ble_eq_true rfl) rfl ?_
    refine f_goto C 2 dX9_putNumber_18 (by decide) ?_
    refine f_re (lv' := [(0, .ref (b 0)), (1, .long (zJ v1)), (3, .long (zJ (v3 * 10)))]) [1, 2, 0] rfl ?_
    exact ih (v3 * 10) st ⟨by omega, by omega⟩ (show (-1) ≤ v1 ∧ v1 ≤ 1000000000000 by omega) (show 1 ≤ (v3 * 10) ∧ ((v3 * 10) = 1 ∨ (v3 * 10) ≤ v1) by omega) i2 (show 1000000000001 - (v3 * 10) < ((n : Nat) : Int) by omega) (fun u e2 => hp u (by rw [F_X9_putNumber_2, if_neg c9]; exact e2))
set_option maxRecDepth 100000 in
set_option maxHeartbeats 8000000 in
theorem c_X9_putNumber {l : Launch} {D : va_G} {cI cJ cZ cB : ClassId} {b : Nat → Nat} {E : State → Prop} (hX : mHyp b E) (p1 : Int) (h1 : in64 p1) (st : fS) (q1 : (-1) ≤ p1 ∧ p1 ≤ 1000000000000) (q2 : ∃ j : Nat, p1 < (10 : Int) ^ j ∧ 1 ≤ j ∧ st.1 41 + (j : Int) ≤ 900) : mMv l D cI cJ cZ cB b E yX9_putNumber wsX9_putNumber rm_X9_putNumber [.ref (b 0), .long (zJ p1)] st (fun u => u = F_X9_putNumber p1 st) := by
  refine fB_open (cc := cX9_putNumber) (maxL := 7) (ret := none) (by decide) rfl (Nat.le_of_ble_eq_true rfl) hX.2 ?_
  intro p e s m below meth c C hret hlk
  have hp : ∀ u : fS, u = F_X9_putNumber p1 st → u = F_X9_putNumber p1 st := fun _ h => h
  refine f_lconst C (z := 1) dX9_putNumber_0 rfl ?_
  refine f_lstore_n C 3 (lv' := [(3, .long (zJ 1)), (0, .ref (b 0)), (1, .long (zJ p1))]) dX9_putNumber_1 rfl (Nat.le_of_ble_eq_true rfl) rfl ?_
  refine f_re (lv' := [(0, .ref (b 0)), (1, .long (zJ p1)), (3, .long (zJ 1))]) [1, 2, 0] rfl ?_
  exact v_X9_putNumber_2 hX p1 ⟨by omega, by omega⟩ C hret hlk (Int.toNat (1000000000001 - (1 : Int)) + 1) 1 st ⟨by omega, by omega⟩ (show (-1) ≤ p1 ∧ p1 ≤ 1000000000000 by omega) (show 1 ≤ (1 : Int) ∧ ((1 : Int) = 1 ∨ (1 : Int) ≤ p1) by omega) q2 (show 1000000000001 - (1 : Int) < ((Int.toNat (1000000000001 - (1 : Int)) + 1 : Nat) : Int) by omega) (fun u e2 => hp u (by rw [F_X9_putNumber]; exact e2))
