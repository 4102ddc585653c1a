/-! ===== PART 28: the text and its mark (laid by program) ===== -/
def F_X7_add (p1 : Int) (st : fS) : Int × fS := if (st.1 2) < 600 then (1, sN (rset st 8 (st.1 2) p1) 2 ((st.1 2) + 1)) else (0, st)
abbrev rm_X7_add : Room := { frames := 1, cells := 0, slots := 0, locals := 23 }
set_option maxRecDepth 100000 in
set_option maxHeartbeats 8000000 in
theorem c_X7_add {l : Launch} {D : va_G} {cI cJ cZ cB : ClassId} {a : Nat → Nat} {E : State → Prop} (hX : xHyp a E) (p1 : Int) (h1 : in32 p1) (st : fS) (q1 : 0 ≤ p1 ∧ p1 ≤ 255) : xMi l D cI cJ cZ cB a E yX7_add wsX7_add rm_X7_add [.ref (a 3), .int (zI p1)] st (fun z u => z = (F_X7_add p1 st).1 ∧ u = (F_X7_add p1 st).2 ∧ (z = 0 ∨ z = 1)) := by
  refine fB_open (cc := cX7_add) (maxL := 2) (ret := (some .boolean)) (by decide) rfl (Nat.le_of_ble_eq_true rfl) hX.2 ?_
  intro p e s m below meth c C hret hlk
  have hin7 : ∀ w ∈ u_ws RX7 TX7 5, w ∈ wsX7_add := by decide +kernel
  have hp : ∀ (z : Int) (u : fS), z = (F_X7_add p1 st).1 → u = (F_X7_add p1 st).2 → (z = 0 ∨ z = 1) → z = (F_X7_add p1 st).1 ∧ u = (F_X7_add p1 st).2 ∧ (z = 0 ∨ z = 1) := fun z u h1 h2 r1 => ⟨h1, h2, r1⟩
  refine f_aload_n C 0 dX7_add_0 rfl rfl ?_
  refine f_ok (fun hO1 => ?_)
  have k2 : 0 ≤ st.1 2 ∧ st.1 2 ≤ 600 := hO1.1 2
  refine f_get C (v := .int (zI (st.1 2))) hin7 3 1 rfl rfl (Nat.le_of_ble_eq_true rfl) (by decide +kernel) rfl rfl dX7_add_1 ?_
  refine f_sipush C dX7_add_4 (by decide) ?_
  refine f_icmp_lt C 12 ⟨by omega, by omega⟩ ⟨by decide, by decide⟩ dX7_add_7 (by decide) (fun c3 => ?_) (fun c3 => ?_)
  · refine f_aload_n C 0 dX7_add_12 rfl rfl ?_
    refine f_get C hin7 3 0 rfl rfl (Nat.le_of_ble_eq_true rfl) (by decide +kernel) rfl rfl dX7_add_13 ?_
    refine f_aload_n C 0 dX7_add_16 rfl rfl ?_
    refine f_get C (v := .int (zI (st.1 2))) hin7 3 1 rfl rfl (Nat.le_of_ble_eq_true rfl) (by decide +kernel) rfl rfl dX7_add_17 ?_
    refine f_iload_n C 1 dX7_add_20 rfl rfl ?_
    refine f_i2l C ⟨by omega, by omega⟩ dX7_add_21 ?_
    refine f_callv C (c_Row_set hX 8 (Nat.le_of_ble_eq_true rfl) (st.1 2) p1 ⟨by omega, by omega⟩ (show 0 ≤ p1 ∧ p1 ≤ 255 by omega) st) (cwV 2 C.1.2.2.2.2 gX7_add_X5_set rfl rfl rfl (by decide +kernel) ⟨Nat.le_of_ble_eq_true rfl, Nat.le_of_ble_eq_true rfl⟩) 16 (wX_row cJ a st (r := 8) (Nat.le_of_ble_eq_true rfl)) rfl rfl rfl rfl (Nat.le_of_ble_eq_true rfl) ⟨Nat.zero_le _, Nat.zero_le _⟩ dX7_add_22 (fun u hu => ?_)
    replace hu := hu.symm; subst hu
    refine f_aload_n C 0 dX7_add_25 rfl rfl ?_
    refine f_dup C dX7_add_26 rfl ?_
    refine f_ok (fun hO4 => ?_)
    have k5 : 0 ≤ st.1 2 ∧ st.1 2 ≤ 600 := hO4.1 2
    refine f_get C (v := .int (zI (st.1 2))) hin7 3 1 rfl rfl (Nat.le_of_ble_eq_true rfl) (by decide +kernel) rfl rfl dX7_add_27 ?_
    refine f_iconst C dX7_add_30 ?_
    refine f_iadd C dX7_add_31 ?_
    refine f_put C (xD hX.1 cJ) hin7 tyX7 tyX7_ok nmX7 3 1 rfl rfl (Nat.le_of_ble_eq_true rfl) (by decide +kernel) rfl rfl (ty := .int) (by decide +kernel) rfl rfl (Nat.le_of_ble_eq_true rfl) (u := sN (rset st 8 (st.1 2) p1) 2 ((st.1 2) + 1)) rfl (fun h => fOk_N h (show 0 ≤ ((st.1 2) + 1) ∧ ((st.1 2) + 1) ≤ 600 by omega)) dX7_add_32 ?_
    refine f_iconst C dX7_add_35 ?_
    exact f_zret C hret hlk dX7_add_36 (by decide) (hp _ _ (by rw [F_X7_add, if_pos c3]) (by rw [F_X7_add, if_pos c3]) (by omega))
  refine f_iconst C dX7_add_10 ?_
  exact f_zret C hret hlk dX7_add_11 (by decide) (hp _ _ (by rw [F_X7_add, if_neg c3]) (by rw [F_X7_add, if_neg c3]) (by omega))

def F_X7_clear (st : fS) : fS := sN st 2 0
abbrev rm_X7_clear : Room := { frames := 0, cells := 0, slots := 0, locals := 0 }
set_option maxRecDepth 100000 in
set_option maxHeartbeats 8000000 in
theorem c_X7_clear {l : Launch} {D : va_G} {cI cJ cZ cB : ClassId} {a : Nat → Nat} {E : State → Prop} (hX : xHyp a E)   (st : fS)  : xMv l D cI cJ cZ cB a E yX7_clear wsX7_clear rm_X7_clear [.ref (a 3)] st (fun u => u = F_X7_clear st) := by
  refine fB_open (cc := cX7_clear) (maxL := 1) (ret := none) (by decide) rfl (Nat.le_of_ble_eq_true rfl) hX.2 ?_
  intro p e s m below meth c C hret hlk
  have hin7 : ∀ w ∈ u_ws RX7 TX7 5, w ∈ wsX7_clear := by decide +kernel
  have hp : ∀ u : fS, u = F_X7_clear st → u = F_X7_clear st := fun _ h => h
  refine f_aload_n C 0 dX7_clear_0 rfl rfl ?_
  refine f_iconst C dX7_clear_1 ?_
  refine f_put C (xD hX.1 cJ) hin7 tyX7 tyX7_ok nmX7 3 1 rfl rfl (Nat.le_of_ble_eq_true rfl) (by decide +kernel) rfl rfl (ty := .int) (by decide +kernel) rfl rfl (Nat.le_of_ble_eq_true rfl) (u := sN st 2 0) rfl (fun h => fOk_N h (show 0 ≤ (0 : Int) ∧ (0 : Int) ≤ 600 by omega)) dX7_clear_2 ?_
  exact f_vret C hret hlk dX7_clear_5 (hp _ (by rw [F_X7_clear]))

def F_X7_toNextWord_57 : Nat → fS → fS
  | 0, st => st
  | n + 1, st => if (st.1 2) ≤ (st.1 4) then sN st 5 ((st.1 5) + 1) else (if (F_X7_isBlank (rget 600 (st.2 8) (st.1 4)) st) = 0 then F_X7_toNextWord_57  (n)  (sN st 4 ((st.1 4) + 1)) else sN st 5 ((st.1 5) + 1))

def F_X7_toNextWord_8 : Nat → fS → fS
  | 0, st => st
  | n + 1, st => if (st.1 2) ≤ (st.1 3) then F_X7_toNextWord_57  (Int.toNat (1200 - (st.1 3)) + 1)  (sN st 4 (st.1 3)) else (if (F_X7_isBlank (rget 600 (st.2 8) (st.1 3)) st) = 0 then F_X7_toNextWord_57  (Int.toNat (1200 - (st.1 3)) + 1)  (sN st 4 (st.1 3)) else F_X7_toNextWord_8  (n)  (sN st 3 ((st.1 3) + 1)))

def F_X7_toNextWord (st : fS) : fS := F_X7_toNextWord_8  (Int.toNat (1200 - (st.1 4)) + 1)  (sN st 3 (st.1 4))
abbrev rm_X7_toNextWord : Room := { frames := 1, cells := 0, slots := 0, locals := 21 }
set_option maxRecDepth 100000 in
set_option maxHeartbeats 8000000 in
theorem v_X7_toNextWord_57 {l : Launch} {D : va_G} {cI cJ cZ cB : ClassId} {a : Nat → Nat} {E : State → Prop} (hX : xHyp a E)  {p : Program} {e : Env} {s : State} {m : MethodId} {args : Array Value} {below : List Frame} {meth : Method} {c : Code} (C : fC p m c cX7_toNextWord 1 s args wsX7_toNextWord yX7_toNextWord.cls D (fTys cI cJ cZ cB) E (xA a)) (hret : meth.sig.returnType = none) (hlk : meth.locks = false) {post : fS → Prop} : ∀ (n : Nat) (st : fS), True → (0 ≤ st.1 5 ∧ st.1 5 ≤ 1000000) → (0 ≤ st.1 4 ∧ st.1 4 ≤ 600 ∧ 0 ≤ st.1 2 ∧ st.1 2 ≤ 600) → 1200 - st.1 4 < n → (∀ u : fS, u = F_X7_toNextWord_57 n st → post u) → fV D (wX cJ a) xOk (xA a) 1 p l e rm_X7_toNextWord s m args below meth c 0 0 (fMQ below (fQv D (wX cJ a) xOk (xA a) post) args s (xA a)) st 57 [(0, .ref (a 3))] [] := by
  have hin7 : ∀ w ∈ u_ws RX7 TX7 5, w ∈ wsX7_toNextWord := by decide +kernel
  intro n
  induction n with
  | zero =>
    intro st _ i0 i1 hm hp
    omega
  | succ n ih =>
    intro st _ i0 i1 hm hp
    refine f_aload_n C 0 dX7_toNextWord_57 rfl rfl ?_
    refine f_ok (fun hO1 => ?_)
    have k2 : 0 ≤ st.1 4 ∧ st.1 4 ≤ 600 := hO1.1 4
    refine f_get C (v := .int (zI (st.1 4))) hin7 3 3 rfl rfl (Nat.le_of_ble_eq_true rfl) (by decide +kernel) rfl rfl dX7_toNextWord_58 ?_
    refine f_aload_n C 0 dX7_toNextWord_61 rfl rfl ?_
    have k3 : 0 ≤ st.1 2 ∧ st.1 2 ≤ 600 := hO1.1 2
    refine f_get C (v := .int (zI (st.1 2))) hin7 3 1 rfl rfl (Nat.le_of_ble_eq_true rfl) (by decide +kernel) rfl rfl dX7_toNextWord_62 ?_
    refine f_icmp_ge C 98 ⟨by omega, by omega⟩ ⟨by omega, by omega⟩ dX7_toNextWord_65 (by decide) (fun c4 => ?_) (fun c4 => ?_)
    · refine f_aload_n C 0 dX7_toNextWord_98 rfl rfl ?_
      refine f_dup C dX7_toNextWord_99 rfl ?_
      have k5 : (-1000000000) ≤ st.1 5 ∧ st.1 5 ≤ 1000000000 := hO1.1 5
      refine f_get C (v := .int (zI (st.1 5))) hin7 3 4 rfl rfl (Nat.le_of_ble_eq_true rfl) (by decide +kernel) rfl rfl dX7_toNextWord_100 ?_
      refine f_iconst C dX7_toNextWord_103 ?_
      refine f_iadd C dX7_toNextWord_104 ?_
      refine f_put C (xD hX.1 cJ) hin7 tyX7 tyX7_ok nmX7 3 4 rfl rfl (Nat.le_of_ble_eq_true rfl) (by decide +kernel) rfl rfl (ty := .int) (by decide +kernel) rfl rfl (Nat.le_of_ble_eq_true rfl) (u := sN st 5 ((st.1 5) + 1)) rfl (fun h => fOk_N h (show (-1000000000) ≤ ((st.1 5) + 1) ∧ ((st.1 5) + 1) ≤ 1000000000 by omega)) dX7_toNextWord_105 ?_
      exact f_vret C hret hlk dX7_toNextWord_108 (hp _ (by rw [F_X7_toNextWord_57, if_pos c4]))
    refine f_aload_n C 0 dX7_toNextWord_68 rfl rfl ?_
    refine f_get C hin7 3 0 rfl rfl (Nat.le_of_ble_eq_true rfl) (by decide +kernel) rfl rfl dX7_toNextWord_69 ?_
    refine f_aload_n C 0 dX7_toNextWord_72 rfl rfl ?_
    refine f_get C (v := .int (zI (st.1 4))) hin7 3 3 rfl rfl (Nat.le_of_ble_eq_true rfl) (by decide +kernel) rfl rfl dX7_toNextWord_73 ?_
    refine f_calll C (c_Row_get hX 8 (Nat.le_of_ble_eq_true rfl) (st.1 4) ⟨by omega, by omega⟩ st) (cwV 1 C.1.2.2.2.2 gX7_toNextWord_X5_get rfl rfl rfl (by decide +kernel) ⟨Nat.le_of_ble_eq_true rfl, Nat.le_of_ble_eq_true rfl⟩) 16 (wX_row cJ a st (r := 8) (Nat.le_of_ble_eq_true rfl)) rfl rfl rfl rfl (Nat.le_of_ble_eq_true rfl) ⟨Nat.zero_le _, Nat.zero_le _⟩ dX7_toNextWord_76 (fun z u hz6 hu => ?_)
    obtain ⟨qz6, hu⟩ : z = rget 600 (st.2 8) (st.1 4) ∧ u = st := hu
    replace hu := hu.symm; subst hu; subst qz6
    have k7 : 0 ≤ rget 600 (st.2 8) (st.1 4) ∧ rget 600 (st.2 8) (st.1 4) ≤ 255 := xget_ok hO1 8 600 (st.1 4)
    refine f_callsi C (c_X7_isBlank hX (rget 600 (st.2 8) (st.1 4)) ⟨by omega, by omega⟩ st) (va_cwS 1 C.1.2.2.2.2 gX7_toNextWord_X7_isBlank rfl rfl rfl (by decide +kernel) ⟨Nat.le_of_ble_eq_true rfl, Nat.le_of_ble_eq_true rfl⟩) rfl rfl (Nat.le_of_ble_eq_true rfl) ⟨Nat.zero_le _, Nat.zero_le _⟩ dX7_toNextWord_79 (fun z u hz8 hu => ?_)
    obtain ⟨qz8, hu, rz8⟩ := hu; replace hu := hu.symm; subst hu; subst qz8
    refine f_if_ne C 98 ⟨by omega, by omega⟩ dX7_toNextWord_82 (by decide) (fun c9 => ?_) (fun c9 => ?_)
    · refine f_aload_n C 0 dX7_toNextWord_98 rfl rfl ?_
      refine f_dup C dX7_toNextWord_99 rfl ?_
      have k10 : (-1000000000) ≤ st.1 5 ∧ st.1 5 ≤ 1000000000 := hO1.1 5
      refine f_get C (v := .int (zI (st.1 5))) hin7 3 4 rfl rfl (Nat.le_of_ble_eq_true rfl) (by decide +kernel) rfl rfl dX7_toNextWord_100 ?_
      refine f_iconst C dX7_toNextWord_103 ?_
      refine f_iadd C dX7_toNextWord_104 ?_
      refine f_put C (xD hX.1 cJ) hin7 tyX7 tyX7_ok nmX7 3 4 rfl rfl (Nat.le_of_ble_eq_true rfl) (by decide +kernel) rfl rfl (ty := .int) (by decide +kernel) rfl rfl (Nat.le_of_ble_eq_true rfl) (u := sN st 5 ((st.1 5) + 1)) rfl (fun h => fOk_N h (show (-1000000000) ≤ ((st.1 5) + 1) ∧ ((st.1 5) + 1) ≤ 1000000000 by omega)) dX7_toNextWord_105 ?_
      exact f_vret C hret hlk dX7_toNextWord_108 (hp _ (by rw [F_X7_toNextWord_57, if_neg c4, if_neg c9]))
    refine f_aload_n C 0 dX7_toNextWord_85 rfl rfl ?_
    refine f_dup C dX7_toNextWord_86 rfl ?_
    refine f_get C (v := .int (zI (st.1 4))) hin7 3 3 rfl rfl (Nat.le_of_ble_eq_true rfl) (by decide +kernel) rfl rfl dX7_toNextWord_87 ?_
    refine f_iconst C dX7_toNextWord_90 ?_
    refine f_iadd C dX7_toNextWord_91 ?_
    refine f_put C (xD hX.1 cJ) hin7 tyX7 tyX7_ok nmX7 3 3 rfl rfl (Nat.le_of_ble_eq_true rfl) (by decide +kernel) rfl rfl (ty := .int) (by decide +kernel) rfl rfl (Nat.le_of_ble_eq_true rfl) (u := sN st 4 ((st.1 4) + 1)) rfl (fun h => fOk_N h (show 0 ≤ ((st.1 4) + 1) ∧ ((st.1 4) + 1) ≤ 600 by omega)) dX7_toNextWord_92 ?_
    refine f_goto C 57 dX7_toNextWord_95 (by decide) ?_
    refine f_re (lv' := [(0, .ref (a 3))]) [0] rfl ?_
    refine f_ok (fun hO11 => ?_)
    have k12 : (-1000000000) ≤ st.1 5 ∧ st.1 5 ≤ 1000000000 := hO11.1 5
    have k13 : 0 ≤ st.1 2 ∧ st.1 2 ≤ 600 := hO11.1 2
    exact ih  (sN st 4 ((st.1 4) + 1)) trivial (show 0 ≤ (st.1 5) ∧ (st.1 5) ≤ 1000000 by omega) (show 0 ≤ ((st.1 4) + 1) ∧ ((st.1 4) + 1) ≤ 600 ∧ 0 ≤ (st.1 2) ∧ (st.1 2) ≤ 600 by omega) (show 1200 - ((st.1 4) + 1) < ((n : Nat) : Int) by omega) (fun u e2 => hp u (by rw [F_X7_toNextWord_57, if_neg c4, if_pos c9]; exact e2))
set_option maxRecDepth 100000 in
set_option maxHeartbeats 8000000 in
theorem v_X7_toNextWord_8 {l : Launch} {D : va_G} {cI cJ cZ cB : ClassId} {a : Nat → Nat} {E : State → Prop} (hX : xHyp a E)  {p : Program} {e : Env} {s : State} {m : MethodId} {args : Array Value} {below : List Frame} {meth : Method} {c : Code} (C : fC p m c cX7_toNextWord 1 s args wsX7_toNextWord yX7_toNextWord.cls D (fTys cI cJ cZ cB) E (xA a)) (hret : meth.sig.returnType = none) (hlk : meth.locks = false) {post : fS → Prop} : ∀ (n : Nat) (st : fS), True → (0 ≤ st.1 5 ∧ st.1 5 ≤ 1000000) → (0 ≤ st.1 3 ∧ st.1 3 ≤ 600 ∧ 0 ≤ st.1 2 ∧ st.1 2 ≤ 600) → 1200 - st.1 3 < n → (∀ u : fS, u = F_X7_toNextWord_8 n st → post u) → fV D (wX cJ a) xOk (xA a) 1 p l e rm_X7_toNextWord s m args below meth c 0 0 (fMQ below (fQv D (wX cJ a) xOk (xA a) post) args s (xA a)) st 8 [(0, .ref (a 3))] [] := by
  have hin7 : ∀ w ∈ u_ws RX7 TX7 5, w ∈ wsX7_toNextWord := by decide +kernel
  intro n
  induction n with
  | zero =>
    intro st _ i0 i1 hm hp
    omega
  | succ n ih =>
    intro st _ i0 i1 hm hp
    refine f_aload_n C 0 dX7_toNextWord_8 rfl rfl ?_
    refine f_ok (fun hO14 => ?_)
    have k15 : 0 ≤ st.1 3 ∧ st.1 3 ≤ 600 := hO14.1 3
    refine f_get C (v := .int (zI (st.1 3))) hin7 3 2 rfl rfl (Nat.le_of_ble_eq_true rfl) (by decide +kernel) rfl rfl dX7_toNextWord_9 ?_
    refine f_aload_n C 0 dX7_toNextWord_12 rfl rfl ?_
    have k16 : 0 ≤ st.1 2 ∧ st.1 2 ≤ 600 := hO14.1 2
    refine f_get C (v := .int (zI (st.1 2))) hin7 3 1 rfl rfl (Nat.le_of_ble_eq_true rfl) (by decide +kernel) rfl rfl dX7_toNextWord_13 ?_
    refine f_icmp_ge C 49 ⟨by omega, by omega⟩ ⟨by omega, by omega⟩ dX7_toNextWord_16 (by decide) (fun c17 => ?_) (fun c17 => ?_)
    · refine f_aload_n C 0 dX7_toNextWord_49 rfl rfl ?_
      refine f_aload_n C 0 dX7_toNextWord_50 rfl rfl ?_
      refine f_get C (v := .int (zI (st.1 3))) hin7 3 2 rfl rfl (Nat.le_of_ble_eq_true rfl) (by decide +kernel) rfl rfl dX7_toNextWord_51 ?_
      refine f_put C (xD hX.1 cJ) hin7 tyX7 tyX7_ok nmX7 3 3 rfl rfl (Nat.le_of_ble_eq_true rfl) (by decide +kernel) rfl rfl (ty := .int) (by decide +kernel) rfl rfl (Nat.le_of_ble_eq_true rfl) (u := sN st 4 (st.1 3)) rfl (fun h => fOk_N h (show 0 ≤ (st.1 3) ∧ (st.1 3) ≤ 600 by omega)) dX7_toNextWord_54 ?_
      refine f_re (lv' := [(0, .ref (a 3))]) [0] rfl ?_
      refine f_ok (fun hO18 => ?_)
      have k19 : (-1000000000) ≤ st.1 5 ∧ st.1 5 ≤ 1000000000 := hO18.1 5
      have k20 : 0 ≤ st.1 2 ∧ st.1 2 ≤ 600 := hO18.1 2
      exact v_X7_toNextWord_57 hX   C hret hlk (Int.toNat (1200 - (st.1 3)) + 1)  (sN st 4 (st.1 3)) trivial (show 0 ≤ (st.1 5) ∧ (st.1 5) ≤ 1000000 by omega) (show 0 ≤ (st.1 3) ∧ (st.1 3) ≤ 600 ∧ 0 ≤ (st.1 2) ∧ (st.1 2) ≤ 600 by omega) (show 1200 - (st.1 3) < ((Int.toNat (1200 - (st.1 3)) + 1 : Nat) : Int) by omega) (fun u e2 => hp u (by rw [F_X7_toNextWord_8, if_pos c17]; exact e2))
    refine f_aload_n C 0 dX7_toNextWord_19 rfl rfl ?_
    refine f_get C hin7 3 0 rfl rfl (Nat.le_of_ble_eq_true rfl) (by decide +kernel) rfl rfl dX7_toNextWord_20 ?_
    refine f_aload_n C 0 dX7_toNextWord_23 rfl rfl ?_
    refine f_get C (v := .int (zI (st.1 3))) hin7 3 2 rfl rfl (Nat.le_of_ble_eq_true rfl) (by decide +kernel) rfl rfl dX7_toNextWord_24 ?_
    refine f_calll C (c_Row_get hX 8 (Nat.le_of_ble_eq_true rfl) (st.1 3) ⟨by omega, by omega⟩ st) (cwV 1 C.1.2.2.2.2 gX7_toNextWord_X5_get rfl rfl rfl (by decide +kernel) ⟨Nat.le_of_ble_eq_true rfl, Nat.le_of_ble_eq_true rfl⟩) 16 (wX_row cJ a st (r := 8) (Nat.le_of_ble_eq_true rfl)) rfl rfl rfl rfl (Nat.le_of_ble_eq_true rfl) ⟨Nat.zero_le _, Nat.zero_le _⟩ dX7_toNextWord_27 (fun z u hz21 hu => ?_)
    obtain ⟨qz21, hu⟩ : z = rget 600 (st.2 8) (st.1 3) ∧ u = st := hu
    replace hu := hu.symm; subst hu; subst qz21
    have k22 : 0 ≤ rget 600 (st.2 8) (st.1 3) ∧ rget 600 (st.2 8) (st.1 3) ≤ 255 := xget_ok hO14 8 600 (st.1 3)
    refine f_callsi C (c_X7_isBlank hX (rget 600 (st.2 8) (st.1 3)) ⟨by omega, by omega⟩ st) (va_cwS 1 C.1.2.2.2.2 gX7_toNextWord_X7_isBlank rfl rfl rfl (by decide +kernel) ⟨Nat.le_of_ble_eq_true rfl, Nat.le_of_ble_eq_true rfl⟩) rfl rfl (Nat.le_of_ble_eq_true rfl) ⟨Nat.zero_le _, Nat.zero_le _⟩ dX7_toNextWord_30 (fun z u hz23 hu => ?_)
    obtain ⟨qz23, hu, rz23⟩ := hu; replace hu := hu.symm; subst hu; subst qz23
    refine f_if_eq C 49 ⟨by omega, by omega⟩ dX7_toNextWord_33 (by decide) (fun c24 => ?_) (fun c24 => ?_)
    · refine f_aload_n C 0 dX7_toNextWord_49 rfl rfl ?_
      refine f_aload_n C 0 dX7_toNextWord_50 rfl rfl ?_
      refine f_get C (v := .int (zI (st.1 3))) hin7 3 2 rfl rfl (Nat.le_of_ble_eq_true rfl) (by decide +kernel) rfl rfl dX7_toNextWord_51 ?_
      refine f_put C (xD hX.1 cJ) hin7 tyX7 tyX7_ok nmX7 3 3 rfl rfl (Nat.le_of_ble_eq_true rfl) (by decide +kernel) rfl rfl (ty := .int) (by decide +kernel) rfl rfl (Nat.le_of_ble_eq_true rfl) (u := sN st 4 (st.1 3)) rfl (fun h => fOk_N h (show 0 ≤ (st.1 3) ∧ (st.1 3) ≤ 600 by omega)) dX7_toNextWord_54 ?_
      refine f_re (lv' := [(0, .ref (a 3))]) [0] rfl ?_
      refine f_ok (fun hO25 => ?_)
      have k26 : (-1000000000) ≤ st.1 5 ∧ st.1 5 ≤ 1000000000 := hO25.1 5
      have k27 : 0 ≤ st.1 2 ∧ st.1 2 ≤ 600 := hO25.1 2
      exact v_X7_toNextWord_57 hX   C hret hlk (Int.toNat (1200 - (st.1 3)) + 1)  (sN st 4 (st.1 3)) trivial (show 0 ≤ (st.1 5) ∧ (st.1 5) ≤ 1000000 by omega) (show 0 ≤ (st.1 3) ∧ (st.1 3) ≤ 600 ∧ 0 ≤ (st.1 2) ∧ (st.1 2) ≤ 600 by omega) (show 1200 - (st.1 3) < ((Int.toNat (1200 - (st.1 3)) + 1 : Nat) : Int) by omega) (fun u e2 => hp u (by rw [F_X7_toNextWord_8, if_neg c17, if_pos c24]; exact e2))
    refine f_aload_n C 0 dX7_toNextWord_36 rfl rfl ?_
    refine f_dup C dX7_toNextWord_37 rfl ?_
    refine f_get C (v := .int (zI (st.1 3))) hin7 3 2 rfl rfl (Nat.le_of_ble_eq_true rfl) (by decide +kernel) rfl rfl dX7_toNextWord_38 ?_
    refine f_iconst C dX7_toNextWord_41 ?_
    refine f_iadd C dX7_toNextWord_42 ?_
    refine f_put C (xD hX.1 cJ) hin7 tyX7 tyX7_ok nmX7 3 2 rfl rfl (Nat.le_of_ble_eq_true rfl) (by decide +kernel) rfl rfl (ty := .int) (by decide +kernel) rfl rfl (Nat.le_of_ble_eq_true rfl) (u := sN st 3 ((st.1 3) + 1)) rfl (fun h => fOk_N h (show 0 ≤ ((st.1 3) + 1) ∧ ((st.1 3) + 1) ≤ 600 by omega)) dX7_toNextWord_43 ?_
    refine f_goto C 8 dX7_toNextWord_46 (by decide) ?_
    refine f_re (lv' := [(0, .ref (a 3))]) [0] rfl ?_
    refine f_ok (fun hO28 => ?_)
    have k29 : (-1000000000) ≤ st.1 5 ∧ st.1 5 ≤ 1000000000 := hO28.1 5
    have k30 : 0 ≤ st.1 2 ∧ st.1 2 ≤ 600 := hO28.1 2
    exact ih  (sN st 3 ((st.1 3) + 1)) trivial (show 0 ≤ (st.1 5) ∧ (st.1 5) ≤ 1000000 by omega) (show 0 ≤ ((st.1 3) + 1) ∧ ((st.1 3) + 1) ≤ 600 ∧ 0 ≤ (st.1 2) ∧ (st.1 2) ≤ 600 by omega) (show 1200 - ((st.1 3) + 1) < ((n : Nat) : Int) by omega) (fun u e2 => hp u (by rw [F_X7_toNextWord_8, if_neg c17, if_neg c24]; exact e2))
set_option maxRecDepth 100000 in
set_option maxHeartbeats 8000000 in
theorem c_X7_toNextWord {l : Launch} {D : va_G} {cI cJ cZ cB : ClassId} {a : Nat → Nat} {E : State → Prop} (hX : xHyp a E)   (st : fS) (q5 : 0 ≤ st.1 5 ∧ st.1 5 ≤ 1000000) : xMv l D cI cJ cZ cB a E yX7_toNextWord wsX7_toNextWord rm_X7_toNextWord [.ref (a 3)] st (fun u => u = F_X7_toNextWord st) := by
  refine fB_open (cc := cX7_toNextWord) (maxL := 1) (ret := none) (by decide) rfl (Nat.le_of_ble_eq_true rfl) hX.2 ?_
  intro p e s m below meth c C hret hlk
  have hin7 : ∀ w ∈ u_ws RX7 TX7 5, w ∈ wsX7_toNextWord := by decide +kernel
  have hp : ∀ u : fS, u = F_X7_toNextWord st → u = F_X7_toNextWord st := fun _ h => h
  refine f_aload_n C 0 dX7_toNextWord_0 rfl rfl ?_
  refine f_aload_n C 0 dX7_toNextWord_1 rfl rfl ?_
  refine f_ok (fun hO31 => ?_)
  have k32 : 0 ≤ st.1 4 ∧ st.1 4 ≤ 600 := hO31.1 4
  refine f_get C (v := .int (zI (st.1 4))) hin7 3 3 rfl rfl (Nat.le_of_ble_eq_true rfl) (by decide +kernel) rfl rfl dX7_toNextWord_2 ?_
  refine f_put C (xD hX.1 cJ) hin7 tyX7 tyX7_ok nmX7 3 2 rfl rfl (Nat.le_of_ble_eq_true rfl) (by decide +kernel) rfl rfl (ty := .int) (by decide +kernel) rfl rfl (Nat.le_of_ble_eq_true rfl) (u := sN st 3 (st.1 4)) rfl (fun h => fOk_N h (show 0 ≤ (st.1 4) ∧ (st.1 4) ≤ 600 by omega)) dX7_toNextWord_5 ?_
  refine f_re (lv' := [(0, .ref (a 3))]) [0] rfl ?_
  refine f_ok (fun hO33 => ?_)
  have k34 : (-1000000000) ≤ st.1 5 ∧ st.1 5 ≤ 1000000000 := hO33.1 5
  have k35 : 0 ≤ st.1 2 ∧ st.1 2 ≤ 600 := hO33.1 2
  exact v_X7_toNextWord_8 hX   C hret hlk (Int.toNat (1200 - (st.1 4)) + 1)  (sN st 3 (st.1 4)) trivial (show 0 ≤ (st.1 5) ∧ (st.1 5) ≤ 1000000 by omega) (show 0 ≤ (st.1 4) ∧ (st.1 4) ≤ 600 ∧ 0 ≤ (st.1 2) ∧ (st.1 2) ≤ 600 by omega) (show 1200 - (st.1 4) < ((Int.toNat (1200 - (st.1 4)) + 1 : Nat) : Int) by omega) (fun u e2 => hp u (by rw [F_X7_toNextWord]; exact e2))

def F_X7_toFirstWord (st : fS) : fS := sN (F_X7_toNextWord (sN st 4 0)) 5 0
abbrev rm_X7_toFirstWord : Room := { frames := 2, cells := 0, slots := 0, locals := 41 }
set_option maxRecDepth 100000 in
set_option maxHeartbeats 8000000 in
theorem c_X7_toFirstWord {l : Launch} {D : va_G} {cI cJ cZ cB : ClassId} {a : Nat → Nat} {E : State → Prop} (hX : xHyp a E)   (st : fS) (q5 : 0 ≤ st.1 5 ∧ st.1 5 ≤ 1000000) : xMv l D cI cJ cZ cB a E yX7_toFirstWord wsX7_toFirstWord rm_X7_toFirstWord [.ref (a 3)] st (fun u => u = F_X7_toFirstWord st) := by
  refine fB_open (cc := cX7_toFirstWord) (maxL := 1) (ret := none) (by decide) rfl (Nat.le_of_ble_eq_true rfl) hX.2 ?_
  intro p e s m below meth c C hret hlk
  have hin7 : ∀ w ∈ u_ws RX7 TX7 5, w ∈ wsX7_toFirstWord := by decide +kernel
  have hp : ∀ u : fS, u = F_X7_toFirstWord st → u = F_X7_toFirstWord st := fun _ h => h
  refine f_aload_n C 0 dX7_toFirstWord_0 rfl rfl ?_
  refine f_iconst C dX7_toFirstWord_1 ?_
  refine f_put C (xD hX.1 cJ) hin7 tyX7 tyX7_ok nmX7 3 3 rfl rfl (Nat.le_of_ble_eq_true rfl) (by decide +kernel) rfl rfl (ty := .int) (by decide +kernel) rfl rfl (Nat.le_of_ble_eq_true rfl) (u := sN st 4 0) rfl (fun h => fOk_N h (show 0 ≤ (0 : Int) ∧ (0 : Int) ≤ 600 by omega)) dX7_toFirstWord_2 ?_
  refine f_aload_n C 0 dX7_toFirstWord_5 rfl rfl ?_
  refine f_ok (fun hO1 => ?_)
  have k2 : (-1000000000) ≤ st.1 5 ∧ st.1 5 ≤ 1000000000 := hO1.1 5
  refine f_callv C (c_X7_toNextWord hX (sN st 4 0) (show 0 ≤ (st.1 5) ∧ (st.1 5) ≤ 1000000 by omega)) (cwV 0 C.1.2.2.2.2 gX7_toFirstWord_X7_toNextWord rfl rfl rfl (by decide +kernel) ⟨Nat.le_of_ble_eq_true rfl, Nat.le_of_ble_eq_true rfl⟩) 3 rfl rfl rfl rfl rfl (Nat.le_of_ble_eq_true rfl) ⟨Nat.zero_le _, Nat.zero_le _⟩ dX7_toFirstWord_6 (fun u hu => ?_)
  replace hu := hu.symm; subst hu
  refine f_aload_n C 0 dX7_toFirstWord_9 rfl rfl ?_
  refine f_iconst C dX7_toFirstWord_10 ?_
  refine f_put C (xD hX.1 cJ) hin7 tyX7 tyX7_ok nmX7 3 4 rfl rfl (Nat.le_of_ble_eq_true rfl) (by decide +kernel) rfl rfl (ty := .int) (by decide +kernel) rfl rfl (Nat.le_of_ble_eq_true rfl) (u := sN (F_X7_toNextWord (sN st 4 0)) 5 0) rfl (fun h => fOk_N h (show (-1000000000) ≤ (0 : Int) ∧ (0 : Int) ≤ 1000000000 by omega)) dX7_toFirstWord_11 ?_
  exact f_vret C hret hlk dX7_toFirstWord_14 (hp _ (by rw [F_X7_toFirstWord]))

def F_X7_asNumber_32 : Nat → Int → Int → fS → Int
  | 0, _, _, _ => 0
  | n + 1, v1, v3, st => if (st.1 4) ≤ v3 then v1 else (if ((rget 600 (st.2 8) v3) - 48) < 0 then (-1) else (if ((rget 600 (st.2 8) v3) - 48) ≤ 9 then F_X7_asNumber_32  (n) ((v1 * 10) + ((rget 600 (st.2 8) v3) - 48)) (v3 + 1) st else (-1)))

def F_X7_asNumber (st : fS) : Int := if (F_X7_hasWord st) = 0 then (-1) else (if ((st.1 4) - (st.1 3)) ≤ 6 then F_X7_asNumber_32  (Int.toNat ((st.1 4) - (st.1 3)) + 1) 0 (st.1 3) st else (-1))
abbrev rm_X7_asNumber : Room := { frames := 1, cells := 0, slots := 0, locals := 21 }
set_option maxRecDepth 100000 in
set_option maxHeartbeats 8000000 in
theorem v_X7_asNumber_32 {l : Launch} {D : va_G} {cI cJ cZ cB : ClassId} {a : Nat → Nat} {E : State → Prop} (hX : xHyp a E)  {p : Program} {e : Env} {s : State} {m : MethodId} {args : Array Value} {below : List Frame} {meth : Method} {c : Code} (C : fC p m c cX7_asNumber 6 s args wsX7_asNumber yX7_asNumber.cls D (fTys cI cJ cZ cB) E (xA a)) (hret : meth.sig.returnType = (some .long)) (hlk : meth.locks = false) {post : Int → fS → Prop} : ∀ (n : Nat) (v1 v3 : Int) (st : fS), in64 v1 → in32 v3 → (0 ≤ v1) → ((v3 = st.1 3 ∧ v1 ≤ 0) ∨ (v3 = st.1 3 + 1 ∧ v1 ≤ 9) ∨ (v3 = st.1 3 + 2 ∧ v1 ≤ 99) ∨ (v3 = st.1 3 + 3 ∧ v1 ≤ 999) ∨ (v3 = st.1 3 + 4 ∧ v1 ≤ 9999) ∨ (v3 = st.1 3 + 5 ∧ v1 ≤ 99999) ∨ (v3 = st.1 3 + 6 ∧ v1 ≤ 999999)) → (st.1 4 - st.1 3 ≤ 6) → (v3 ≤ st.1 4) → st.1 4 - v3 < n → (∀ z : Int, z = F_X7_asNumber_32 n v1 v3 st → ((-1) ≤ z ∧ z ≤ 999999) → post z st) → fV D (wX cJ a) xOk (xA a) 6 p l e rm_X7_asNumber s m args below meth c 0 0 (fMQ below (fQl D (wX cJ a) xOk (xA a) post) args s (xA a)) st 32 [(0, .ref (a 3)), (1, .long (zJ v1)), (3, .int (zI v3))] [] := by
  have hin7 : ∀ w ∈ u_ws RX7 TX7 5, w ∈ wsX7_asNumber := by decide +kernel
  intro n
  induction n with
  | zero =>
    intro v1 v3 st hv1 hv3 i0 i1 i2 i3 hm hp
    omega
  | succ n ih =>
    intro v1 v3 st hv1 hv3 i0 i1 i2 i3 hm hp
    refine f_iload_n C 3 dX7_asNumber_32 rfl rfl ?_
    refine f_aload_n C 0 dX7_asNumber_33 rfl rfl ?_
    refine f_ok (fun hO1 => ?_)
    have k2 : 0 ≤ st.1 4 ∧ st.1 4 ≤ 600 := hO1.1 4
    refine f_get C (v := .int (zI (st.1 4))) hin7 3 3 rfl rfl (Nat.le_of_ble_eq_true rfl) (by decide +kernel) rfl rfl dX7_asNumber_34 ?_
    refine f_icmp_ge C 89 ⟨by omega, by omega⟩ ⟨by omega, by omega⟩ dX7_asNumber_37 (by decide) (fun c3 => ?_) (fun c3 => ?_)
    · refine f_lload_n C 1 dX7_asNumber_89 rfl rfl ?_
      exact f_lret C hret hlk dX7_asNumber_90 ⟨by omega, by omega⟩ (hp _ (by rw [F_X7_asNumber_32, if_pos c3]) (by omega))
    refine f_aload_n C 0 dX7_asNumber_40 rfl rfl ?_
    refine f_get C hin7 3 0 rfl rfl (Nat.le_of_ble_eq_true rfl) (by decide +kernel) rfl rfl dX7_asNumber_41 ?_
    refine f_iload_n C 3 dX7_asNumber_44 rfl rfl ?_
    refine f_calll C (c_Row_get hX 8 (Nat.le_of_ble_eq_true rfl) v3 ⟨by omega, by omega⟩ st) (cwV 1 C.1.2.2.2.2 gX7_asNumber_X5_get rfl rfl rfl (by decide +kernel) ⟨Nat.le_of_ble_eq_true rfl, Nat.le_of_ble_eq_true rfl⟩) 16 (wX_row cJ a st (r := 8) (Nat.le_of_ble_eq_true rfl)) rfl rfl rfl rfl (Nat.le_of_ble_eq_true rfl) ⟨Nat.zero_le _, Nat.zero_le _⟩ dX7_asNumber_45 (fun z u hz4 hu => ?_)
    obtain ⟨qz4, hu⟩ : z = rget 600 (st.2 8) v3 ∧ u = st := hu
    replace hu := hu.symm; subst hu; subst qz4
    have k5 : 0 ≤ rget 600 (st.2 8) v3 ∧ rget 600 (st.2 8) v3 ≤ 255 := xget_ok hO1 8 600 v3
    refine f_ldc2 C (v := 48) (z := 48) (by decide +kernel) (by decide) dX7_asNumber_48 ?_
    refine f_lsub C dX7_asNumber_51 ?_
    refine f_lstore C (lv' := [(4, .long (zJ ((rget 600 (st.2 8) v3) - 48))), (0, .ref (a 3)), (1, .long (zJ v1)), (3, .int (zI v3))]) dX7_asNumber_52 (Nat.le_of_ble_eq_true rfl) rfl ?_
    refine f_lload C 4 dX7_asNumber_54 rfl ?_
    refine f_lconst C (z := 0) dX7_asNumber_56 rfl ?_
    refine f_lc_if_lt C 70 ⟨by omega, by omega⟩ ⟨by decide, by decide⟩ dX7_asNumber_57 dX7_asNumber_58 (by decide) (fun c6 => ?_) (fun c6 => ?_)
    · refine f_ldc2 C (v := (-1)) (z := (-1)) (by decide +kernel) (by decide) dX7_asNumber_70 ?_
      exact f_lret C hret hlk dX7_asNumber_73 ⟨by decide, by decide⟩ (hp _ (by rw [F_X7_asNumber_32, if_neg c3, if_pos c6]) (by omega))
    refine f_lload C 4 dX7_asNumber_61 rfl ?_
    refine f_ldc2 C (v := 9) (z := 9) (by decide +kernel) (by decide) dX7_asNumber_63 ?_
    refine f_lc_if_le C 74 ⟨by omega, by omega⟩ ⟨by decide, by decide⟩ dX7_asNumber_66 dX7_asNumber_67 (by decide) (fun c7 => ?_) (fun c7 => ?_)
    · refine f_lload_n C 1 dX7_asNumber_74 rfl rfl ?_
      refine f_ldc2 C (v := 10) (z := 10) (by decide +kernel) (by decide) dX7_asNumber_75 ?_
      refine f_lmul C dX7_asNumber_78 ?_
      refine f_lload C 4 dX7_asNumber_79 rfl ?_
      refine f_ladd C dX7_asNumber_81 ?_
      refine f_lstore_n C 1 (lv' := [(1, .long (zJ ((v1 * 10) + ((rget 600 (st.2 8) v3) - 48)))), (4, .long (zJ ((rget 600 (st.2 8) v3) - 48))), (0, .ref (a 3)), (3, .int (zI v3))]) dX7_asNumber_82 rfl (Nat.le_of_ble_eq_true rfl) rfl ?_
      refine f_iinc C (lv' := [(3, .int (zI (v3 + 1))), (1, .long (zJ ((v1 * 10) + ((rget 600 (st.2 8) v3) - 48)))), (4, .long (zJ ((rget 600 (st.2 8) v3) - 48))), (0, .ref (a 3))]) 3 dX7_asNumber_83 rfl (Nat.le_of_ble_eq_true rfl) rfl ?_
      refine f_goto C 32 dX7_asNumber_86 (by decide) ?_
      refine f_re (lv' := [(0, .ref (a 3)), (1, .long (zJ ((v1 * 10) + ((rget 600 (st.2 8) v3) - 48)))), (3, .int (zI (v3 + 1)))]) [3, 1, 0] rfl ?_
      have k8 : 0 ≤ st.1 3 ∧ st.1 3 ≤ 600 := hO1.1 3
      exact ih ((v1 * 10) + ((rget 600 (st.2 8) v3) - 48)) (v3 + 1) st ⟨by omega, by omega⟩ ⟨by omega, by omega⟩ (show 0 ≤ ((v1 * 10) + ((rget 600 (st.2 8) v3) - 48)) by omega) (show ((v3 + 1) = (st.1 3) ∧ ((v1 * 10) + ((rget 600 (st.2 8) v3) - 48)) ≤ 0) ∨ ((v3 + 1) = (st.1 3) + 1 ∧ ((v1 * 10) + ((rget 600 (st.2 8) v3) - 48)) ≤ 9) ∨ ((v3 + 1) = (st.1 3) + 2 ∧ ((v1 * 10) + ((rget 600 (st.2 8) v3) - 48)) ≤ 99) ∨ ((v3 + 1) = (st.1 3) + 3 ∧ ((v1 * 10) + ((rget 600 (st.2 8) v3) - 48)) ≤ 999) ∨ ((v3 + 1) = (st.1 3) + 4 ∧ ((v1 * 10) + ((rget 600 (st.2 8) v3) - 48)) ≤ 9999) ∨ ((v3 + 1) = (st.1 3) + 5 ∧ ((v1 * 10) + ((rget 600 (st.2 8) v3) - 48)) ≤ 99999) ∨ ((v3 + 1) = (st.1 3) + 6 ∧ ((v1 * 10) + ((rget 600 (st.2 8) v3) - 48)) ≤ 999999) by omega) (show (st.1 4) - (st.1 3) ≤ 6 by omega) (show (v3 + 1) ≤ (st.1 4) by omega) (show (st.1 4) - (v3 + 1) < ((n : Nat) : Int) by omega) (fun z e1 r1 => hp z (by rw [F_X7_asNumber_32, if_neg c3, if_neg c6, if_pos c7]; exact e1) r1)
    refine f_ldc2 C (v := (-1)) (z := (-1)) (by decide +kernel) (by decide) dX7_asNumber_70 ?_
    exact f_lret C hret hlk dX7_asNumber_73 ⟨by decide, by decide⟩ (hp _ (by rw [F_X7_asNumber_32, if_neg c3, if_neg c6, if_neg c7]) (by omega))
set_option maxRecDepth 100000 in
set_option maxHeartbeats 8000000 in
theorem c_X7_asNumber {l : Launch} {D : va_G} {cI cJ cZ cB : ClassId} {a : Nat → Nat} {E : State → Prop} (hX : xHyp a E)   (st : fS)  : xMl l D cI cJ cZ cB a E yX7_asNumber wsX7_asNumber rm_X7_asNumber [.ref (a 3)] st (fun z u => z = F_X7_asNumber st ∧ u = st ∧ ((-1) ≤ z ∧ z ≤ 999999)) := by
  refine fB_open (cc := cX7_asNumber) (maxL := 6) (ret := (some .long)) (by decide) rfl (Nat.le_of_ble_eq_true rfl) hX.2 ?_
  intro p e s m below meth c C hret hlk
  have hin7 : ∀ w ∈ u_ws RX7 TX7 5, w ∈ wsX7_asNumber := by decide +kernel
  have hp : ∀ z : Int, z = F_X7_asNumber st → ((-1) ≤ z ∧ z ≤ 999999) → z = F_X7_asNumber st ∧ st = st ∧ ((-1) ≤ z ∧ z ≤ 999999) := fun z h r1 => ⟨h, rfl, r1⟩
  refine f_aload_n C 0 dX7_asNumber_0 rfl rfl ?_
  refine f_calli C (c_X7_hasWord hX st) (cwV 0 C.1.2.2.2.2 gX7_asNumber_X7_hasWord rfl rfl rfl (by decide +kernel) ⟨Nat.le_of_ble_eq_true rfl, Nat.le_of_ble_eq_true rfl⟩) 3 rfl rfl rfl rfl rfl (Nat.le_of_ble_eq_true rfl) ⟨Nat.zero_le _, Nat.zero_le _⟩ dX7_asNumber_1 (fun z u hz9 hu => ?_)
  obtain ⟨qz9, hu, rz9⟩ := hu; replace hu := hu.symm; subst hu; subst qz9
  refine f_if_eq C 21 ⟨by omega, by omega⟩ dX7_asNumber_4 (by decide) (fun c10 => ?_) (fun c10 => ?_)
  · refine f_ldc2 C (v := (-1)) (z := (-1)) (by decide +kernel) (by decide) dX7_asNumber_21 ?_
    exact f_lret C hret hlk dX7_asNumber_24 ⟨by decide, by decide⟩ (hp _ (by rw [F_X7_asNumber, if_pos c10]) (by omega))
  refine f_aload_n C 0 dX7_asNumber_7 rfl rfl ?_
  refine f_ok (fun hO11 => ?_)
  have k12 : 0 ≤ st.1 4 ∧ st.1 4 ≤ 600 := hO11.1 4
  refine f_get C (v := .int (zI (st.1 4))) hin7 3 3 rfl rfl (Nat.le_of_ble_eq_true rfl) (by decide +kernel) rfl rfl dX7_asNumber_8 ?_
  refine f_aload_n C 0 dX7_asNumber_11 rfl rfl ?_
  have k13 : 0 ≤ st.1 3 ∧ st.1 3 ≤ 600 := hO11.1 3
  refine f_get C (v := .int (zI (st.1 3))) hin7 3 2 rfl rfl (Nat.le_of_ble_eq_true rfl) (by decide +kernel) rfl rfl dX7_asNumber_12 ?_
  refine f_isub C dX7_asNumber_15 ?_
  refine f_bipush C dX7_asNumber_16 (by decide) ?_
  refine f_icmp_le C 25 ⟨by omega, by omega⟩ ⟨by decide, by decide⟩ dX7_asNumber_18 (by decide) (fun c14 => ?_) (fun c14 => ?_)
  · refine f_lconst C (z := 0) dX7_asNumber_25 rfl ?_
    refine f_lstore_n C 1 (lv' := [(1, .long (zJ 0)), (0, .ref (a 3))]) dX7_asNumber_26 rfl (Nat.le_of_ble_eq_true rfl) rfl ?_
    refine f_aload_n C 0 dX7_asNumber_27 rfl rfl ?_
    refine f_get C (v := .int (zI (st.1 3))) hin7 3 2 rfl rfl (Nat.le_of_ble_eq_true rfl) (by decide +kernel) rfl rfl dX7_asNumber_28 ?_
    refine f_istore_n C 3 (lv' := [(3, .int (zI (st.1 3))), (1, .long (zJ 0)), (0, .ref (a 3))]) dX7_asNumber_31 rfl (Nat.le_of_ble_eq_true rfl) rfl ?_
    refine f_re (lv' := [(0, .ref (a 3)), (1, .long (zJ 0)), (3, .int (zI (st.1 3)))]) [2, 1, 0] rfl ?_
    exact v_X7_asNumber_32 hX   C hret hlk (Int.toNat ((st.1 4) - (st.1 3)) + 1) 0 (st.1 3) st ⟨by omega, by omega⟩ ⟨by omega, by omega⟩ (show 0 ≤ (0 : Int) by omega) (show ((st.1 3) = (st.1 3) ∧ (0 : Int) ≤ 0) ∨ ((st.1 3) = (st.1 3) + 1 ∧ (0 : Int) ≤ 9) ∨ ((st.1 3) = (st.1 3) + 2 ∧ (0 : Int) ≤ 99) ∨ ((st.1 3) = (st.1 3) + 3 ∧ (0 : Int) ≤ 999) ∨ ((st.1 3) = (st.1 3) + 4 ∧ (0 : Int) ≤ 9999) ∨ ((st.1 3) = (st.1 3) + 5 ∧ (0 : Int) ≤ 99999) ∨ ((st.1 3) = (st.1 3) + 6 ∧ (0 : Int) ≤ 999999) by omega) (show (st.1 4) - (st.1 3) ≤ 6 by omega) (show (st.1 3) ≤ (st.1 4) by omega) (show (st.1 4) - (st.1 3) < ((Int.toNat ((st.1 4) - (st.1 3)) + 1 : Nat) : Int) by omega) (fun z e1 r1 => hp z (by rw [F_X7_asNumber, if_neg c10, if_pos c14]; exact e1) r1)
  refine f_ldc2 C (v := (-1)) (z := (-1)) (by decide +kernel) (by decide) dX7_asNumber_21 ?_
  exact f_lret C hret hlk dX7_asNumber_24 ⟨by decide, by decide⟩ (hp _ (by rw [F_X7_asNumber, if_neg c10, if_neg c14]) (by omega))
