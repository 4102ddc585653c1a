/-! ===== PART 33: FeeRules.walk (laid by program) ===== -/
theorem st_N (st : fS) (k : Nat) (v : Int) {j : Nat} (h : j ≠ k) : (sN st k v).1 j = st.1 j := sN_1n st v h
theorem st_R (st : fS) (k : Nat) (i v : Int) {j : Nat} (h : j ≠ k) : (rset st k i v).2 j = st.2 j := sR_2n st _ h
/-- what printing leaves as it was -/
def xKeepP (st u : fS) : Prop := (∀ k, k ≠ 10 → u.1 k = st.1 k) ∧ ∀ r, r ≠ 28 → u.2 r = st.2 r
theorem xKeepP.rf (st : fS) : xKeepP st st := ⟨fun _ _ => rfl, fun _ _ => rfl⟩
theorem xKeepP.tr {a b c : fS} (h : xKeepP a b) (g : xKeepP b c) : xKeepP a c := ⟨fun k hk => (g.1 k hk).trans (h.1 k hk), fun r hr => (g.2 r hr).trans (h.2 r hr)⟩
theorem xKeepP_sign (st : fS) (i v w : Int) : xKeepP st (sN (rset st 28 i v) 10 w) := ⟨fun k hk => st_N _ 10 w hk, fun r hr => st_R st 28 i v hr⟩
theorem keep_sign (v : Int) (st : fS) : xKeepP st (F_X2_printSign v st) := xKeepP_sign st _ _ _
theorem keep_pn37 (v1 : Int) : ∀ (n : Nat) (v3 v5 : Int) (st : fS), xKeepP st (F_X2_printNumber_37 v1 n v3 v5 st) := by
  intro n
  induction n with
  | zero => intro v3 v5 st; rw [F_X2_printNumber_37]; exact xKeepP.rf st
  | succ n ih =>
    intro v3 v5 st
    rw [F_X2_printNumber_37]
    by_cases c1 : 18 ≤ v5
    · rw [if_pos c1]; exact xKeepP.rf st
    rw [if_neg c1]
    by_cases c2 : v3 ≤ 0
    · rw [if_pos c2]; exact xKeepP.rf st
    rw [if_neg c2]
    exact (keep_sign _ st).tr (ih _ _ _)
theorem keep_pn5 (v1 : Int) : ∀ (n : Nat) (v3 v5 : Int) (st : fS), xKeepP st (F_X2_printNumber_5 v1 n v3 v5 st) := by
  intro n
  induction n with
  | zero => intro v3 v5 st; rw [F_X2_printNumber_5]; exact xKeepP.rf st
  | succ n ih =>
    intro v3 v5 st
    rw [F_X2_printNumber_5]
    by_cases c1 : 18 ≤ v5
    · rw [if_pos c1]; exact keep_pn37 _ _ _ _ _
    rw [if_neg c1]
    by_cases c2 : Int.tdiv v1 10 < v3
    · rw [if_pos c2]; exact keep_pn37 _ _ _ _ _
    rw [if_neg c2]
    exact ih _ _ _
theorem keep_pn (v : Int) (st : fS) : xKeepP st (F_X2_printNumber v st) := keep_pn5 _ _ _ _ _

def F_X8_hold (p1 : Int) (p2 : Int) (st : fS) : fS := F_X2_print (F_X1_kindOf p1 (F_X2_add p1 (F_X8_centsOf p1 (F_X8_editionOf p1 p2 st) st) (F_X8_editionOf p1 p2 st) (F_X8_lackOf p1 (F_X8_editionOf p1 p2 st) (F_X8_centsOf p1 (F_X8_editionOf p1 p2 st) st) st) st)) (F_X1_measureOf p1 (F_X2_add p1 (F_X8_centsOf p1 (F_X8_editionOf p1 p2 st) st) (F_X8_editionOf p1 p2 st) (F_X8_lackOf p1 (F_X8_editionOf p1 p2 st) (F_X8_centsOf p1 (F_X8_editionOf p1 p2 st) st) st) st)) (F_X8_centsOf p1 (F_X8_editionOf p1 p2 st) st) (F_X2_add p1 (F_X8_centsOf p1 (F_X8_editionOf p1 p2 st) st) (F_X8_editionOf p1 p2 st) (F_X8_lackOf p1 (F_X8_editionOf p1 p2 st) (F_X8_centsOf p1 (F_X8_editionOf p1 p2 st) st) st) st)
abbrev rm_X8_hold : Room := { frames := 4, cells := 0, slots := 0, locals := 111 }
set_option maxRecDepth 100000 in
set_option maxHeartbeats 8000000 in
theorem c_X8_hold {l : Launch} {D : va_G} {cI cJ cZ cB : ClassId} {a : Nat → Nat} {E : State → Prop} (hX : xHyp a E) (p1 : Int) (p2 : Int) (h1 : in32 p1) (h2 : in64 p2) (st : fS) (q1 : 0 ≤ p1 ∧ p1 ≤ 23) (q9 : st.1 9 ≤ 23) (q10 : 0 ≤ st.1 10 ∧ st.1 10 ≤ 700000) (hI : xSteps st) : xMv l D cI cJ cZ cB a E yX8_hold wsX8_hold rm_X8_hold [.ref (a 0), .int (zI p1), .long (zJ p2)] st (fun u => u = F_X8_hold p1 p2 st) := by
  refine fB_open (cc := cX8_hold) (maxL := 7) (ret := none) (by decide) rfl (Nat.le_of_ble_eq_true rfl) hX.2 ?_
  intro p e s m below meth c C hret hlk
  have hin8 : ∀ w ∈ u_ws RX8 TX8 8, w ∈ wsX8_hold := by decide +kernel
  have hp : ∀ u : fS, u = F_X8_hold p1 p2 st → u = F_X8_hold p1 p2 st := fun _ h => h
  refine f_aload_n C 0 dX8_hold_0 rfl rfl ?_
  refine f_iload_n C 1 dX8_hold_1 rfl rfl ?_
  refine f_lload_n C 2 dX8_hold_2 rfl rfl ?_
  refine f_calli C (c_X8_editionOf hX p1 p2 ⟨by omega, by omega⟩ ⟨by omega, by omega⟩ st) (cwV 2 C.1.2.2.2.2 gX8_hold_X8_editionOf rfl rfl rfl (by decide +kernel) ⟨Nat.le_of_ble_eq_true rfl, Nat.le_of_ble_eq_true rfl⟩) 0 rfl rfl rfl rfl rfl (Nat.le_of_ble_eq_true rfl) ⟨Nat.zero_le _, Nat.zero_le _⟩ dX8_hold_3 (fun z u hz1 hu => ?_)
  obtain ⟨qz1, hu, rz1⟩ := hu; replace hu := hu.symm; subst hu; subst qz1
  refine f_istore C (lv' := [(4, .int (zI (F_X8_editionOf p1 p2 st))), (0, .ref (a 0)), (1, .int (zI p1)), (2, .long (zJ p2))]) dX8_hold_6 (Nat.le_of_ble_eq_true rfl) rfl ?_
  refine f_aload_n C 0 dX8_hold_8 rfl rfl ?_
  refine f_iload_n C 1 dX8_hold_9 rfl rfl ?_
  refine f_iload C 4 dX8_hold_10 rfl ?_
  refine f_calll C (c_X8_centsOf hX p1 (F_X8_editionOf p1 p2 st) ⟨by omega, by omega⟩ ⟨by omega, by omega⟩ st (show (-1) ≤ (F_X8_editionOf p1 p2 st) ∧ (F_X8_editionOf p1 p2 st) ≤ 5 by omega) hI) (cwV 2 C.1.2.2.2.2 gX8_hold_X8_centsOf rfl rfl rfl (by decide +kernel) ⟨Nat.le_of_ble_eq_true rfl, Nat.le_of_ble_eq_true rfl⟩) 0 rfl rfl rfl rfl rfl (Nat.le_of_ble_eq_true rfl) ⟨Nat.zero_le _, Nat.zero_le _⟩ dX8_hold_12 (fun z u hz2 hu => ?_)
  obtain ⟨qz2, hu, rz2⟩ := hu; replace hu := hu.symm; subst hu; subst qz2
  refine f_lstore C (lv' := [(5, .long (zJ (F_X8_centsOf p1 (F_X8_editionOf p1 p2 st) st))), (4, .int (zI (F_X8_editionOf p1 p2 st))), (0, .ref (a 0)), (1, .int (zI p1)), (2, .long (zJ p2))]) dX8_hold_15 (Nat.le_of_ble_eq_true rfl) rfl ?_
  refine f_aload_n C 0 dX8_hold_17 rfl rfl ?_
  refine f_get C hin8 0 7 rfl rfl (Nat.le_of_ble_eq_true rfl) (by decide +kernel) rfl rfl dX8_hold_18 ?_
  refine f_iload_n C 1 dX8_hold_21 rfl rfl ?_
  refine f_lload C 5 dX8_hold_22 rfl ?_
  refine f_iload C 4 dX8_hold_24 rfl ?_
  refine f_aload_n C 0 dX8_hold_26 rfl rfl ?_
  refine f_iload_n C 1 dX8_hold_27 rfl rfl ?_
  refine f_iload C 4 dX8_hold_28 rfl ?_
  refine f_lload C 5 dX8_hold_30 rfl ?_
  refine f_calli C (c_X8_lackOf hX p1 (F_X8_editionOf p1 p2 st) (F_X8_centsOf p1 (F_X8_editionOf p1 p2 st) st) ⟨by omega, by omega⟩ ⟨by omega, by omega⟩ ⟨by omega, by omega⟩ st (show (-1) ≤ (F_X8_editionOf p1 p2 st) ∧ (F_X8_editionOf p1 p2 st) ≤ 5 by omega)) (cwV 3 C.1.2.2.2.2 gX8_hold_X8_lackOf rfl rfl rfl (by decide +kernel) ⟨Nat.le_of_ble_eq_true rfl, Nat.le_of_ble_eq_true rfl⟩) 0 rfl rfl rfl rfl rfl (Nat.le_of_ble_eq_true rfl) ⟨Nat.zero_le _, Nat.zero_le _⟩ dX8_hold_32 (fun z u hz3 hu => ?_)
  obtain ⟨qz3, hu, rz3⟩ := hu; replace hu := hu.symm; subst hu; subst qz3
  refine f_ok (fun hO4 => ?_)
  have k5 : 0 ≤ st.1 9 ∧ st.1 9 ≤ 24 := hO4.1 9
  refine f_callv C (c_X2_add hX p1 (F_X8_centsOf p1 (F_X8_editionOf p1 p2 st) st) (F_X8_editionOf p1 p2 st) (F_X8_lackOf p1 (F_X8_editionOf p1 p2 st) (F_X8_centsOf p1 (F_X8_editionOf p1 p2 st) st) st) ⟨by omega, by omega⟩ ⟨by omega, by omega⟩ ⟨by omega, by omega⟩ ⟨by omega, by omega⟩ st (show 0 ≤ p1 ∧ p1 ≤ 23 by omega) (show (-100000000000000) ≤ (F_X8_centsOf p1 (F_X8_editionOf p1 p2 st) st) ∧ (F_X8_centsOf p1 (F_X8_editionOf p1 p2 st) st) ≤ 100000000000000 by omega) (show (-1) ≤ (F_X8_editionOf p1 p2 st) ∧ (F_X8_editionOf p1 p2 st) ≤ 5 by omega) (show 0 ≤ (F_X8_lackOf p1 (F_X8_editionOf p1 p2 st) (F_X8_centsOf p1 (F_X8_editionOf p1 p2 st) st) st) ∧ (F_X8_lackOf p1 (F_X8_editionOf p1 p2 st) (F_X8_centsOf p1 (F_X8_editionOf p1 p2 st) st) st) ≤ 2 by omega) (show (st.1 9) ≤ 23 by omega)) (cwV 4 C.1.2.2.2.2 gX8_hold_X2_add rfl rfl rfl (by decide +kernel) ⟨Nat.le_of_ble_eq_true rfl, Nat.le_of_ble_eq_true rfl⟩) 7 rfl rfl rfl rfl rfl (Nat.le_of_ble_eq_true rfl) ⟨Nat.zero_le _, Nat.zero_le _⟩ dX8_hold_35 (fun u hu => ?_)
  replace hu := hu.symm; subst hu
  have k7 : (F_X2_add p1 (F_X8_centsOf p1 (F_X8_editionOf p1 p2 st) st) (F_X8_editionOf p1 p2 st) (F_X8_lackOf p1 (F_X8_editionOf p1 p2 st) (F_X8_centsOf p1 (F_X8_editionOf p1 p2 st) st) st) st).1 10 = st.1 10 := rfl
  have k8 : (F_X2_add p1 (F_X8_centsOf p1 (F_X8_editionOf p1 p2 st) st) (F_X8_editionOf p1 p2 st) (F_X8_lackOf p1 (F_X8_editionOf p1 p2 st) (F_X8_centsOf p1 (F_X8_editionOf p1 p2 st) st) st) st).1 9 = st.1 9 + 1 := rfl
  refine f_aload_n C 0 dX8_hold_38 rfl rfl ?_
  refine f_get C hin8 0 7 rfl rfl (Nat.le_of_ble_eq_true rfl) (by decide +kernel) rfl rfl dX8_hold_39 ?_
  refine f_aload_n C 0 dX8_hold_42 rfl rfl ?_
  refine f_get C hin8 0 1 rfl rfl (Nat.le_of_ble_eq_true rfl) (by decide +kernel) rfl rfl dX8_hold_43 ?_
  refine f_iload_n C 1 dX8_hold_46 rfl rfl ?_
  refine f_calli C (c_X1_kindOf hX p1 ⟨by omega, by omega⟩ (F_X2_add p1 (F_X8_centsOf p1 (F_X8_editionOf p1 p2 st) st) (F_X8_editionOf p1 p2 st) (F_X8_lackOf p1 (F_X8_editionOf p1 p2 st) (F_X8_centsOf p1 (F_X8_editionOf p1 p2 st) st) st) st)) (cwV 1 C.1.2.2.2.2 gX8_hold_X1_kindOf rfl rfl rfl (by decide +kernel) ⟨Nat.le_of_ble_eq_true rfl, Nat.le_of_ble_eq_true rfl⟩) 2 rfl rfl rfl rfl rfl (Nat.le_of_ble_eq_true rfl) ⟨Nat.zero_le _, Nat.zero_le _⟩ dX8_hold_47 (fun z u hz9 hu => ?_)
  obtain ⟨qz9, hu, rz9⟩ := hu; replace hu := hu.symm; subst hu; subst qz9
  refine f_aload_n C 0 dX8_hold_50 rfl rfl ?_
  refine f_get C hin8 0 1 rfl rfl (Nat.le_of_ble_eq_true rfl) (by decide +kernel) rfl rfl dX8_hold_51 ?_
  refine f_iload_n C 1 dX8_hold_54 rfl rfl ?_
  refine f_calll C (c_X1_measureOf hX p1 ⟨by omega, by omega⟩ (F_X2_add p1 (F_X8_centsOf p1 (F_X8_editionOf p1 p2 st) st) (F_X8_editionOf p1 p2 st) (F_X8_lackOf p1 (F_X8_editionOf p1 p2 st) (F_X8_centsOf p1 (F_X8_editionOf p1 p2 st) st) st) st)) (cwV 1 C.1.2.2.2.2 gX8_hold_X1_measureOf rfl rfl rfl (by decide +kernel) ⟨Nat.le_of_ble_eq_true rfl, Nat.le_of_ble_eq_true rfl⟩) 2 rfl rfl rfl rfl rfl (Nat.le_of_ble_eq_true rfl) ⟨Nat.zero_le _, Nat.zero_le _⟩ dX8_hold_55 (fun z u hz10 hu => ?_)
  obtain ⟨qz10, hu, rz10⟩ := hu; replace hu := hu.symm; subst hu; subst qz10
  refine f_lload C 5 dX8_hold_58 rfl ?_
  refine f_ok (fun hO11 => ?_)
  have k12 : (-1000000000) ≤ (F_X2_add p1 (F_X8_centsOf p1 (F_X8_editionOf p1 p2 st) st) (F_X8_editionOf p1 p2 st) (F_X8_lackOf p1 (F_X8_editionOf p1 p2 st) (F_X8_centsOf p1 (F_X8_editionOf p1 p2 st) st) st) st).1 10 ∧ (F_X2_add p1 (F_X8_centsOf p1 (F_X8_editionOf p1 p2 st) st) (F_X8_editionOf p1 p2 st) (F_X8_lackOf p1 (F_X8_editionOf p1 p2 st) (F_X8_centsOf p1 (F_X8_editionOf p1 p2 st) st) st) st).1 10 ≤ 1000000000 := hO11.1 10
  refine f_callv C (c_X2_print hX (F_X1_kindOf p1 (F_X2_add p1 (F_X8_centsOf p1 (F_X8_editionOf p1 p2 st) st) (F_X8_editionOf p1 p2 st) (F_X8_lackOf p1 (F_X8_editionOf p1 p2 st) (F_X8_centsOf p1 (F_X8_editionOf p1 p2 st) st) st) st)) (F_X1_measureOf p1 (F_X2_add p1 (F_X8_centsOf p1 (F_X8_editionOf p1 p2 st) st) (F_X8_editionOf p1 p2 st) (F_X8_lackOf p1 (F_X8_editionOf p1 p2 st) (F_X8_centsOf p1 (F_X8_editionOf p1 p2 st) st) st) st)) (F_X8_centsOf p1 (F_X8_editionOf p1 p2 st) st) ⟨by omega, by omega⟩ ⟨by omega, by omega⟩ ⟨by omega, by omega⟩ (F_X2_add p1 (F_X8_centsOf p1 (F_X8_editionOf p1 p2 st) st) (F_X8_editionOf p1 p2 st) (F_X8_lackOf p1 (F_X8_editionOf p1 p2 st) (F_X8_centsOf p1 (F_X8_editionOf p1 p2 st) st) st) st) (show 0 ≤ (F_X1_kindOf p1 (F_X2_add p1 (F_X8_centsOf p1 (F_X8_editionOf p1 p2 st) st) (F_X8_editionOf p1 p2 st) (F_X8_lackOf p1 (F_X8_editionOf p1 p2 st) (F_X8_centsOf p1 (F_X8_editionOf p1 p2 st) st) st) st)) ∧ (F_X1_kindOf p1 (F_X2_add p1 (F_X8_centsOf p1 (F_X8_editionOf p1 p2 st) st) (F_X8_editionOf p1 p2 st) (F_X8_lackOf p1 (F_X8_editionOf p1 p2 st) (F_X8_centsOf p1 (F_X8_editionOf p1 p2 st) st) st) st)) ≤ 5 by omega) (show 0 ≤ (F_X1_measureOf p1 (F_X2_add p1 (F_X8_centsOf p1 (F_X8_editionOf p1 p2 st) st) (F_X8_editionOf p1 p2 st) (F_X8_lackOf p1 (F_X8_editionOf p1 p2 st) (F_X8_centsOf p1 (F_X8_editionOf p1 p2 st) st) st) st)) ∧ (F_X1_measureOf p1 (F_X2_add p1 (F_X8_centsOf p1 (F_X8_editionOf p1 p2 st) st) (F_X8_editionOf p1 p2 st) (F_X8_lackOf p1 (F_X8_editionOf p1 p2 st) (F_X8_centsOf p1 (F_X8_editionOf p1 p2 st) st) st) st)) ≤ 1000000 by omega) (show (-100000000000000) ≤ (F_X8_centsOf p1 (F_X8_editionOf p1 p2 st) st) ∧ (F_X8_centsOf p1 (F_X8_editionOf p1 p2 st) st) ≤ 100000000000000 by omega) (show 0 ≤ ((F_X2_add p1 (F_X8_centsOf p1 (F_X8_editionOf p1 p2 st) st) (F_X8_editionOf p1 p2 st) (F_X8_lackOf p1 (F_X8_editionOf p1 p2 st) (F_X8_centsOf p1 (F_X8_editionOf p1 p2 st) st) st) st).1 10) ∧ ((F_X2_add p1 (F_X8_centsOf p1 (F_X8_editionOf p1 p2 st) st) (F_X8_editionOf p1 p2 st) (F_X8_lackOf p1 (F_X8_editionOf p1 p2 st) (F_X8_centsOf p1 (F_X8_editionOf p1 p2 st) st) st) st).1 10) ≤ 800000 by omega)) (cwV 3 C.1.2.2.2.2 gX8_hold_X2_print rfl rfl rfl (by decide +kernel) ⟨Nat.le_of_ble_eq_true rfl, Nat.le_of_ble_eq_true rfl⟩) 7 rfl rfl rfl rfl rfl (Nat.le_of_ble_eq_true rfl) ⟨Nat.zero_le _, Nat.zero_le _⟩ dX8_hold_60 (fun u hu => ?_)
  replace hu := hu.symm; subst hu
  exact f_vret C hret hlk dX8_hold_63 (hp _ (by rw [F_X8_hold]))

theorem keep_print (p1 p2 p4 : Int) (st : fS) : xKeepP st (F_X2_print p1 p2 p4 st) := by
  rw [F_X2_print]
  have h1 := (keep_pn p1 st).tr (keep_sign 32 _)
  have h2 := (h1.tr (keep_pn p2 _)).tr (keep_sign 32 _)
  by_cases c : p4 = -1
  · rw [if_pos c]; exact (h2.tr (keep_sign 63 _)).tr (keep_sign 10 _)
  · rw [if_neg c]; exact (h2.tr (keep_pn p4 _)).tr (keep_sign 10 _)
theorem sign_10 (v : Int) (st : fS) : (F_X2_printSign v st).1 10 = st.1 10 + 1 := rfl
theorem print_10 (p1 p2 p4 : Int) (st : fS) : st.1 10 ≤ (F_X2_print p1 p2 p4 st).1 10 ∧ (F_X2_print p1 p2 p4 st).1 10 ≤ st.1 10 + 58 := by
  rw [F_X2_print]
  have a1 := pn_10 p1 st
  have a2 := sign_10 32 (F_X2_printNumber p1 st)
  have a3 := pn_10 p2 (F_X2_printSign 32 (F_X2_printNumber p1 st))
  have a4 := sign_10 32 (F_X2_printNumber p2 (F_X2_printSign 32 (F_X2_printNumber p1 st)))
  by_cases c : p4 = -1
  · rw [if_pos c]
    have a5 := sign_10 63 (F_X2_printSign 32 (F_X2_printNumber p2 (F_X2_printSign 32 (F_X2_printNumber p1 st))))
    have a6 := sign_10 10 (F_X2_printSign 63 (F_X2_printSign 32 (F_X2_printNumber p2 (F_X2_printSign 32 (F_X2_printNumber p1 st)))))
    exact ⟨by omega, by omega⟩
  · rw [if_neg c]
    have a5 := pn_10 p4 (F_X2_printSign 32 (F_X2_printNumber p2 (F_X2_printSign 32 (F_X2_printNumber p1 st))))
    have a6 := sign_10 10 (F_X2_printNumber p4 (F_X2_printSign 32 (F_X2_printNumber p2 (F_X2_printSign 32 (F_X2_printNumber p1 st)))))
    exact ⟨by omega, by omega⟩
/-- what holding a line leaves as it was -/
def xKeepH (st u : fS) : Prop := (∀ k, k ≠ 9 → k ≠ 10 → u.1 k = st.1 k) ∧ ∀ r, r < 24 → u.2 r = st.2 r
theorem xKeepH.rf (st : fS) : xKeepH st st := ⟨fun _ _ _ => rfl, fun _ _ => rfl⟩
theorem xKeepH.tr {a b c : fS} (h : xKeepH a b) (g : xKeepH b c) : xKeepH a c := ⟨fun k h9 hk => (g.1 k h9 hk).trans (h.1 k h9 hk), fun r hr => (g.2 r hr).trans (h.2 r hr)⟩
theorem xKeepH.steps {a b : fS} (h : xKeepH a b) (s : xSteps a) : xSteps b := xSteps_keep s (h.1 6 (by decide) (by decide)) (h.2 12 (by decide)) (h.2 15 (by decide)) (h.2 16 (by decide)) (h.2 17 (by decide))
theorem keep_hadd (p1 p2 p4 p5 : Int) (st : fS) : xKeepH st (F_X2_add p1 p2 p4 p5 st) := ⟨fun k h9 _ => st_N _ 9 _ h9, fun r hr => by
  rw [F_X2_add, sN_2, st_R _ 27 _ _ (by omega), st_R _ 26 _ _ (by omega), st_R _ 25 _ _ (by omega), st_R _ 24 _ _ (by omega)]⟩
theorem keep_PH {a b : fS} (h : xKeepP a b) : xKeepH a b := ⟨fun k _ h10 => h.1 k h10, fun r hr => h.2 r (by omega)⟩
theorem keep_hold (p1 p2 : Int) (st : fS) : xKeepH st (F_X8_hold p1 p2 st) := by
  rw [F_X8_hold]
  exact (keep_hadd _ _ _ _ st).tr (keep_PH (keep_print _ _ _ _))
theorem hold_9 (p1 p2 : Int) (st : fS) : (F_X8_hold p1 p2 st).1 9 = st.1 9 + 1 := by
  rw [F_X8_hold, (keep_print _ _ _ _).1 9 (by decide)]
  rfl
theorem hold_10 (p1 p2 : Int) (st : fS) : st.1 10 ≤ (F_X8_hold p1 p2 st).1 10 ∧ (F_X8_hold p1 p2 st).1 10 ≤ st.1 10 + 58 := by
  rw [F_X8_hold]
  exact print_10 _ _ _ (F_X2_add p1 (F_X8_centsOf p1 (F_X8_editionOf p1 p2 st) st) (F_X8_editionOf p1 p2 st) (F_X8_lackOf p1 (F_X8_editionOf p1 p2 st) (F_X8_centsOf p1 (F_X8_editionOf p1 p2 st) st) st) st)

def F_X8_walk_22 (v1 v2 v3 : Int) : Nat → Int → fS → Int × fS
  | 0, _, st => (0, st)
  | n + 1, v5, st => if (F_X1_count st) ≤ v5 then (F_X2_count st, st) else (if (F_X1_isOf v5 v1 v2 v3 st) = 0 then F_X8_walk_22 v1 v2 v3 (n) (v5 + 1) st else F_X8_walk_22 v1 v2 v3 (n) (v5 + 1) (F_X8_hold v5 v3 st))

def F_X8_walk (p1 : Int) (p2 : Int) (p3 : Int) (st : fS) : Int × fS := if (F_X8_isAskable p1 p2 p3 st) = 0 then ((-1), st) else F_X8_walk_22 p1 p2 p3 (Int.toNat ((st.1 1) - (0 : Int)) + 1) 0 (sN (sN st 9 0) 10 0)
abbrev rm_X8_walk : Room := { frames := 5, cells := 0, slots := 0, locals := 137 }
set_option maxRecDepth 100000 in
set_option maxHeartbeats 8000000 in
theorem v_X8_walk_22 {l : Launch} {D : va_G} {cI cJ cZ cB : ClassId} {a : Nat → Nat} {E : State → Prop} (hX : xHyp a E) (v1 v2 v3 : Int) (hv1 : in32 v1) (hv2 : in32 v2) (hv3 : in64 v3) {p : Program} {e : Env} {s : State} {m : MethodId} {args : Array Value} {below : List Frame} {meth : Method} {c : Code} (C : fC p m c cX8_walk 6 s args wsX8_walk yX8_walk.cls D (fTys cI cJ cZ cB) E (xA a)) (hret : meth.sig.returnType = (some .int)) (hlk : meth.locks = false) {post : Int → fS → Prop} : ∀ (n : Nat) (v5 : Int) (st : fS), in32 v5 → (0 ≤ v5 ∧ v5 ≤ st.1 1) → (0 ≤ st.1 1 ∧ st.1 1 ≤ 24) → (0 ≤ st.1 9 ∧ st.1 9 ≤ v5) → (0 ≤ st.1 10 ∧ st.1 10 ≤ 58 * v5) → (xSteps st) → st.1 1 - v5 < n → (∀ (z : Int) (u : fS), z = (F_X8_walk_22 v1 v2 v3 n v5 st).1 → u = (F_X8_walk_22 v1 v2 v3 n v5 st).2 → (-1 ≤ z ∧ z ≤ 24) → post z u) → fV D (wX cJ a) xOk (xA a) 6 p l e rm_X8_walk s m args below meth c 0 0 (fMQ below (fQi D (wX cJ a) xOk (xA a) post) args s (xA a)) st 22 [(0, .ref (a 0)), (1, .int (zI v1)), (2, .int (zI v2)), (3, .long (zJ v3)), (5, .int (zI v5))] [] := by
  have hin8 : ∀ w ∈ u_ws RX8 TX8 8, w ∈ wsX8_walk := by decide +kernel
  intro n
  induction n with
  | zero =>
    intro v5 st hv5 i0 i1 i2 i3 i4 hm hp
    omega
  | succ n ih =>
    intro v5 st hv5 i0 i1 i2 i3 i4 hm hp
    have hI := i4
    refine f_iload C 5 dX8_walk_22 rfl ?_
    refine f_aload_n C 0 dX8_walk_24 rfl rfl ?_
    refine f_get C hin8 0 1 rfl rfl (Nat.le_of_ble_eq_true rfl) (by decide +kernel) rfl rfl dX8_walk_25 ?_
    refine f_calli C (c_X1_count hX st) (cwV 0 C.1.2.2.2.2 gX8_walk_X1_count rfl rfl rfl (by decide +kernel) ⟨Nat.le_of_ble_eq_true rfl, Nat.le_of_ble_eq_true rfl⟩) 2 rfl rfl rfl rfl rfl (Nat.le_of_ble_eq_true rfl) ⟨Nat.zero_le _, Nat.zero_le _⟩ dX8_walk_28 (fun z u hz1 hu => ?_)
    obtain ⟨qz1, hu, rz1⟩ := hu; replace hu := hu.symm; subst hu; subst qz1
    refine f_icmp_ge C 62 ⟨by omega, by omega⟩ ⟨by omega, by omega⟩ dX8_walk_31 (by decide) (fun c2 => ?_) (fun c2 => ?_)
    · refine f_aload_n C 0 dX8_walk_62 rfl rfl ?_
      refine f_get C hin8 0 7 rfl rfl (Nat.le_of_ble_eq_true rfl) (by decide +kernel) rfl rfl dX8_walk_63 ?_
      refine f_calli C (c_X2_count hX st) (cwV 0 C.1.2.2.2.2 gX8_walk_X2_count rfl rfl rfl (by decide +kernel) ⟨Nat.le_of_ble_eq_true rfl, Nat.le_of_ble_eq_true rfl⟩) 7 rfl rfl rfl rfl rfl (Nat.le_of_ble_eq_true rfl) ⟨Nat.zero_le _, Nat.zero_le _⟩ dX8_walk_66 (fun z u hz3 hu => ?_)
      obtain ⟨qz3, hu, rz3⟩ := hu; replace hu := hu.symm; subst hu; subst qz3
      exact f_iret C hret hlk dX8_walk_69 ⟨by omega, by omega⟩ (hp _ _ (by rw [F_X8_walk_22, if_pos c2]) (by rw [F_X8_walk_22, if_pos c2]) (by omega))
    refine f_aload_n C 0 dX8_walk_34 rfl rfl ?_
    refine f_get C hin8 0 1 rfl rfl (Nat.le_of_ble_eq_true rfl) (by decide +kernel) rfl rfl dX8_walk_35 ?_
    refine f_iload C 5 dX8_walk_38 rfl ?_
    refine f_iload_n C 1 dX8_walk_40 rfl rfl ?_
    refine f_iload_n C 2 dX8_walk_41 rfl rfl ?_
    refine f_lload_n C 3 dX8_walk_42 rfl rfl ?_
    refine f_calli C (c_X1_isOf hX v5 v1 v2 v3 ⟨by omega, by omega⟩ ⟨by omega, by omega⟩ ⟨by omega, by omega⟩ ⟨by omega, by omega⟩ st) (cwV 4 C.1.2.2.2.2 gX8_walk_X1_isOf rfl rfl rfl (by decide +kernel) ⟨Nat.le_of_ble_eq_true rfl, Nat.le_of_ble_eq_true rfl⟩) 2 rfl rfl rfl rfl rfl (Nat.le_of_ble_eq_true rfl) ⟨Nat.zero_le _, Nat.zero_le _⟩ dX8_walk_43 (fun z u hz4 hu => ?_)
    obtain ⟨qz4, hu, rz4⟩ := hu; replace hu := hu.symm; subst hu; subst qz4
    refine f_if_eq C 56 ⟨by omega, by omega⟩ dX8_walk_46 (by decide) (fun c5 => ?_) (fun c5 => ?_)
    · refine f_iinc C (lv' := [(5, .int (zI (v5 + 1))), (0, .ref (a 0)), (1, .int (zI v1)), (2, .int (zI v2)), (3, .long (zJ v3))]) 4 dX8_walk_56 rfl (Nat.le_of_ble_eq_true rfl) rfl ?_
      refine f_goto C 22 dX8_walk_59 (by decide) ?_
      refine f_re (lv' := [(0, .ref (a 0)), (1, .int (zI v1)), (2, .int (zI v2)), (3, .long (zJ v3)), (5, .int (zI (v5 + 1)))]) [1, 2, 3, 4, 0] rfl ?_
      refine f_ok (fun hO6 => ?_)
      have k7 : 0 ≤ st.1 1 ∧ st.1 1 ≤ 24 := hO6.1 1
      have k8 : 0 ≤ st.1 9 ∧ st.1 9 ≤ 24 := hO6.1 9
      have k9 : (-1000000000) ≤ st.1 10 ∧ st.1 10 ≤ 1000000000 := hO6.1 10
      exact ih (v5 + 1) st ⟨by omega, by omega⟩ (show 0 ≤ (v5 + 1) ∧ (v5 + 1) ≤ (st.1 1) by omega) (show 0 ≤ (st.1 1) ∧ (st.1 1) ≤ 24 by omega) (show 0 ≤ (st.1 9) ∧ (st.1 9) ≤ (v5 + 1) by omega) (show 0 ≤ (st.1 10) ∧ (st.1 10) ≤ 58 * (v5 + 1) by omega) (by assumption) (show (st.1 1) - (v5 + 1) < ((n : Nat) : Int) by omega) (fun z u e1 e2 r1 => hp z u (by rw [F_X8_walk_22, if_neg c2, if_pos c5]; exact e1) (by rw [F_X8_walk_22, if_neg c2, if_pos c5]; exact e2) r1)
    refine f_aload_n C 0 dX8_walk_49 rfl rfl ?_
    refine f_iload C 5 dX8_walk_50 rfl ?_
    refine f_lload_n C 3 dX8_walk_52 rfl rfl ?_
    refine f_ok (fun hO10 => ?_)
    have k11 : 0 ≤ st.1 9 ∧ st.1 9 ≤ 24 := hO10.1 9
    have k12 : (-1000000000) ≤ st.1 10 ∧ st.1 10 ≤ 1000000000 := hO10.1 10
    refine f_callv C (c_X8_hold hX v5 v3 ⟨by omega, by omega⟩ ⟨by omega, by omega⟩ st (show 0 ≤ v5 ∧ v5 ≤ 23 by omega) (show (st.1 9) ≤ 23 by omega) (show 0 ≤ (st.1 10) ∧ (st.1 10) ≤ 700000 by omega) hI) (cwV 2 C.1.2.2.2.2 gX8_walk_X8_hold rfl rfl rfl (by decide +kernel) ⟨Nat.le_of_ble_eq_true rfl, Nat.le_of_ble_eq_true rfl⟩) 0 rfl rfl rfl rfl rfl (Nat.le_of_ble_eq_true rfl) ⟨Nat.zero_le _, Nat.zero_le _⟩ dX8_walk_53 (fun u hu => ?_)
    replace hu := hu.symm; subst hu
    have k14 : (F_X8_hold v5 v3 st).1 9 = st.1 9 + 1 := hold_9 v5 v3 st
    have k15 : st.1 10 ≤ (F_X8_hold v5 v3 st).1 10 ∧ (F_X8_hold v5 v3 st).1 10 ≤ st.1 10 + 58 := hold_10 v5 v3 st
    have k16 : (F_X8_hold v5 v3 st).1 1 = st.1 1 := (keep_hold v5 v3 st).1 1 (by decide) (by decide)
    have k17 : xSteps (F_X8_hold v5 v3 st) := (keep_hold v5 v3 st).steps hI
    refine f_iinc C (lv' := [(5, .int (zI (v5 + 1))), (0, .ref (a 0)), (1, .int (zI v1)), (2, .int (zI v2)), (3, .long (zJ v3))]) 4 dX8_walk_56 rfl (Nat.le_of_ble_eq_true rfl) rfl ?_
    refine f_goto C 22 dX8_walk_59 (by decide) ?_
    refine f_re (lv' := [(0, .ref (a 0)), (1, .int (zI v1)), (2, .int (zI v2)), (3, .long (zJ v3)), (5, .int (zI (v5 + 1)))]) [1, 2, 3, 4, 0] rfl ?_
    refine f_ok (fun hO18 => ?_)
    have k19 : 0 ≤ (F_X8_hold v5 v3 st).1 1 ∧ (F_X8_hold v5 v3 st).1 1 ≤ 24 := hO18.1 1
    have k20 : 0 ≤ (F_X8_hold v5 v3 st).1 9 ∧ (F_X8_hold v5 v3 st).1 9 ≤ 24 := hO18.1 9
    have k21 : (-1000000000) ≤ (F_X8_hold v5 v3 st).1 10 ∧ (F_X8_hold v5 v3 st).1 10 ≤ 1000000000 := hO18.1 10
    exact ih (v5 + 1) (F_X8_hold v5 v3 st) ⟨by omega, by omega⟩ (show 0 ≤ (v5 + 1) ∧ (v5 + 1) ≤ ((F_X8_hold v5 v3 st).1 1) by omega) (show 0 ≤ ((F_X8_hold v5 v3 st).1 1) ∧ ((F_X8_hold v5 v3 st).1 1) ≤ 24 by omega) (show 0 ≤ ((F_X8_hold v5 v3 st).1 9) ∧ ((F_X8_hold v5 v3 st).1 9) ≤ (v5 + 1) by omega) (show 0 ≤ ((F_X8_hold v5 v3 st).1 10) ∧ ((F_X8_hold v5 v3 st).1 10) ≤ 58 * (v5 + 1) by omega) (by assumption) (show ((F_X8_hold v5 v3 st).1 1) - (v5 + 1) < ((n : Nat) : Int) by omega) (fun z u e1 e2 r1 => hp z u (by rw [F_X8_walk_22, if_neg c2, if_neg c5]; exact e1) (by rw [F_X8_walk_22, if_neg c2, if_neg c5]; exact e2) r1)
set_option maxRecDepth 100000 in
set_option maxHeartbeats 8000000 in
theorem c_X8_walk {l : Launch} {D : va_G} {cI cJ cZ cB : ClassId} {a : Nat → Nat} {E : State → Prop} (hX : xHyp a E) (p1 : Int) (p2 : Int) (p3 : Int) (h1 : in32 p1) (h2 : in32 p2) (h3 : in64 p3) (st : fS) (hI : xSteps st) : xMi l D cI cJ cZ cB a E yX8_walk wsX8_walk rm_X8_walk [.ref (a 0), .int (zI p1), .int (zI p2), .long (zJ p3)] st (fun z u => z = (F_X8_walk p1 p2 p3 st).1 ∧ u = (F_X8_walk p1 p2 p3 st).2 ∧ (-1 ≤ z ∧ z ≤ 24)) := by
  refine fB_open (cc := cX8_walk) (maxL := 6) (ret := (some .int)) (by decide) rfl (Nat.le_of_ble_eq_true rfl) hX.2 ?_
  intro p e s m below meth c C hret hlk
  have hin8 : ∀ w ∈ u_ws RX8 TX8 8, w ∈ wsX8_walk := by decide +kernel
  have hp : ∀ (z : Int) (u : fS), z = (F_X8_walk p1 p2 p3 st).1 → u = (F_X8_walk p1 p2 p3 st).2 → (-1 ≤ z ∧ z ≤ 24) → z = (F_X8_walk p1 p2 p3 st).1 ∧ u = (F_X8_walk p1 p2 p3 st).2 ∧ (-1 ≤ z ∧ z ≤ 24) := fun z u h1 h2 r1 => ⟨h1, h2, r1⟩
  refine f_aload_n C 0 dX8_walk_0 rfl rfl ?_
  refine f_iload_n C 1 dX8_walk_1 rfl rfl ?_
  refine f_iload_n C 2 dX8_walk_2 rfl rfl ?_
  refine f_lload_n C 3 dX8_walk_3 rfl rfl ?_
  refine f_calli C (c_X8_isAskable hX p1 p2 p3 ⟨by omega, by omega⟩ ⟨by omega, by omega⟩ ⟨by omega, by omega⟩ st) (cwV 3 C.1.2.2.2.2 gX8_walk_X8_isAskable rfl rfl rfl (by decide +kernel) ⟨Nat.le_of_ble_eq_true rfl, Nat.le_of_ble_eq_true rfl⟩) 0 rfl rfl rfl rfl rfl (Nat.le_of_ble_eq_true rfl) ⟨Nat.zero_le _, Nat.zero_le _⟩ dX8_walk_4 (fun z u hz22 hu => ?_)
  obtain ⟨qz22, hu, rz22⟩ := hu; replace hu := hu.symm; subst hu; subst qz22
  refine f_if_ne C 12 ⟨by omega, by omega⟩ dX8_walk_7 (by decide) (fun c23 => ?_) (fun c23 => ?_)
  · refine f_aload_n C 0 dX8_walk_12 rfl rfl ?_
    refine f_get C hin8 0 7 rfl rfl (Nat.le_of_ble_eq_true rfl) (by decide +kernel) rfl rfl dX8_walk_13 ?_
    refine f_callv C (c_X2_clear hX st) (cwV 0 C.1.2.2.2.2 gX8_walk_X2_clear rfl rfl rfl (by decide +kernel) ⟨Nat.le_of_ble_eq_true rfl, Nat.le_of_ble_eq_true rfl⟩) 7 rfl rfl rfl rfl rfl (Nat.le_of_ble_eq_true rfl) ⟨Nat.zero_le _, Nat.zero_le _⟩ dX8_walk_16 (fun u hu => ?_)
    replace hu : sN (sN st 9 0) 10 0 = u := hu.symm; subst hu
    refine f_iconst C dX8_walk_19 ?_
    refine f_istore C (lv' := [(5, .int (zI 0)), (0, .ref (a 0)), (1, .int (zI p1)), (2, .int (zI p2)), (3, .long (zJ p3))]) dX8_walk_20 (Nat.le_of_ble_eq_true rfl) rfl ?_
    refine f_re (lv' := [(0, .ref (a 0)), (1, .int (zI p1)), (2, .int (zI p2)), (3, .long (zJ p3)), (5, .int (zI 0))]) [1, 2, 3, 4, 0] rfl ?_
    refine f_ok (fun hO25 => ?_)
    have k26 : 0 ≤ st.1 1 ∧ st.1 1 ≤ 24 := hO25.1 1
    exact v_X8_walk_22 hX p1 p2 p3 ⟨by omega, by omega⟩ ⟨by omega, by omega⟩ ⟨by omega, by omega⟩ C hret hlk (Int.toNat ((st.1 1) - (0 : Int)) + 1) 0 (sN (sN st 9 0) 10 0) ⟨by omega, by omega⟩ (show 0 ≤ (0 : Int) ∧ (0 : Int) ≤ (st.1 1) by omega) (show 0 ≤ (st.1 1) ∧ (st.1 1) ≤ 24 by omega) (show 0 ≤ (0 : Int) ∧ (0 : Int) ≤ (0 : Int) by omega) (show 0 ≤ (0 : Int) ∧ (0 : Int) ≤ 58 * (0 : Int) by omega) (xSteps_keep hI rfl rfl rfl rfl rfl) (show (st.1 1) - (0 : Int) < ((Int.toNat ((st.1 1) - (0 : Int)) + 1 : Nat) : Int) by omega) (fun z u e1 e2 r1 => hp z u (by rw [F_X8_walk, if_neg c23]; exact e1) (by rw [F_X8_walk, if_neg c23]; exact e2) r1)
  refine f_iconst C dX8_walk_10 ?_
  exact f_iret C hret hlk dX8_walk_11 ⟨by decide, by decide⟩ (hp _ _ (by rw [F_X8_walk, if_pos c23]) (by rw [F_X8_walk, if_pos c23]) (by omega))
