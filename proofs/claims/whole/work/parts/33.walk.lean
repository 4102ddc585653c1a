/-! ===== PART 33: FeeRules.walk (laid by program) ===== -/
theorem st_N (st : fS) (k : Nat) (v : Int) {j : Nat} (h : j ≠ k) : (sN st k v).1 j = st.1 j := sN_1n st v h
theorem st_R (st : fS) (k : Nat) (i v : Int) {j : Nat} (h : j ≠ k) : (rset st k i v).2 j = st.2 j := sR_2n st _ h
/-- what printing leaves as it was -/
def xKeepP (st u : fS) : Prop := (∀ k, k ≠ 10 → u.1 k = st.1 k) ∧ ∀ r, r ≠ 28 → u.2 r = st.2 r
theorem xKeepP.rf (st : fS) : xKeepP st st := ⟨fun _ _ => rfl, fun _ _ => rfl⟩
theorem xKeepP.tr {a b c : fS} (h : xKeepP a b) (g : xKeepP b c) : xKeepP a c := ⟨fun k hk => (g.1 k hk).trans (h.1 k hk), fun r hr => (g.2 r hr).trans (h.2 r hr)⟩
theorem xKeepP_sign (st : fS) (i v w : Int) : xKeepP st (sN (rset st 28 i v) 10 w) := ⟨fun k hk => st_N _ 10 w hk, fun r hr => st_R st 28 i v hr⟩
theorem keep_sign (v : Int) (st : fS) : xKeepP st (F_X2_printSign v st) := xKeepP_sign st _ _ _
theorem keep_pn37 (v1 : Int) : ∀ (n : Nat) (v3 v5 : Int) (st : fS), xKeepP st (F_X2_printNumber_37 v1 n v3 v5 st) := by
  intro n
  induction n with
  | zero => intro v3 v5 st; rw [F_X2_printNumber_37]; exact xKeepP.rf st
  | succ n ih =>
    intro v3 v5 st
    rw [F_X2_printNumber_37]
    by_cases c1 : 18 ≤ v5
    · rw [if_pos c1]; exact xKeepP.rf st
    rw [if_neg c1]
    by_cases c2 : v3 ≤ 0
    · rw [if_pos c2]; exact xKeepP.rf st
    rw [if_neg c2]
    exact (keep_sign _ st).tr (ih _ _ _)
theorem keep_pn5 (v1 : Int) : ∀ (n : Nat) (v3 v5 : Int) (st : fS), xKeepP st (F_X2_printNumber_5 v1 n v3 v5 st) := by
  intro n
  induction n with
  | zero => intro v3 v5 st; rw [F_X2_printNumber_5]; exact xKeepP.rf st
  | succ n ih =>
    intro v3 v5 st
    rw [F_X2_printNumber_5]
    by_cases c1 : 18 ≤ v5
    · rw [if_pos c1]; exact keep_pn37 _ _ _ _ _
    rw [if_neg c1]
    by_cases c2 : Int.tdiv v1 10 < v3
    · rw [if_pos c2]; exact keep_pn37 _ _ _ _ _
    rw [if_neg c2]
    exact ih _ _ _
theorem keep_pn (v : Int) (st : fS) : xKeepP st (F_X2_printNumber v st) := keep_pn5 _ _ _ _ _

def F_X8_hold (p1 p2 : Int) (st : fS) : fS := F_X2_print (F_X1_kindOf p1 (F_X2_add p1 (F_X8_centsOf p1 (F_X8_editionOf p1 p2 st) st) (F_X8_editionOf p1 p2 st) (F_X8_lackOf p1 (F_X8_editionOf p1 p2 st) (F_X8_centsOf p1 (F_X8_editionOf p1 p2 st) st) st) st)) (F_X1_measureOf p1 (F_X2_add p1 (F_X8_centsOf p1 (F_X8_editionOf p1 p2 st) st) (F_X8_editionOf p1 p2 st) (F_X8_lackOf p1 (F_X8_editionOf p1 p2 st) (F_X8_centsOf p1 (F_X8_editionOf p1 p2 st) st) st) st)) (F_X8_centsOf p1 (F_X8_editionOf p1 p2 st) st) (F_X2_add p1 (F_X8_centsOf p1 (F_X8_editionOf p1 p2 st) st) (F_X8_editionOf p1 p2 st) (F_X8_lackOf p1 (F_X8_editionOf p1 p2 st) (F_X8_centsOf p1 (F_X8_editionOf p1 p2 st) st) st) st)
abbrev rm_X8_hold : Room := { frames := 4, cells := 0, slots := 0, locals := 111 }
set_option maxRecDepth 100000 in
set_option maxHeartbeats 8000000 in
theorem c_X8_hold {l : Launch} {D : va_G} {cI cJ cZ cB : ClassId} {a : Nat → Nat} {E : State → Prop} (hX : xHyp a E) (p1 p2 : Int) (h1 : in32 p1) (h2 : in64 p2) (st : fS) (q1 : 0 ≤ p1 ∧ p1 ≤ 23) (q9 : st.1 9 ≤ 23) (q10 : 0 ≤ st.1 10 ∧ st.1 10 ≤ 700000) (hI : xSteps st) : xMv l D cI cJ cZ cB a E yX8_hold wsX8_hold rm_X8_hold [.ref (a 0), .int (zI p1), .long (zJ p2)] st (fun u => u = F_X8_hold p1 p2 st) := by
  refine fB_open (cc := cX8_hold) (maxL := 7) (ret := none) (by decide) rfl (Nat.le_of_ble_eq_true rfl) hX.2 ?_
  intro p e s m below meth c C hret hlk
  have hin8 : ∀ w ∈ u_ws RX8 TX8 8, w ∈ wsX8_hold := by decide +kernel
  have hp : ∀ u : fS, u = F_X8_hold p1 p2 st → u = F_X8_hold p1 p2 st := fun _ h => h
  refine f_aload_n C 0 dX8_hold_0 rfl rfl ?_
  refine f_iload_n C 1 dX8_hold_1 rfl rfl ?_
  refine f_lload_n C 2 dX8_hold_2 rfl rfl ?_
  refine f_calli C (c_X8_editionOf hX p1 p2 ⟨by omega, by omega⟩ ⟨by omega, by omega⟩ st) (cwV 2 C.1.2.2.2.2 gX8_hold_X8_editionOf rfl rfl rfl (by decide +kernel) ⟨Nat.le_of_ble_eq_true rfl, Nat.le_of_ble_eq_true rfl⟩) 0 rfl rfl rfl rfl rfl (Nat.le_of_ble_eq_true rfl) ⟨Nat.zero_le _, Nat.zero_le _⟩ dX8_hold_3 (fun z u hz1 hu => ?_)
  obtain ⟨qz1, hu, rz1⟩ := hu; replace hu := hu.symm; subst hu; subst qz1
  refine f_istore C (lv' := [(4, .int (zI (F_X8_editionOf p1 p2 st))), (0, .ref (a 0)), (1, .int (zI p1)), (2, .long (zJ p2))]) dX8_hold_6 (Nat.le_of_ble_eq_true rfl) rfl ?_
  refine f_aload_n C 0 dX8_hold_8 rfl rfl ?_
  refine f_iload_n C 1 dX8_hold_9 rfl rfl ?_
  refine f_iload C 4 dX8_hold_10 rfl ?_
  refine f_calll C (c_X8_centsOf hX p1 (F_X8_editionOf p1 p2 st) ⟨by omega, by omega⟩ ⟨by omega, by omega⟩ st (show (-1) ≤ (F_X8_editionOf p1 p2 st) ∧ (F_X8_editionOf p1 p2 st) ≤ 5 by omega) hI) (cwV 2 C.1.2.2.2.2 gX8_hold_X8_centsOf rfl rfl rfl (by decide +kernel) ⟨Nat.le_of_ble_eq_true rfl, Nat.le_of_ble_eq_true rfl⟩) 0 rfl rfl rfl rfl rfl (Nat.le_of_ble_eq_true rfl) ⟨Nat.zero_le _, Nat.zero_le _⟩ dX8_hold_12 (fun z u hz2 hu => ?_)
  obtain ⟨qz2, hu, rz2⟩ := hu; replace hu := hu.symm; subst hu; subst qz2
  refine f_lstore C (lv' := [(5, .long (zJ (F_X8_centsOf p1 (F_X8_editionOf p1 p2 st) st))), (4, .int (zI (F_X8_editionOf p1 p2 st))), (0, .ref (a 0)), (1, .int (zI p1)), (2, .long (zJ p2))]) dX8_hold_15 (Nat.le_of_ble_eq_true rfl) rfl ?_
  refine f_aload_n C 0 dX8_hold_17 rfl rfl ?_
  refine f_get C hin8 0 7 rfl rfl (Nat.le_of_ble_eq_true rfl) (by decide +kernel) rfl rfl dX8_hold_18 ?_
  refine f_iload_n C 1 dX8_hold_21 rfl rfl ?_
  refine f_lload C 5 dX8_hold_22 rfl ?_
  refine f_iload C 4 dX8_hold_24 rfl ?_
  refine f_aload_n C 0 dX8_hold_26 rfl rfl ?_
  refine f_iload_n C 1 dX8_hold_27 rfl rfl ?_
  refine f_iload C 4 dX8_hold_28 rfl ?_
  refine f_lload C 5 dX8_hold_30 rfl ?_
  refine f_calli C (c_X8_lackOf hX p1 (F_X8_editionOf p1 p2 st) (F_X8_centsOf p1 (F_X8_editionOf p1 p2 st) st) ⟨by omega, by omega⟩ ⟨by omega, by omega⟩ ⟨by omega, by omega⟩ st (show (-1) ≤ (F_X8_editionOf p1 p2 st) ∧ (F_X8_editionOf p1 p2 st) ≤ 5 by omega)) (cwV 3 C.1.2.2.2.2 gX8_hold_X8_lackOf rfl rfl rfl (by decide +kernel) ⟨Nat.le_of_ble_eq_true rfl, Nat.le_of_ble_eq_true rfl⟩) 0 rfl rfl rfl rfl rfl (Nat.le_of_ble_eq_true rfl) ⟨Nat.zero_le _, Nat.zero_le _⟩ dX8_hold_32 (fun z u hz3 hu => ?_)
  obtain ⟨qz3, hu, rz3⟩ := hu; replace hu := hu.symm; subst hu; subst qz3
  refine f_ok (fun hO4 => ?_)
  have k5 : 0 ≤ st.1 9 ∧ st.1 9 ≤ 24 := hO4.1 9
  refine f_callv C (c_X2_add hX p1 (F_X8_centsOf p1 (F_X8_editionOf p1 p2 st) st) (F_X8_editionOf p1 p2 st) (F_X8_lackOf p1 (F_X8_editionOf p1 p2 st) (F_X8_centsOf p1 (F_X8_editionOf p1 p2 st) st) st) ⟨by omega, by omega⟩ ⟨by omega, by omega⟩ ⟨by omega, by omega⟩ ⟨by omega, by omega⟩ st (show 0 ≤ p1 ∧ p1 ≤ 23 by omega) (show (-100000000000000) ≤ (F_X8_centsOf p1 (F_X8_editionOf p1 p2 st) st) ∧ (F_X8_centsOf p1 (F_X8_editionOf p1 p2 st) st) ≤ 100000000000000 by omega) (show (-1) ≤ (F_X8_editionOf p1 p2 st) ∧ (F_X8_editionOf p1 p2 st) ≤ 5 by omega) (show 0 ≤ (F_X8_lackOf p1 (F_X8_editionOf p1 p2 st) (F_X8_centsOf p1 (F_X8_editionOf p1 p2 st) st) st) ∧ (F_X8_lackOf p1 (F_X8_editionOf p1 p2 st) (F_X8_centsOf p1 (F_X8_editionOf p1 p2 st) st) st) ≤ 2 by omega) (show (st.1 9) ≤ 23 by omega)) (cwV 4 C.1.2.2.2.2 gX8_hold_X2_add rfl rfl rfl (by decide +kernel) ⟨Nat.le_of_ble_eq_true rfl, Nat.le_of_ble_eq_true rfl⟩) 7 rfl rfl rfl rfl rfl (Nat.le_of_ble_eq_true rfl) ⟨Nat.zero_le _, Nat.zero_le _⟩ dX8_hold_35 (fun u hu => ?_)
  replace hu := hu.symm; subst hu
  have k7 : (F_X2_add p1 (F_X8_centsOf p1 (F_X8_editionOf p1 p2 st) st) (F_X8_editionOf p1 p2 st) (F_X8_lackOf p1 (F_X8_editionOf p1 p2 st) (F_X8_centsOf p1 (F_X8_editionOf p1 p2 st) st) st) st).1 10 = st.1 10 := rfl
  have k8 : (F_X2_add p1 (F_X8_centsOf p1 (F_X8_editionOf p1 p2 st) st) (F_X8_editionOf p1 p2 st) (F_X8_lackOf p1 (F_X8_editionOf p1 p2 st) (F_X8_centsOf p1 (F_X8_editionOf p1 p2 st) st) st) st).1 9 = st.1 9 + 1 := rfl
  refine f_aload_n C 0 dX8_hold_38 rfl rfl ?_
  refine f_get C hin8 0 7 rfl rfl (Nat.le_of_ble_eq_true rfl) (by decide +kernel) rfl rfl dX8_hold_39 ?_
  refine f_aload_n C 0 dX8_hold_42 rfl rfl ?_
  refine f_get C hin8 0 1 rfl rfl (Nat.le_of_ble_eq_true rfl) (by decide +kernel) rfl rfl dX8_hold_43 ?_
  refine f_iload_n C 1 dX8_hold_46 rfl rfl ?_
  refine f_calli C (c_X1_kindOf hX p1 ⟨by omega, by omega⟩ (F_X2_add p1 (F_X8_centsOf p1 (F_X8_editionOf p1 p2 st) st) (F_X8_editionOf p1 p2 st) (F_X8_lackOf p1 (F_X8_editionOf p1 p2 st) (F_X8_centsOf p1 (F_X8_editionOf p1 p2 st) st) st) st)) (cwV 1 C.1.2.2.2.2 gX8_hold_X1_kindOf rfl rfl rfl (by decide +kernel) ⟨Nat.le_of_ble_eq_true rfl, Nat.le_of_ble_eq_true rfl⟩) 2 rfl rfl rfl rfl rfl (Nat.le_of_ble_eq_true rfl) ⟨Nat.zero_le _, Nat.zero_le _⟩ dX8_hold_47 (fun z u hz9 hu => ?_)
  obtain ⟨qz9, hu, rz9⟩ := hu; replace hu := hu.symm; subst hu; subst qz9
  refine f_aload_n C 0 dX8_hold_50 rfl rfl ?_
  refine f_get C hin8 0 1 rfl rfl (Nat.le_of_ble_eq_true rfl) (by decide +kernel) rfl rfl dX8_hold_51 ?_
  refine f_iload_n C 1 dX8_hold_54 rfl rfl ?_
  refine f_calll C (c_X1_measureOf hX p1 ⟨by omega, by omega⟩ (F_X2_add p1 (F_X8_centsOf p1 (F_X8_editionOf p1 p2 st) st) (F_X8_editionOf p1 p2 st) (F_X8_lackOf p1 (F_X8_editionOf p1 p2 st) (F_X8_centsOf p1 (F_X8_editionOf p1 p2 st) st) st) st)) (cwV 1 C.1.2.2.2.2 gX8_hold_X1_measureOf rfl rfl rfl (by decide +kernel) ⟨Nat.le_of_ble_eq_true rfl, Nat.le_of_ble_eq_true rfl⟩) 2 rfl rfl rfl rfl rfl (Nat.le_of_ble_eq_true rfl) ⟨Nat.zero_le _, Nat.zero_le _⟩ dX8_hold_55 (fun z u hz10 hu => ?_)
  obtain ⟨qz10, hu, rz10⟩ := hu; replace hu := hu.symm; subst hu; subst qz10
  refine f_lload C 5 dX8_hold_58 rfl ?_
  refine f_ok (fun hO11 => ?_)
  have k12 : (-1000000000) ≤ (F_X2_add p1 (F_X8_centsOf p1 (F_X8_editionOf p1 p2 st) st) (F_X8_editionOf p1 p2 st) (F_X8_lackOf p1 (F_X8_editionOf p1 p2 st) (F_X8_centsOf p1 (F_X8_editionOf p1 p2 st) st) st) st).1 10 ∧ (F_X2_add p1 (F_X8_centsOf p1 (F_X8_editionOf p1 p2 st) st) (F_X8_editionOf p1 p2 st) (F_X8_lackOf p1 (F_X8_editionOf p1 p2 st) (F_X8_centsOf p1 (F_X8_editionOf p1 p2 st) st) st) st).1 10 ≤ 1000000000 := hO11.1 10
  refine f_callv C (c_X2_print hX (F_X1_kindOf p1 (F_X2_add p1 (F_X8_centsOf p1 (F_X8_editionOf p1 p2 st) st) (F_X8_editionOf p1 p2 st) (F_X8_lackOf p1 (F_X8_editionOf p1 p2 st) (F_X8_centsOf p1 (F_X8_editionOf p1 p2 st) st) st) st)) (F_X1_measureOf p1 (F_X2_add p1 (F_X8_centsOf p1 (F_X8_editionOf p1 p2 st) st) (F_X8_editionOf p1 p2 st) (F_X8_lackOf p1 (F_X8_editionOf p1 p2 st) (F_X8_centsOf p1 (F_X8_editionOf p1 p2 st) st) st) st)) (F_X8_centsOf p1 (F_X8_editionOf p1 p2 st) st) ⟨by omega, by omega⟩ ⟨by omega, by omega⟩ ⟨by omega, by omega⟩ (F_X2_add p1 (F_X8_centsOf p1 (F_X8_editionOf p1 p2 st) st) (F_X8_editionOf p1 p2 st) (F_X8_lackOf p1 (F_X8_editionOf p1 p2 st) (F_X8_centsOf p1 (F_X8_editionOf p1 p2 st) st) st) st) (show 0 ≤ (F_X1_kindOf p1 (F_X2_add p1 (F_X8_centsOf p1 (F_X8_editionOf p1 p2 st) st) (F_X8_editionOf p1 p2 st) (F_X8_lackOf p1 (F_X8_editionOf p1 p2 st) (F_X8_centsOf p1 (F_X8_editionOf p1 p2 st) st) st) st)) ∧ (F_X1_kindOf p1 (F_X2_add p1 (F_X8_centsOf p1 (F_X8_editionOf p1 p2 st) st) (F_X8_editionOf p1 p2 st) (F_X8_lackOf p1 (F_X8_editionOf p1 p2 st) (F_X8_centsOf p1 (F_X8_editionOf p1 p2 st) st) st) st)) ≤ 5 by omega) (show 0 ≤ (F_X1_measureOf p1 (F_X2_add p1 (F_X8_centsOf p1 (F_X8_editionOf p1 p2 st) st) (F_X8_editionOf p1 p2 st) (F_X8_lackOf p1 (F_X8_editionOf p1 p2 st) (F_X8_centsOf p1 (F_X8_editionOf p1 p2 st) st) st) st)) ∧ (F_X1_measureOf p1 (F_X2_add p1 (F_X8_centsOf p1 (F_X8_editionOf p1 p2 st) st) (F_X8_editionOf p1 p2 st) (F_X8_lackOf p1 (F_X8_editionOf p1 p2 st) (F_X8_centsOf p1 (F_X8_editionOf p1 p2 st) st) st) st)) ≤ 1000000 by omega) (show (-100000000000000) ≤ (F_X8_centsOf p1 (F_X8_editionOf p1 p2 st) st) ∧ (F_X8_centsOf p1 (F_X8_editionOf p1 p2 st) st) ≤ 100000000000000 by omega) (show 0 ≤ ((F_X2_add p1 (F_X8_centsOf p1 (F_X8_editionOf p1 p2 st) st) (F_X8_editionOf p1 p2 st) (F_X8_lackOf p1 (F_X8_editionOf p1 p2 st) (F_X8_centsOf p1 (F_X8_editionOf p1 p2 st) st) st) st).1 10) ∧ ((F_X2_add p1 (F_X8_centsOf p1 (F_X8_editionOf p1 p2 st) st) (F_X8_editionOf p1 p2 st) (F_X8_lackOf p1 (F_X8_editionOf p1 p2 st) (F_X8_centsOf p1 (F_X8_editionOf p1 p2 st) st) st) st).1 10) ≤ 800000 by omega)) (cwV 3 C.1.2.2.2.2 gX8_hold_X2_print rfl rfl rfl (by decide +kernel) ⟨Nat.le_of_ble_eq_true rfl, Nat.le_of_ble_eq_true rfl⟩) 7 rfl rfl rfl rfl rfl (Nat.le_of_ble_eq_true rfl) ⟨Nat.zero_le _, Nat.zero_le _⟩ dX8_hold_60 (fun u hu => ?_)
  replace hu := hu.symm; subst hu
  exact f_vret C hret hlk dX8_hold_63 (hp _ (by rw [F_X8_hold]))
