/-! ===== PART 26: editions (laid by program) ===== -/
def F_X0_startDraft_7 : Nat → Int → fS → fS
  | 0, _, st => st
  | n + 1, v1, st => if 6 ≤ v1 then st else F_X0_startDraft_7  (n) (v1 + 1) (rset st 12 (F_X0_cellOf (st.1 6) v1 st) (-1))

def F_X0_startDraft (st : fS) : fS := F_X0_startDraft_7  (Int.toNat (6 - (0 : Int)) + 1) 0 (sN st 7 0)
abbrev rm_X0_startDraft : Room := { frames := 1, cells := 0, slots := 0, locals := 23 }
set_option maxRecDepth 100000 in
set_option maxHeartbeats 8000000 in
theorem v_X0_startDraft_7 {l : Launch} {D : va_G} {cI cJ cZ cB : ClassId} {a : Nat → Nat} {E : State → Prop} (hX : xHyp a E)  {p : Program} {e : Env} {s : State} {m : MethodId} {args : Array Value} {below : List Frame} {meth : Method} {c : Code} (C : fC p m c cX0_startDraft 2 s args wsX0_startDraft yX0_startDraft.cls D (fTys cI cJ cZ cB) E (xA a)) (hret : meth.sig.returnType = none) (hlk : meth.locks = false) {post : fS → Prop} : ∀ (n : Nat) (v1 : Int) (st : fS), in32 v1 → (0 ≤ v1 ∧ v1 ≤ 6) → 6 - v1 < n → (∀ u : fS, u = F_X0_startDraft_7 n v1 st → post u) → fV D (wX cJ a) xOk (xA a) 2 p l e rm_X0_startDraft s m args below meth c 0 0 (fMQ below (fQv D (wX cJ a) xOk (xA a) post) args s (xA a)) st 7 [(0, .ref (a 4)), (1, .int (zI v1))] [] := by
  have hin0 : ∀ w ∈ u_ws RX0 TX0 12, w ∈ wsX0_startDraft := by decide +kernel
  intro n
  induction n with
  | zero =>
    intro v1 st hv1 i0 hm hp
    omega
  | succ n ih =>
    intro v1 st hv1 i0 hm hp
    refine f_iload_n C 1 dX0_startDraft_7 rfl rfl ?_
    refine f_bipush C dX0_startDraft_8 (by decide) ?_
    refine f_icmp_ge C 37 ⟨by omega, by omega⟩ ⟨by decide, by decide⟩ dX0_startDraft_10 (by decide) (fun c1 => ?_) (fun c1 => ?_)
    · exact f_vret C hret hlk dX0_startDraft_37 (hp _ (by rw [F_X0_startDraft_7, if_pos c1]))
    refine f_aload_n C 0 dX0_startDraft_13 rfl rfl ?_
    refine f_get C hin0 4 3 rfl rfl (Nat.le_of_ble_eq_true rfl) (by decide +kernel) rfl rfl dX0_startDraft_14 ?_
    refine f_aload_n C 0 dX0_startDraft_17 rfl rfl ?_
    refine f_ok (fun hO2 => ?_)
    have k3 : 0 ≤ st.1 6 ∧ st.1 6 ≤ 6 := hO2.1 6
    refine f_get C (v := .int (zI (st.1 6))) hin0 4 10 rfl rfl (Nat.le_of_ble_eq_true rfl) (by decide +kernel) rfl rfl dX0_startDraft_18 ?_
    refine f_iload_n C 1 dX0_startDraft_21 rfl rfl ?_
    refine f_callsi C (c_X0_cellOf hX (st.1 6) v1 ⟨by omega, by omega⟩ ⟨by omega, by omega⟩ st (show (-1000000) ≤ (st.1 6) ∧ (st.1 6) ≤ 1000000 by omega) (show (-1000000) ≤ v1 ∧ v1 ≤ 1000000 by omega)) (va_cwS 2 C.1.2.2.2.2 gX0_startDraft_X0_cellOf rfl rfl rfl (by decide +kernel) ⟨Nat.le_of_ble_eq_true rfl, Nat.le_of_ble_eq_true rfl⟩) rfl rfl (Nat.le_of_ble_eq_true rfl) ⟨Nat.zero_le _, Nat.zero_le _⟩ dX0_startDraft_22 (fun z u hz4 hu => ?_)
    obtain ⟨qz4, hu, rz4⟩ := hu; replace hu := hu.symm; subst hu; subst qz4
    refine f_ldc2 C (v := (-1)) (z := (-1)) (by decide +kernel) (by decide) dX0_startDraft_25 ?_
    refine f_callv C (c_Row_set hX 12 (Nat.le_of_ble_eq_true rfl) (F_X0_cellOf (st.1 6) v1 st) (-1) ⟨by omega, by omega⟩ (show (-1) ≤ (-1 : Int) ∧ (-1 : Int) ≤ 999999 by omega) st) (cwV 2 C.1.2.2.2.2 gX0_startDraft_X5_set rfl rfl rfl (by decide +kernel) ⟨Nat.le_of_ble_eq_true rfl, Nat.le_of_ble_eq_true rfl⟩) 20 (wX_row cJ a st (r := 12) (Nat.le_of_ble_eq_true rfl)) rfl rfl rfl rfl (Nat.le_of_ble_eq_true rfl) ⟨Nat.zero_le _, Nat.zero_le _⟩ dX0_startDraft_28 (fun u hu => ?_)
    replace hu := hu.symm; subst hu
    refine f_iinc C (lv' := [(1, .int (zI (v1 + 1))), (0, .ref (a 4))]) 1 dX0_startDraft_31 rfl (Nat.le_of_ble_eq_true rfl) rfl ?_
    refine f_goto C 7 dX0_startDraft_34 (by decide) ?_
    refine f_re (lv' := [(0, .ref (a 4)), (1, .int (zI (v1 + 1)))]) [1, 0] rfl ?_
    exact ih (v1 + 1) (rset st 12 (F_X0_cellOf (st.1 6) v1 st) (-1)) ⟨by omega, by omega⟩ (show 0 ≤ (v1 + 1) ∧ (v1 + 1) ≤ 6 by omega) (show 6 - (v1 + 1) < ((n : Nat) : Int) by omega) (fun u e2 => hp u (by rw [F_X0_startDraft_7, if_neg c1]; exact e2))
set_option maxRecDepth 100000 in
set_option maxHeartbeats 8000000 in
theorem c_X0_startDraft {l : Launch} {D : va_G} {cI cJ cZ cB : ClassId} {a : Nat → Nat} {E : State → Prop} (hX : xHyp a E)   (st : fS)  : xMv l D cI cJ cZ cB a E yX0_startDraft wsX0_startDraft rm_X0_startDraft [.ref (a 4)] st (fun u => u = F_X0_startDraft st) := by
  refine fB_open (cc := cX0_startDraft) (maxL := 2) (ret := none) (by decide) rfl (Nat.le_of_ble_eq_true rfl) hX.2 ?_
  intro p e s m below meth c C hret hlk
  have hin0 : ∀ w ∈ u_ws RX0 TX0 12, w ∈ wsX0_startDraft := by decide +kernel
  have hp : ∀ u : fS, u = F_X0_startDraft st → u = F_X0_startDraft st := fun _ h => h
  refine f_aload_n C 0 dX0_startDraft_0 rfl rfl ?_
  refine f_iconst C dX0_startDraft_1 ?_
  refine f_put C (xD hX.1 cJ) hin0 tyX0 tyX0_ok nmX0 4 11 rfl rfl (Nat.le_of_ble_eq_true rfl) (by decide +kernel) rfl rfl (ty := .int) (by decide +kernel) rfl rfl (Nat.le_of_ble_eq_true rfl) (u := sN st 7 0) rfl (fun h => fOk_N h (show (-1000000000) ≤ (0 : Int) ∧ (0 : Int) ≤ 1000000000 by omega)) dX0_startDraft_2 ?_
  refine f_iconst C dX0_startDraft_5 ?_
  refine f_istore_n C 1 (lv' := [(1, .int (zI 0)), (0, .ref (a 4))]) dX0_startDraft_6 rfl (Nat.le_of_ble_eq_true rfl) rfl ?_
  refine f_re (lv' := [(0, .ref (a 4)), (1, .int (zI 0))]) [1, 0] rfl ?_
  exact v_X0_startDraft_7 hX   C hret hlk (Int.toNat (6 - (0 : Int)) + 1) 0 (sN st 7 0) ⟨by omega, by omega⟩ (show 0 ≤ (0 : Int) ∧ (0 : Int) ≤ 6 by omega) (show 6 - (0 : Int) < ((Int.toNat (6 - (0 : Int)) + 1 : Nat) : Int) by omega) (fun u e2 => hp u (by rw [F_X0_startDraft]; exact e2))

/-- how many steps the draft's rule of a kind has -/
def xSC (k : Int) (st : fS) : Int := rget 36 (st.2 16) (F_X0_cellOf (st.1 6) k st)

def F_X0_draftHasRule (p1 : Int) (st : fS) : Int := if (rget 36 (st.2 12) (F_X0_cellOf (st.1 6) p1 st)) = (-1) then 0 else 1
abbrev rm_X0_draftHasRule : Room := { frames := 1, cells := 0, slots := 0, locals := 21 }
set_option maxRecDepth 100000 in
set_option maxHeartbeats 8000000 in
theorem c_X0_draftHasRule {l : Launch} {D : va_G} {cI cJ cZ cB : ClassId} {a : Nat → Nat} {E : State → Prop} (hX : xHyp a E) (p1 : Int) (h1 : in32 p1) (st : fS) (q1 : (-1000000) ≤ p1 ∧ p1 ≤ 1000000) : xMi l D cI cJ cZ cB a E yX0_draftHasRule wsX0_draftHasRule rm_X0_draftHasRule [.ref (a 4), .int (zI p1)] st (fun z u => z = F_X0_draftHasRule p1 st ∧ u = st ∧ (z = 0 ∨ z = 1)) := by
  refine fB_open (cc := cX0_draftHasRule) (maxL := 2) (ret := (some .boolean)) (by decide) rfl (Nat.le_of_ble_eq_true rfl) hX.2 ?_
  intro p e s m below meth c C hret hlk
  have hin0 : ∀ w ∈ u_ws RX0 TX0 12, w ∈ wsX0_draftHasRule := by decide +kernel
  have hp : ∀ z : Int, z = F_X0_draftHasRule p1 st → (z = 0 ∨ z = 1) → z = F_X0_draftHasRule p1 st ∧ st = st ∧ (z = 0 ∨ z = 1) := fun z h r1 => ⟨h, rfl, r1⟩
  refine f_aload_n C 0 dX0_draftHasRule_0 rfl rfl ?_
  refine f_get C hin0 4 3 rfl rfl (Nat.le_of_ble_eq_true rfl) (by decide +kernel) rfl rfl dX0_draftHasRule_1 ?_
  refine f_aload_n C 0 dX0_draftHasRule_4 rfl rfl ?_
  refine f_ok (fun hO1 => ?_)
  have k2 : 0 ≤ st.1 6 ∧ st.1 6 ≤ 6 := hO1.1 6
  refine f_get C (v := .int (zI (st.1 6))) hin0 4 10 rfl rfl (Nat.le_of_ble_eq_true rfl) (by decide +kernel) rfl rfl dX0_draftHasRule_5 ?_
  refine f_iload_n C 1 dX0_draftHasRule_8 rfl rfl ?_
  refine f_callsi C (c_X0_cellOf hX (st.1 6) p1 ⟨by omega, by omega⟩ ⟨by omega, by omega⟩ st (show (-1000000) ≤ (st.1 6) ∧ (st.1 6) ≤ 1000000 by omega) (show (-1000000) ≤ p1 ∧ p1 ≤ 1000000 by omega)) (va_cwS 2 C.1.2.2.2.2 gX0_draftHasRule_X0_cellOf rfl rfl rfl (by decide +kernel) ⟨Nat.le_of_ble_eq_true rfl, Nat.le_of_ble_eq_true rfl⟩) rfl rfl (Nat.le_of_ble_eq_true rfl) ⟨Nat.zero_le _, Nat.zero_le _⟩ dX0_draftHasRule_9 (fun z u hz3 hu => ?_)
  obtain ⟨qz3, hu, rz3⟩ := hu; replace hu := hu.symm; subst hu; subst qz3
  refine f_calll C (c_Row_get hX 12 (Nat.le_of_ble_eq_true rfl) (F_X0_cellOf (st.1 6) p1 st) ⟨by omega, by omega⟩ st) (cwV 1 C.1.2.2.2.2 gX0_draftHasRule_X5_get rfl rfl rfl (by decide +kernel) ⟨Nat.le_of_ble_eq_true rfl, Nat.le_of_ble_eq_true rfl⟩) 20 (wX_row cJ a st (r := 12) (Nat.le_of_ble_eq_true rfl)) rfl rfl rfl rfl (Nat.le_of_ble_eq_true rfl) ⟨Nat.zero_le _, Nat.zero_le _⟩ dX0_draftHasRule_12 (fun z u hz4 hu => ?_)
  obtain ⟨qz4, hu⟩ : z = rget 36 (st.2 12) (F_X0_cellOf (st.1 6) p1 st) ∧ u = st := hu
  replace hu := hu.symm; subst hu; subst qz4
  have k5 : (-1) ≤ rget 36 (st.2 12) (F_X0_cellOf (st.1 6) p1 st) ∧ rget 36 (st.2 12) (F_X0_cellOf (st.1 6) p1 st) ≤ 999999 := xget_ok hO1 12 36 (F_X0_cellOf (st.1 6) p1 st)
  refine f_ldc2 C (v := (-1)) (z := (-1)) (by decide +kernel) (by decide) dX0_draftHasRule_15 ?_
  refine f_lc_if_eq C 26 ⟨by omega, by omega⟩ ⟨by decide, by decide⟩ dX0_draftHasRule_18 dX0_draftHasRule_19 (by decide) (fun c6 => ?_) (fun c6 => ?_)
  · refine f_iconst C dX0_draftHasRule_26 ?_
    exact f_zret C hret hlk dX0_draftHasRule_27 (by decide) (hp _ (by rw [F_X0_draftHasRule, if_pos c6]) (by omega))
  refine f_iconst C dX0_draftHasRule_22 ?_
  refine f_goto C 27 dX0_draftHasRule_23 (by decide) ?_
  exact f_zret C hret hlk dX0_draftHasRule_27 (by decide) (hp _ (by rw [F_X0_draftHasRule, if_neg c6]) (by omega))

def F_X0_tellRule (p1 : Int) (p2 : Int) (p4 : Int) (st : fS) : fS := rset (rset (rset (rset (rset st 12 (F_X0_cellOf (st.1 6) p1 st) p2) 13 (F_X0_cellOf (st.1 6) p1 st) p4) 14 (F_X0_cellOf (st.1 6) p1 st) (-1)) 15 (F_X0_cellOf (st.1 6) p1 st) (((st.1 6) * 66) + (st.1 7))) 16 (F_X0_cellOf (st.1 6) p1 st) 0
abbrev rm_X0_tellRule : Room := { frames := 1, cells := 0, slots := 0, locals := 23 }
set_option maxRecDepth 100000 in
set_option maxHeartbeats 8000000 in
theorem c_X0_tellRule {l : Launch} {D : va_G} {cI cJ cZ cB : ClassId} {a : Nat → Nat} {E : State → Prop} (hX : xHyp a E) (p1 : Int) (p2 : Int) (p4 : Int) (h1 : in32 p1) (h2 : in64 p2) (h4 : in64 p4) (st : fS) (q1 : (-1000000) ≤ p1 ∧ p1 ≤ 1000000) (q2 : 0 ≤ p2 ∧ p2 ≤ 999999) (q4 : 0 ≤ p4 ∧ p4 ≤ 999999) (q7 : 0 ≤ st.1 7 ∧ st.1 7 ≤ 100000) : xMv l D cI cJ cZ cB a E yX0_tellRule wsX0_tellRule rm_X0_tellRule [.ref (a 4), .int (zI p1), .long (zJ p2), .long (zJ p4)] st (fun u => u = F_X0_tellRule p1 p2 p4 st) := by
  refine fB_open (cc := cX0_tellRule) (maxL := 7) (ret := none) (by decide) rfl (Nat.le_of_ble_eq_true rfl) hX.2 ?_
  intro p e s m below meth c C hret hlk
  have hin0 : ∀ w ∈ u_ws RX0 TX0 12, w ∈ wsX0_tellRule := by decide +kernel
  have hp : ∀ u : fS, u = F_X0_tellRule p1 p2 p4 st → u = F_X0_tellRule p1 p2 p4 st := fun _ h => h
  refine f_aload_n C 0 dX0_tellRule_0 rfl rfl ?_
  refine f_ok (fun hO1 => ?_)
  have k2 : 0 ≤ st.1 6 ∧ st.1 6 ≤ 6 := hO1.1 6
  refine f_get C (v := .int (zI (st.1 6))) hin0 4 10 rfl rfl (Nat.le_of_ble_eq_true rfl) (by decide +kernel) rfl rfl dX0_tellRule_1 ?_
  refine f_iload_n C 1 dX0_tellRule_4 rfl rfl ?_
  refine f_callsi C (c_X0_cellOf hX (st.1 6) p1 ⟨by omega, by omega⟩ ⟨by omega, by omega⟩ st (show (-1000000) ≤ (st.1 6) ∧ (st.1 6) ≤ 1000000 by omega) (show (-1000000) ≤ p1 ∧ p1 ≤ 1000000 by omega)) (va_cwS 2 C.1.2.2.2.2 gX0_tellRule_X0_cellOf rfl rfl rfl (by decide +kernel) ⟨Nat.le_of_ble_eq_true rfl, Nat.le_of_ble_eq_true rfl⟩) rfl rfl (Nat.le_of_ble_eq_true rfl) ⟨Nat.zero_le _, Nat.zero_le _⟩ dX0_tellRule_5 (fun z u hz3 hu => ?_)
  obtain ⟨qz3, hu, rz3⟩ := hu; replace hu := hu.symm; subst hu; subst qz3
  refine f_istore C (lv' := [(6, .int (zI (F_X0_cellOf (st.1 6) p1 st))), (0, .ref (a 4)), (1, .int (zI p1)), (2, .long (zJ p2)), (4, .long (zJ p4))]) dX0_tellRule_8 (Nat.le_of_ble_eq_true rfl) rfl ?_
  refine f_aload_n C 0 dX0_tellRule_10 rfl rfl ?_
  refine f_get C hin0 4 3 rfl rfl (Nat.le_of_ble_eq_true rfl) (by decide +kernel) rfl rfl dX0_tellRule_11 ?_
  refine f_iload C 6 dX0_tellRule_14 rfl ?_
  refine f_lload_n C 2 dX0_tellRule_16 rfl rfl ?_
  refine f_callv C (c_Row_set hX 12 (Nat.le_of_ble_eq_true rfl) (F_X0_cellOf (st.1 6) p1 st) p2 ⟨by omega, by omega⟩ (show (-1) ≤ p2 ∧ p2 ≤ 999999 by omega) st) (cwV 2 C.1.2.2.2.2 gX0_tellRule_X5_set rfl rfl rfl (by decide +kernel) ⟨Nat.le_of_ble_eq_true rfl, Nat.le_of_ble_eq_true rfl⟩) 20 (wX_row cJ a st (r := 12) (Nat.le_of_ble_eq_true rfl)) rfl rfl rfl rfl (Nat.le_of_ble_eq_true rfl) ⟨Nat.zero_le _, Nat.zero_le _⟩ dX0_tellRule_17 (fun u hu => ?_)
  replace hu := hu.symm; subst hu
  refine f_aload_n C 0 dX0_tellRule_20 rfl rfl ?_
  refine f_get C hin0 4 4 rfl rfl (Nat.le_of_ble_eq_true rfl) (by decide +kernel) rfl rfl dX0_tellRule_21 ?_
  refine f_iload C 6 dX0_tellRule_24 rfl ?_
  refine f_lload C 4 dX0_tellRule_26 rfl ?_
  refine f_callv C (c_Row_set hX 13 (Nat.le_of_ble_eq_true rfl) (F_X0_cellOf (st.1 6) p1 st) p4 ⟨by omega, by omega⟩ (show 0 ≤ p4 ∧ p4 ≤ 999999 by omega) (rset st 12 (F_X0_cellOf (st.1 6) p1 st) p2)) (cwV 2 C.1.2.2.2.2 gX0_tellRule_X5_set rfl rfl rfl (by decide +kernel) ⟨Nat.le_of_ble_eq_true rfl, Nat.le_of_ble_eq_true rfl⟩) 21 (wX_row cJ a (rset st 12 (F_X0_cellOf (st.1 6) p1 st) p2) (r := 13) (Nat.le_of_ble_eq_true rfl)) rfl rfl rfl rfl (Nat.le_of_ble_eq_true rfl) ⟨Nat.zero_le _, Nat.zero_le _⟩ dX0_tellRule_28 (fun u hu => ?_)
  replace hu := hu.symm; subst hu
  refine f_aload_n C 0 dX0_tellRule_31 rfl rfl ?_
  refine f_get C hin0 4 5 rfl rfl (Nat.le_of_ble_eq_true rfl) (by decide +kernel) rfl rfl dX0_tellRule_32 ?_
  refine f_iload C 6 dX0_tellRule_35 rfl ?_
  refine f_ldc2 C (v := (-1)) (z := (-1)) (by decide +kernel) (by decide) dX0_tellRule_37 ?_
  refine f_callv C (c_Row_set hX 14 (Nat.le_of_ble_eq_true rfl) (F_X0_cellOf (st.1 6) p1 st) (-1) ⟨by omega, by omega⟩ (show (-1) ≤ (-1 : Int) ∧ (-1 : Int) ≤ 999999 by omega) (rset (rset st 12 (F_X0_cellOf (st.1 6) p1 st) p2) 13 (F_X0_cellOf (st.1 6) p1 st) p4)) (cwV 2 C.1.2.2.2.2 gX0_tellRule_X5_set rfl rfl rfl (by decide +kernel) ⟨Nat.le_of_ble_eq_true rfl, Nat.le_of_ble_eq_true rfl⟩) 22 (wX_row cJ a (rset (rset st 12 (F_X0_cellOf (st.1 6) p1 st) p2) 13 (F_X0_cellOf (st.1 6) p1 st) p4) (r := 14) (Nat.le_of_ble_eq_true rfl)) rfl rfl rfl rfl (Nat.le_of_ble_eq_true rfl) ⟨Nat.zero_le _, Nat.zero_le _⟩ dX0_tellRule_40 (fun u hu => ?_)
  replace hu := hu.symm; subst hu
  refine f_aload_n C 0 dX0_tellRule_43 rfl rfl ?_
  refine f_get C hin0 4 6 rfl rfl (Nat.le_of_ble_eq_true rfl) (by decide +kernel) rfl rfl dX0_tellRule_44 ?_
  refine f_iload C 6 dX0_tellRule_47 rfl ?_
  refine f_aload_n C 0 dX0_tellRule_49 rfl rfl ?_
  refine f_ok (fun hO4 => ?_)
  have k5 : 0 ≤ st.1 6 ∧ st.1 6 ≤ 6 := hO4.1 6
  refine f_get C (v := .int (zI (st.1 6))) hin0 4 10 rfl rfl (Nat.le_of_ble_eq_true rfl) (by decide +kernel) rfl rfl dX0_tellRule_50 ?_
  refine f_bipush C dX0_tellRule_53 (by decide) ?_
  refine f_imul C dX0_tellRule_55 ?_
  refine f_aload_n C 0 dX0_tellRule_56 rfl rfl ?_
  have k6 : (-1000000000) ≤ st.1 7 ∧ st.1 7 ≤ 1000000000 := hO4.1 7
  refine f_get C (v := .int (zI (st.1 7))) hin0 4 11 rfl rfl (Nat.le_of_ble_eq_true rfl) (by decide +kernel) rfl rfl dX0_tellRule_57 ?_
  refine f_iadd C dX0_tellRule_60 ?_
  refine f_i2l C ⟨by omega, by omega⟩ dX0_tellRule_61 ?_
  refine f_callv C (c_Row_set hX 15 (Nat.le_of_ble_eq_true rfl) (F_X0_cellOf (st.1 6) p1 st) (((st.1 6) * 66) + (st.1 7)) ⟨by omega, by omega⟩ (show 0 ≤ (((st.1 6) * 66) + (st.1 7)) ∧ (((st.1 6) * 66) + (st.1 7)) ≤ 1000000 by omega) (rset (rset (rset st 12 (F_X0_cellOf (st.1 6) p1 st) p2) 13 (F_X0_cellOf (st.1 6) p1 st) p4) 14 (F_X0_cellOf (st.1 6) p1 st) (-1))) (cwV 2 C.1.2.2.2.2 gX0_tellRule_X5_set rfl rfl rfl (by decide +kernel) ⟨Nat.le_of_ble_eq_true rfl, Nat.le_of_ble_eq_true rfl⟩) 23 (wX_row cJ a (rset (rset (rset st 12 (F_X0_cellOf (st.1 6) p1 st) p2) 13 (F_X0_cellOf (st.1 6) p1 st) p4) 14 (F_X0_cellOf (st.1 6) p1 st) (-1)) (r := 15) (Nat.le_of_ble_eq_true rfl)) rfl rfl rfl rfl (Nat.le_of_ble_eq_true rfl) ⟨Nat.zero_le _, Nat.zero_le _⟩ dX0_tellRule_62 (fun u hu => ?_)
  replace hu := hu.symm; subst hu
  refine f_aload_n C 0 dX0_tellRule_65 rfl rfl ?_
  refine f_get C hin0 4 7 rfl rfl (Nat.le_of_ble_eq_true rfl) (by decide +kernel) rfl rfl dX0_tellRule_66 ?_
  refine f_iload C 6 dX0_tellRule_69 rfl ?_
  refine f_lconst C (z := 0) dX0_tellRule_71 rfl ?_
  refine f_callv C (c_Row_set hX 16 (Nat.le_of_ble_eq_true rfl) (F_X0_cellOf (st.1 6) p1 st) 0 ⟨by omega, by omega⟩ (show 0 ≤ (0 : Int) ∧ (0 : Int) ≤ 1000000 by omega) (rset (rset (rset (rset st 12 (F_X0_cellOf (st.1 6) p1 st) p2) 13 (F_X0_cellOf (st.1 6) p1 st) p4) 14 (F_X0_cellOf (st.1 6) p1 st) (-1)) 15 (F_X0_cellOf (st.1 6) p1 st) (((st.1 6) * 66) + (st.1 7)))) (cwV 2 C.1.2.2.2.2 gX0_tellRule_X5_set rfl rfl rfl (by decide +kernel) ⟨Nat.le_of_ble_eq_true rfl, Nat.le_of_ble_eq_true rfl⟩) 24 (wX_row cJ a (rset (rset (rset (rset st 12 (F_X0_cellOf (st.1 6) p1 st) p2) 13 (F_X0_cellOf (st.1 6) p1 st) p4) 14 (F_X0_cellOf (st.1 6) p1 st) (-1)) 15 (F_X0_cellOf (st.1 6) p1 st) (((st.1 6) * 66) + (st.1 7))) (r := 16) (Nat.le_of_ble_eq_true rfl)) rfl rfl rfl rfl (Nat.le_of_ble_eq_true rfl) ⟨Nat.zero_le _, Nat.zero_le _⟩ dX0_tellRule_72 (fun u hu => ?_)
  replace hu := hu.symm; subst hu
  exact f_vret C hret hlk dX0_tellRule_75 (hp _ (by rw [F_X0_tellRule]))

def F_X0_tellStep (p1 : Int) (p2 : Int) (p4 : Int) (st : fS) : fS := sN (rset (rset (rset st 17 (((st.1 6) * 66) + (st.1 7)) p2) 18 (((st.1 6) * 66) + (st.1 7)) p4) 16 (F_X0_cellOf (st.1 6) p1 st) ((rget 36 (st.2 16) (F_X0_cellOf (st.1 6) p1 st)) + 1)) 7 ((st.1 7) + 1)
abbrev rm_X0_tellStep : Room := { frames := 1, cells := 0, slots := 0, locals := 23 }
set_option maxRecDepth 100000 in
set_option maxHeartbeats 8000000 in
theorem c_X0_tellStep {l : Launch} {D : va_G} {cI cJ cZ cB : ClassId} {a : Nat → Nat} {E : State → Prop} (hX : xHyp a E) (p1 : Int) (p2 : Int) (p4 : Int) (h1 : in32 p1) (h2 : in64 p2) (h4 : in64 p4) (st : fS) (q1 : (-1000000) ≤ p1 ∧ p1 ≤ 1000000) (q2 : 0 ≤ p2 ∧ p2 ≤ 999999) (q4 : 0 ≤ p4 ∧ p4 ≤ 999999) (q7 : 0 ≤ st.1 7 ∧ st.1 7 ≤ 100000) (q8 : xSC p1 st ≤ 999999) : xMv l D cI cJ cZ cB a E yX0_tellStep wsX0_tellStep rm_X0_tellStep [.ref (a 4), .int (zI p1), .long (zJ p2), .long (zJ p4)] st (fun u => u = F_X0_tellStep p1 p2 p4 st) := by
  refine fB_open (cc := cX0_tellStep) (maxL := 8) (ret := none) (by decide) rfl (Nat.le_of_ble_eq_true rfl) hX.2 ?_
  intro p e s m below meth c C hret hlk
  have hin0 : ∀ w ∈ u_ws RX0 TX0 12, w ∈ wsX0_tellStep := by decide +kernel
  have hp : ∀ u : fS, u = F_X0_tellStep p1 p2 p4 st → u = F_X0_tellStep p1 p2 p4 st := fun _ h => h
  have q8b : rget 36 (st.2 16) (F_X0_cellOf (st.1 6) p1 st) ≤ 999999 := q8
  refine f_aload_n C 0 dX0_tellStep_0 rfl rfl ?_
  refine f_ok (fun hO1 => ?_)
  have k2 : 0 ≤ st.1 6 ∧ st.1 6 ≤ 6 := hO1.1 6
  refine f_get C (v := .int (zI (st.1 6))) hin0 4 10 rfl rfl (Nat.le_of_ble_eq_true rfl) (by decide +kernel) rfl rfl dX0_tellStep_1 ?_
  refine f_iload_n C 1 dX0_tellStep_4 rfl rfl ?_
  refine f_callsi C (c_X0_cellOf hX (st.1 6) p1 ⟨by omega, by omega⟩ ⟨by omega, by omega⟩ st (show (-1000000) ≤ (st.1 6) ∧ (st.1 6) ≤ 1000000 by omega) (show (-1000000) ≤ p1 ∧ p1 ≤ 1000000 by omega)) (va_cwS 2 C.1.2.2.2.2 gX0_tellStep_X0_cellOf rfl rfl rfl (by decide +kernel) ⟨Nat.le_of_ble_eq_true rfl, Nat.le_of_ble_eq_true rfl⟩) rfl rfl (Nat.le_of_ble_eq_true rfl) ⟨Nat.zero_le _, Nat.zero_le _⟩ dX0_tellStep_5 (fun z u hz3 hu => ?_)
  obtain ⟨qz3, hu, rz3⟩ := hu; replace hu := hu.symm; subst hu; subst qz3
  refine f_istore C (lv' := [(6, .int (zI (F_X0_cellOf (st.1 6) p1 st))), (0, .ref (a 4)), (1, .int (zI p1)), (2, .long (zJ p2)), (4, .long (zJ p4))]) dX0_tellStep_8 (Nat.le_of_ble_eq_true rfl) rfl ?_
  refine f_aload_n C 0 dX0_tellStep_10 rfl rfl ?_
  refine f_get C (v := .int (zI (st.1 6))) hin0 4 10 rfl rfl (Nat.le_of_ble_eq_true rfl) (by decide +kernel) rfl rfl dX0_tellStep_11 ?_
  refine f_bipush C dX0_tellStep_14 (by decide) ?_
  refine f_imul C dX0_tellStep_16 ?_
  refine f_aload_n C 0 dX0_tellStep_17 rfl rfl ?_
  have k4 : (-1000000000) ≤ st.1 7 ∧ st.1 7 ≤ 1000000000 := hO1.1 7
  refine f_get C (v := .int (zI (st.1 7))) hin0 4 11 rfl rfl (Nat.le_of_ble_eq_true rfl) (by decide +kernel) rfl rfl dX0_tellStep_18 ?_
  refine f_iadd C dX0_tellStep_21 ?_
  refine f_istore C (lv' := [(7, .int (zI (((st.1 6) * 66) + (st.1 7)))), (6, .int (zI (F_X0_cellOf (st.1 6) p1 st))), (0, .ref (a 4)), (1, .int (zI p1)), (2, .long (zJ p2)), (4, .long (zJ p4))]) dX0_tellStep_22 (Nat.le_of_ble_eq_true rfl) rfl ?_
  refine f_aload_n C 0 dX0_tellStep_24 rfl rfl ?_
  refine f_get C hin0 4 8 rfl rfl (Nat.le_of_ble_eq_true rfl) (by decide +kernel) rfl rfl dX0_tellStep_25 ?_
  refine f_iload C 7 dX0_tellStep_28 rfl ?_
  refine f_lload_n C 2 dX0_tellStep_30 rfl rfl ?_
  refine f_callv C (c_Row_set hX 17 (Nat.le_of_ble_eq_true rfl) (((st.1 6) * 66) + (st.1 7)) p2 ⟨by omega, by omega⟩ (show 0 ≤ p2 ∧ p2 ≤ 999999 by omega) st) (cwV 2 C.1.2.2.2.2 gX0_tellStep_X5_set rfl rfl rfl (by decide +kernel) ⟨Nat.le_of_ble_eq_true rfl, Nat.le_of_ble_eq_true rfl⟩) 25 (wX_row cJ a st (r := 17) (Nat.le_of_ble_eq_true rfl)) rfl rfl rfl rfl (Nat.le_of_ble_eq_true rfl) ⟨Nat.zero_le _, Nat.zero_le _⟩ dX0_tellStep_31 (fun u hu => ?_)
  replace hu := hu.symm; subst hu
  refine f_aload_n C 0 dX0_tellStep_34 rfl rfl ?_
  refine f_get C hin0 4 9 rfl rfl (Nat.le_of_ble_eq_true rfl) (by decide +kernel) rfl rfl dX0_tellStep_35 ?_
  refine f_iload C 7 dX0_tellStep_38 rfl ?_
  refine f_lload C 4 dX0_tellStep_40 rfl ?_
  refine f_callv C (c_Row_set hX 18 (Nat.le_of_ble_eq_true rfl) (((st.1 6) * 66) + (st.1 7)) p4 ⟨by omega, by omega⟩ (show 0 ≤ p4 ∧ p4 ≤ 999999 by omega) (rset st 17 (((st.1 6) * 66) + (st.1 7)) p2)) (cwV 2 C.1.2.2.2.2 gX0_tellStep_X5_set rfl rfl rfl (by decide +kernel) ⟨Nat.le_of_ble_eq_true rfl, Nat.le_of_ble_eq_true rfl⟩) 26 (wX_row cJ a (rset st 17 (((st.1 6) * 66) + (st.1 7)) p2) (r := 18) (Nat.le_of_ble_eq_true rfl)) rfl rfl rfl rfl (Nat.le_of_ble_eq_true rfl) ⟨Nat.zero_le _, Nat.zero_le _⟩ dX0_tellStep_42 (fun u hu => ?_)
  replace hu := hu.symm; subst hu
  refine f_aload_n C 0 dX0_tellStep_45 rfl rfl ?_
  refine f_get C hin0 4 7 rfl rfl (Nat.le_of_ble_eq_true rfl) (by decide +kernel) rfl rfl dX0_tellStep_46 ?_
  refine f_iload C 6 dX0_tellStep_49 rfl ?_
  refine f_aload_n C 0 dX0_tellStep_51 rfl rfl ?_
  refine f_get C hin0 4 7 rfl rfl (Nat.le_of_ble_eq_true rfl) (by decide +kernel) rfl rfl dX0_tellStep_52 ?_
  refine f_iload C 6 dX0_tellStep_55 rfl ?_
  refine f_ok (fun hO5 => ?_)
  refine f_calll C (c_Row_get hX 16 (Nat.le_of_ble_eq_true rfl) (F_X0_cellOf (st.1 6) p1 st) ⟨by omega, by omega⟩ (rset (rset st 17 (((st.1 6) * 66) + (st.1 7)) p2) 18 (((st.1 6) * 66) + (st.1 7)) p4)) (cwV 1 C.1.2.2.2.2 gX0_tellStep_X5_get rfl rfl rfl (by decide +kernel) ⟨Nat.le_of_ble_eq_true rfl, Nat.le_of_ble_eq_true rfl⟩) 24 (wX_row cJ a (rset (rset st 17 (((st.1 6) * 66) + (st.1 7)) p2) 18 (((st.1 6) * 66) + (st.1 7)) p4) (r := 16) (Nat.le_of_ble_eq_true rfl)) rfl rfl rfl rfl (Nat.le_of_ble_eq_true rfl) ⟨Nat.zero_le _, Nat.zero_le _⟩ dX0_tellStep_57 (fun z u hz6 hu => ?_)
  obtain ⟨qz6, hu⟩ : z = rget 36 (st.2 16) (F_X0_cellOf (st.1 6) p1 st) ∧ u = rset (rset st 17 (((st.1 6) * 66) + (st.1 7)) p2) 18 (((st.1 6) * 66) + (st.1 7)) p4 := hu
  replace hu := hu.symm; subst hu; subst qz6
  have k7 : 0 ≤ rget 36 (st.2 16) (F_X0_cellOf (st.1 6) p1 st) ∧ rget 36 (st.2 16) (F_X0_cellOf (st.1 6) p1 st) ≤ 1000000 := xget_ok hO5 16 36 (F_X0_cellOf (st.1 6) p1 st)
  refine f_lconst C (z := 1) dX0_tellStep_60 rfl ?_
  refine f_ladd C dX0_tellStep_61 ?_
  refine f_callv C (c_Row_set hX 16 (Nat.le_of_ble_eq_true rfl) (F_X0_cellOf (st.1 6) p1 st) ((rget 36 (st.2 16) (F_X0_cellOf (st.1 6) p1 st)) + 1) ⟨by omega, by omega⟩ (show 0 ≤ ((rget 36 (st.2 16) (F_X0_cellOf (st.1 6) p1 st)) + 1) ∧ ((rget 36 (st.2 16) (F_X0_cellOf (st.1 6) p1 st)) + 1) ≤ 1000000 by omega) (rset (rset st 17 (((st.1 6) * 66) + (st.1 7)) p2) 18 (((st.1 6) * 66) + (st.1 7)) p4)) (cwV 2 C.1.2.2.2.2 gX0_tellStep_X5_set rfl rfl rfl (by decide +kernel) ⟨Nat.le_of_ble_eq_true rfl, Nat.le_of_ble_eq_true rfl⟩) 24 (wX_row cJ a (rset (rset st 17 (((st.1 6) * 66) + (st.1 7)) p2) 18 (((st.1 6) * 66) + (st.1 7)) p4) (r := 16) (Nat.le_of_ble_eq_true rfl)) rfl rfl rfl rfl (Nat.le_of_ble_eq_true rfl) ⟨Nat.zero_le _, Nat.zero_le _⟩ dX0_tellStep_62 (fun u hu => ?_)
  replace hu := hu.symm; subst hu
  refine f_aload_n C 0 dX0_tellStep_65 rfl rfl ?_
  refine f_dup C dX0_tellStep_66 rfl ?_
  refine f_ok (fun hO8 => ?_)
  have k9 : (-1000000000) ≤ st.1 7 ∧ st.1 7 ≤ 1000000000 := hO8.1 7
  refine f_get C (v := .int (zI (st.1 7))) hin0 4 11 rfl rfl (Nat.le_of_ble_eq_true rfl) (by decide +kernel) rfl rfl dX0_tellStep_67 ?_
  refine f_iconst C dX0_tellStep_70 ?_
  refine f_iadd C dX0_tellStep_71 ?_
  refine f_put C (xD hX.1 cJ) hin0 tyX0 tyX0_ok nmX0 4 11 rfl rfl (Nat.le_of_ble_eq_true rfl) (by decide +kernel) rfl rfl (ty := .int) (by decide +kernel) rfl rfl (Nat.le_of_ble_eq_true rfl) (u := sN (rset (rset (rset st 17 (((st.1 6) * 66) + (st.1 7)) p2) 18 (((st.1 6) * 66) + (st.1 7)) p4) 16 (F_X0_cellOf (st.1 6) p1 st) ((rget 36 (st.2 16) (F_X0_cellOf (st.1 6) p1 st)) + 1)) 7 ((st.1 7) + 1)) rfl (fun h => fOk_N h (show (-1000000000) ≤ ((st.1 7) + 1) ∧ ((st.1 7) + 1) ≤ 1000000000 by omega)) dX0_tellStep_72 ?_
  exact f_vret C hret hlk dX0_tellStep_75 (hp _ (by rw [F_X0_tellStep]))

def F_X0_tellCap (p1 : Int) (p2 : Int) (st : fS) : fS := rset st 14 (F_X0_cellOf (st.1 6) p1 st) p2
abbrev rm_X0_tellCap : Room := { frames := 1, cells := 0, slots := 0, locals := 23 }
set_option maxRecDepth 100000 in
set_option maxHeartbeats 8000000 in
theorem c_X0_tellCap {l : Launch} {D : va_G} {cI cJ cZ cB : ClassId} {a : Nat → Nat} {E : State → Prop} (hX : xHyp a E) (p1 : Int) (p2 : Int) (h1 : in32 p1) (h2 : in64 p2) (st : fS) (q1 : (-1000000) ≤ p1 ∧ p1 ≤ 1000000) (q2 : 0 ≤ p2 ∧ p2 ≤ 999999) : xMv l D cI cJ cZ cB a E yX0_tellCap wsX0_tellCap rm_X0_tellCap [.ref (a 4), .int (zI p1), .long (zJ p2)] st (fun u => u = F_X0_tellCap p1 p2 st) := by
  refine fB_open (cc := cX0_tellCap) (maxL := 4) (ret := none) (by decide) rfl (Nat.le_of_ble_eq_true rfl) hX.2 ?_
  intro p e s m below meth c C hret hlk
  have hin0 : ∀ w ∈ u_ws RX0 TX0 12, w ∈ wsX0_tellCap := by decide +kernel
  have hp : ∀ u : fS, u = F_X0_tellCap p1 p2 st → u = F_X0_tellCap p1 p2 st := fun _ h => h
  refine f_aload_n C 0 dX0_tellCap_0 rfl rfl ?_
  refine f_get C hin0 4 5 rfl rfl (Nat.le_of_ble_eq_true rfl) (by decide +kernel) rfl rfl dX0_tellCap_1 ?_
  refine f_aload_n C 0 dX0_tellCap_4 rfl rfl ?_
  refine f_ok (fun hO1 => ?_)
  have k2 : 0 ≤ st.1 6 ∧ st.1 6 ≤ 6 := hO1.1 6
  refine f_get C (v := .int (zI (st.1 6))) hin0 4 10 rfl rfl (Nat.le_of_ble_eq_true rfl) (by decide +kernel) rfl rfl dX0_tellCap_5 ?_
  refine f_iload_n C 1 dX0_tellCap_8 rfl rfl ?_
  refine f_callsi C (c_X0_cellOf hX (st.1 6) p1 ⟨by omega, by omega⟩ ⟨by omega, by omega⟩ st (show (-1000000) ≤ (st.1 6) ∧ (st.1 6) ≤ 1000000 by omega) (show (-1000000) ≤ p1 ∧ p1 ≤ 1000000 by omega)) (va_cwS 2 C.1.2.2.2.2 gX0_tellCap_X0_cellOf rfl rfl rfl (by decide +kernel) ⟨Nat.le_of_ble_eq_true rfl, Nat.le_of_ble_eq_true rfl⟩) rfl rfl (Nat.le_of_ble_eq_true rfl) ⟨Nat.zero_le _, Nat.zero_le _⟩ dX0_tellCap_9 (fun z u hz3 hu => ?_)
  obtain ⟨qz3, hu, rz3⟩ := hu; replace hu := hu.symm; subst hu; subst qz3
  refine f_lload_n C 2 dX0_tellCap_12 rfl rfl ?_
  refine f_callv C (c_Row_set hX 14 (Nat.le_of_ble_eq_true rfl) (F_X0_cellOf (st.1 6) p1 st) p2 ⟨by omega, by omega⟩ (show (-1) ≤ p2 ∧ p2 ≤ 999999 by omega) st) (cwV 2 C.1.2.2.2.2 gX0_tellCap_X5_set rfl rfl rfl (by decide +kernel) ⟨Nat.le_of_ble_eq_true rfl, Nat.le_of_ble_eq_true rfl⟩) 22 (wX_row cJ a st (r := 14) (Nat.le_of_ble_eq_true rfl)) rfl rfl rfl rfl (Nat.le_of_ble_eq_true rfl) ⟨Nat.zero_le _, Nat.zero_le _⟩ dX0_tellCap_13 (fun u hu => ?_)
  replace hu := hu.symm; subst hu
  exact f_vret C hret hlk dX0_tellCap_16 (hp _ (by rw [F_X0_tellCap]))

def F_X0_keepDraft (p1 : Int) (p3 : Int) (p5 : Int) (st : fS) : fS := sN (rset (rset (rset st 9 (st.1 6) p1) 10 (st.1 6) p3) 11 (st.1 6) p5) 6 ((st.1 6) + 1)
abbrev rm_X0_keepDraft : Room := { frames := 1, cells := 0, slots := 0, locals := 23 }
set_option maxRecDepth 100000 in
set_option maxHeartbeats 8000000 in
theorem c_X0_keepDraft {l : Launch} {D : va_G} {cI cJ cZ cB : ClassId} {a : Nat → Nat} {E : State → Prop} (hX : xHyp a E) (p1 : Int) (p3 : Int) (p5 : Int) (h1 : in64 p1) (h3 : in64 p3) (h5 : in32 p5) (st : fS) (q1 : 0 ≤ p1 ∧ p1 ≤ 3599) (q3 : 0 ≤ p3 ∧ p3 ≤ 3599) (q5 : 0 ≤ p5 ∧ p5 ≤ 1000000) (q6 : st.1 6 ≤ 5) : xMv l D cI cJ cZ cB a E yX0_keepDraft wsX0_keepDraft rm_X0_keepDraft [.ref (a 4), .long (zJ p1), .long (zJ p3), .int (zI p5)] st (fun u => u = F_X0_keepDraft p1 p3 p5 st) := by
  refine fB_open (cc := cX0_keepDraft) (maxL := 6) (ret := none) (by decide) rfl (Nat.le_of_ble_eq_true rfl) hX.2 ?_
  intro p e s m below meth c C hret hlk
  have hin0 : ∀ w ∈ u_ws RX0 TX0 12, w ∈ wsX0_keepDraft := by decide +kernel
  have hp : ∀ u : fS, u = F_X0_keepDraft p1 p3 p5 st → u = F_X0_keepDraft p1 p3 p5 st := fun _ h => h
  refine f_aload_n C 0 dX0_keepDraft_0 rfl rfl ?_
  refine f_get C hin0 4 0 rfl rfl (Nat.le_of_ble_eq_true rfl) (by decide +kernel) rfl rfl dX0_keepDraft_1 ?_
  refine f_aload_n C 0 dX0_keepDraft_4 rfl rfl ?_
  refine f_ok (fun hO1 => ?_)
  have k2 : 0 ≤ st.1 6 ∧ st.1 6 ≤ 6 := hO1.1 6
  refine f_get C (v := .int (zI (st.1 6))) hin0 4 10 rfl rfl (Nat.le_of_ble_eq_true rfl) (by decide +kernel) rfl rfl dX0_keepDraft_5 ?_
  refine f_lload_n C 1 dX0_keepDraft_8 rfl rfl ?_
  refine f_callv C (c_Row_set hX 9 (Nat.le_of_ble_eq_true rfl) (st.1 6) p1 ⟨by omega, by omega⟩ (show 0 ≤ p1 ∧ p1 ≤ 3599 by omega) st) (cwV 2 C.1.2.2.2.2 gX0_keepDraft_X5_set rfl rfl rfl (by decide +kernel) ⟨Nat.le_of_ble_eq_true rfl, Nat.le_of_ble_eq_true rfl⟩) 17 (wX_row cJ a st (r := 9) (Nat.le_of_ble_eq_true rfl)) rfl rfl rfl rfl (Nat.le_of_ble_eq_true rfl) ⟨Nat.zero_le _, Nat.zero_le _⟩ dX0_keepDraft_9 (fun u hu => ?_)
  replace hu := hu.symm; subst hu
  refine f_aload_n C 0 dX0_keepDraft_12 rfl rfl ?_
  refine f_get C hin0 4 1 rfl rfl (Nat.le_of_ble_eq_true rfl) (by decide +kernel) rfl rfl dX0_keepDraft_13 ?_
  refine f_aload_n C 0 dX0_keepDraft_16 rfl rfl ?_
  refine f_ok (fun hO3 => ?_)
  have k4 : 0 ≤ st.1 6 ∧ st.1 6 ≤ 6 := hO3.1 6
  refine f_get C (v := .int (zI (st.1 6))) hin0 4 10 rfl rfl (Nat.le_of_ble_eq_true rfl) (by decide +kernel) rfl rfl dX0_keepDraft_17 ?_
  refine f_lload_n C 3 dX0_keepDraft_20 rfl rfl ?_
  refine f_callv C (c_Row_set hX 10 (Nat.le_of_ble_eq_true rfl) (st.1 6) p3 ⟨by omega, by omega⟩ (show 0 ≤ p3 ∧ p3 ≤ 3599 by omega) (rset st 9 (st.1 6) p1)) (cwV 2 C.1.2.2.2.2 gX0_keepDraft_X5_set rfl rfl rfl (by decide +kernel) ⟨Nat.le_of_ble_eq_true rfl, Nat.le_of_ble_eq_true rfl⟩) 18 (wX_row cJ a (rset st 9 (st.1 6) p1) (r := 10) (Nat.le_of_ble_eq_true rfl)) rfl rfl rfl rfl (Nat.le_of_ble_eq_true rfl) ⟨Nat.zero_le _, Nat.zero_le _⟩ dX0_keepDraft_21 (fun u hu => ?_)
  replace hu := hu.symm; subst hu
  refine f_aload_n C 0 dX0_keepDraft_24 rfl rfl ?_
  refine f_get C hin0 4 2 rfl rfl (Nat.le_of_ble_eq_true rfl) (by decide +kernel) rfl rfl dX0_keepDraft_25 ?_
  refine f_aload_n C 0 dX0_keepDraft_28 rfl rfl ?_
  refine f_ok (fun hO5 => ?_)
  have k6 : 0 ≤ st.1 6 ∧ st.1 6 ≤ 6 := hO5.1 6
  refine f_get C (v := .int (zI (st.1 6))) hin0 4 10 rfl rfl (Nat.le_of_ble_eq_true rfl) (by decide +kernel) rfl rfl dX0_keepDraft_29 ?_
  refine f_iload C 5 dX0_keepDraft_32 rfl ?_
  refine f_i2l C ⟨by omega, by omega⟩ dX0_keepDraft_34 ?_
  refine f_callv C (c_Row_set hX 11 (Nat.le_of_ble_eq_true rfl) (st.1 6) p5 ⟨by omega, by omega⟩ (show 0 ≤ p5 ∧ p5 ≤ 1000000 by omega) (rset (rset st 9 (st.1 6) p1) 10 (st.1 6) p3)) (cwV 2 C.1.2.2.2.2 gX0_keepDraft_X5_set rfl rfl rfl (by decide +kernel) ⟨Nat.le_of_ble_eq_true rfl, Nat.le_of_ble_eq_true rfl⟩) 19 (wX_row cJ a (rset (rset st 9 (st.1 6) p1) 10 (st.1 6) p3) (r := 11) (Nat.le_of_ble_eq_true rfl)) rfl rfl rfl rfl (Nat.le_of_ble_eq_true rfl) ⟨Nat.zero_le _, Nat.zero_le _⟩ dX0_keepDraft_35 (fun u hu => ?_)
  replace hu := hu.symm; subst hu
  refine f_aload_n C 0 dX0_keepDraft_38 rfl rfl ?_
  refine f_dup C dX0_keepDraft_39 rfl ?_
  refine f_ok (fun hO7 => ?_)
  have k8 : 0 ≤ st.1 6 ∧ st.1 6 ≤ 6 := hO7.1 6
  refine f_get C (v := .int (zI (st.1 6))) hin0 4 10 rfl rfl (Nat.le_of_ble_eq_true rfl) (by decide +kernel) rfl rfl dX0_keepDraft_40 ?_
  refine f_iconst C dX0_keepDraft_43 ?_
  refine f_iadd C dX0_keepDraft_44 ?_
  refine f_put C (xD hX.1 cJ) hin0 tyX0 tyX0_ok nmX0 4 10 rfl rfl (Nat.le_of_ble_eq_true rfl) (by decide +kernel) rfl rfl (ty := .int) (by decide +kernel) rfl rfl (Nat.le_of_ble_eq_true rfl) (u := sN (rset (rset (rset st 9 (st.1 6) p1) 10 (st.1 6) p3) 11 (st.1 6) p5) 6 ((st.1 6) + 1)) rfl (fun h => fOk_N h (show 0 ≤ ((st.1 6) + 1) ∧ ((st.1 6) + 1) ≤ 6 by omega)) dX0_keepDraft_45 ?_
  exact f_vret C hret hlk dX0_keepDraft_48 (hp _ (by rw [F_X0_keepDraft]))

def F_X0_latest_6 (v1 v3 : Int) : Nat → Int → Int → fS → Int
  | 0, _, _, _ => 0
  | n + 1, v5, v6, st => if (st.1 6) ≤ v6 then v5 else (if v3 < (rget 6 (st.2 10) v6) then F_X0_latest_6 v1 v3 (n) v5 (v6 + 1) st else (if v1 < (rget 6 (st.2 9) v6) then F_X0_latest_6 v1 v3 (n) v5 (v6 + 1) st else (if v5 = (-1) then F_X0_latest_6 v1 v3 (n) v6 (v6 + 1) st else (if (rget 6 (st.2 9) v6) < (rget 6 (st.2 9) v5) then F_X0_latest_6 v1 v3 (n) v5 (v6 + 1) st else F_X0_latest_6 v1 v3 (n) v6 (v6 + 1) st))))

def F_X0_latest (p1 : Int) (p3 : Int) (st : fS) : Int := F_X0_latest_6 p1 p3 (Int.toNat ((st.1 6) - (0 : Int)) + 1) (-1) 0 st
abbrev rm_X0_latest : Room := { frames := 1, cells := 0, slots := 0, locals := 21 }
set_option maxRecDepth 100000 in
set_option maxHeartbeats 8000000 in
theorem v_X0_latest_6 {l : Launch} {D : va_G} {cI cJ cZ cB : ClassId} {a : Nat → Nat} {E : State → Prop} (hX : xHyp a E) (v1 v3 : Int) (hv1 : in64 v1) (hv3 : in64 v3) {p : Program} {e : Env} {s : State} {m : MethodId} {args : Array Value} {below : List Frame} {meth : Method} {c : Code} (C : fC p m c cX0_latest 8 s args wsX0_latest yX0_latest.cls D (fTys cI cJ cZ cB) E (xA a)) (hret : meth.sig.returnType = (some .int)) (hlk : meth.locks = false) {post : Int → fS → Prop} : ∀ (n : Nat) (v5 v6 : Int) (st : fS), in32 v5 → in32 v6 → (0 ≤ v6 ∧ v6 ≤ st.1 6) → (-1 ≤ v5 ∧ v5 ≤ 5) → (0 ≤ st.1 6 ∧ st.1 6 ≤ 6) → st.1 6 - v6 < n → (∀ z : Int, z = F_X0_latest_6 v1 v3 n v5 v6 st → ((-1) ≤ z ∧ z ≤ 5) → post z st) → fV D (wX cJ a) xOk (xA a) 8 p l e rm_X0_latest s m args below meth c 0 0 (fMQ below (fQi D (wX cJ a) xOk (xA a) post) args s (xA a)) st 6 [(0, .ref (a 4)), (1, .long (zJ v1)), (3, .long (zJ v3)), (5, .int (zI v5)), (6, .int (zI v6))] [] := by
  have hin0 : ∀ w ∈ u_ws RX0 TX0 12, w ∈ wsX0_latest := by decide +kernel
  intro n
  induction n with
  | zero =>
    intro v5 v6 st hv5 hv6 i0 i1 i2 hm hp
    omega
  | succ n ih =>
    intro v5 v6 st hv5 hv6 i0 i1 i2 hm hp
    refine f_iload C 6 dX0_latest_6 rfl ?_
    refine f_aload_n C 0 dX0_latest_8 rfl rfl ?_
    refine f_ok (fun hO1 => ?_)
    have k2 : 0 ≤ st.1 6 ∧ st.1 6 ≤ 6 := hO1.1 6
    refine f_get C (v := .int (zI (st.1 6))) hin0 4 10 rfl rfl (Nat.le_of_ble_eq_true rfl) (by decide +kernel) rfl rfl dX0_latest_9 ?_
    refine f_icmp_ge C 93 ⟨by omega, by omega⟩ ⟨by omega, by omega⟩ dX0_latest_12 (by decide) (fun c3 => ?_) (fun c3 => ?_)
    · refine f_iload C 5 dX0_latest_93 rfl ?_
      exact f_iret C hret hlk dX0_latest_95 ⟨by omega, by omega⟩ (hp _ (by rw [F_X0_latest_6, if_pos c3]) (by omega))
    refine f_aload_n C 0 dX0_latest_15 rfl rfl ?_
    refine f_get C hin0 4 1 rfl rfl (Nat.le_of_ble_eq_true rfl) (by decide +kernel) rfl rfl dX0_latest_16 ?_
    refine f_iload C 6 dX0_latest_19 rfl ?_
    refine f_calll C (c_Row_get hX 10 (Nat.le_of_ble_eq_true rfl) v6 ⟨by omega, by omega⟩ st) (cwV 1 C.1.2.2.2.2 gX0_latest_X5_get rfl rfl rfl (by decide +kernel) ⟨Nat.le_of_ble_eq_true rfl, Nat.le_of_ble_eq_true rfl⟩) 18 (wX_row cJ a st (r := 10) (Nat.le_of_ble_eq_true rfl)) rfl rfl rfl rfl (Nat.le_of_ble_eq_true rfl) ⟨Nat.zero_le _, Nat.zero_le _⟩ dX0_latest_21 (fun z u hz4 hu => ?_)
    obtain ⟨qz4, hu⟩ : z = rget 6 (st.2 10) v6 ∧ u = st := hu
    replace hu := hu.symm; subst hu; subst qz4
    have k5 : 0 ≤ rget 6 (st.2 10) v6 ∧ rget 6 (st.2 10) v6 ≤ 3599 := xget_ok hO1 10 6 v6
    refine f_lload_n C 3 dX0_latest_24 rfl rfl ?_
    refine f_lc_if_gt C 47 ⟨by omega, by omega⟩ ⟨by omega, by omega⟩ dX0_latest_25 dX0_latest_26 (by decide) (fun c6 => ?_) (fun c6 => ?_)
    · refine f_iconst C dX0_latest_47 ?_
      refine f_istore C (lv' := [(7, .int (zI 0)), (0, .ref (a 4)), (1, .long (zJ v1)), (3, .long (zJ v3)), (5, .int (zI v5)), (6, .int (zI v6))]) dX0_latest_48 (Nat.le_of_ble_eq_true rfl) rfl ?_
      refine f_iload C 7 dX0_latest_50 rfl ?_
      refine f_if_eq C 87 ⟨by decide, by decide⟩ dX0_latest_52 (by decide) (fun c7 => ?_) (fun c7 => absurd c7 (by decide))
      refine f_iinc C (lv' := [(6, .int (zI (v6 + 1))), (7, .int (zI 0)), (0, .ref (a 4)), (1, .long (zJ v1)), (3, .long (zJ v3)), (5, .int (zI v5))]) 5 dX0_latest_87 rfl (Nat.le_of_ble_eq_true rfl) rfl ?_
      refine f_goto C 6 dX0_latest_90 (by decide) ?_
      refine f_re (lv' := [(0, .ref (a 4)), (1, .long (zJ v1)), (3, .long (zJ v3)), (5, .int (zI v5)), (6, .int (zI (v6 + 1)))]) [2, 3, 4, 5, 0] rfl ?_
      exact ih v5 (v6 + 1) st ⟨by omega, by omega⟩ ⟨by omega, by omega⟩ (show 0 ≤ (v6 + 1) ∧ (v6 + 1) ≤ (st.1 6) by omega) (show -1 ≤ v5 ∧ v5 ≤ 5 by omega) (show 0 ≤ (st.1 6) ∧ (st.1 6) ≤ 6 by omega) (show (st.1 6) - (v6 + 1) < ((n : Nat) : Int) by omega) (fun z e1 r1 => hp z (by rw [F_X0_latest_6, if_neg c3, if_pos c6]; exact e1) r1)
    refine f_aload_n C 0 dX0_latest_29 rfl rfl ?_
    refine f_get C hin0 4 0 rfl rfl (Nat.le_of_ble_eq_true rfl) (by decide +kernel) rfl rfl dX0_latest_30 ?_
    refine f_iload C 6 dX0_latest_33 rfl ?_
    refine f_calll C (c_Row_get hX 9 (Nat.le_of_ble_eq_true rfl) v6 ⟨by omega, by omega⟩ st) (cwV 1 C.1.2.2.2.2 gX0_latest_X5_get rfl rfl rfl (by decide +kernel) ⟨Nat.le_of_ble_eq_true rfl, Nat.le_of_ble_eq_true rfl⟩) 17 (wX_row cJ a st (r := 9) (Nat.le_of_ble_eq_true rfl)) rfl rfl rfl rfl (Nat.le_of_ble_eq_true rfl) ⟨Nat.zero_le _, Nat.zero_le _⟩ dX0_latest_35 (fun z u hz8 hu => ?_)
    obtain ⟨qz8, hu⟩ : z = rget 6 (st.2 9) v6 ∧ u = st := hu
    replace hu := hu.symm; subst hu; subst qz8
    have k9 : 0 ≤ rget 6 (st.2 9) v6 ∧ rget 6 (st.2 9) v6 ≤ 3599 := xget_ok hO1 9 6 v6
    refine f_lload_n C 1 dX0_latest_38 rfl rfl ?_
    refine f_lc_if_gt C 47 ⟨by omega, by omega⟩ ⟨by omega, by omega⟩ dX0_latest_39 dX0_latest_40 (by decide) (fun c10 => ?_) (fun c10 => ?_)
    · refine f_iconst C dX0_latest_47 ?_
      refine f_istore C (lv' := [(7, .int (zI 0)), (0, .ref (a 4)), (1, .long (zJ v1)), (3, .long (zJ v3)), (5, .int (zI v5)), (6, .int (zI v6))]) dX0_latest_48 (Nat.le_of_ble_eq_true rfl) rfl ?_
      refine f_iload C 7 dX0_latest_50 rfl ?_
      refine f_if_eq C 87 ⟨by decide, by decide⟩ dX0_latest_52 (by decide) (fun c11 => ?_) (fun c11 => absurd c11 (by decide))
      refine f_iinc C (lv' := [(6, .int (zI (v6 + 1))), (7, .int (zI 0)), (0, .ref (a 4)), (1, .long (zJ v1)), (3, .long (zJ v3)), (5, .int (zI v5))]) 5 dX0_latest_87 rfl (Nat.le_of_ble_eq_true rfl) rfl ?_
      refine f_goto C 6 dX0_latest_90 (by decide) ?_
      refine f_re (lv' := [(0, .ref (a 4)), (1, .long (zJ v1)), (3, .long (zJ v3)), (5, .int (zI v5)), (6, .int (zI (v6 + 1)))]) [2, 3, 4, 5, 0] rfl ?_
      exact ih v5 (v6 + 1) st ⟨by omega, by omega⟩ ⟨by omega, by omega⟩ (show 0 ≤ (v6 + 1) ∧ (v6 + 1) ≤ (st.1 6) by omega) (show -1 ≤ v5 ∧ v5 ≤ 5 by omega) (show 0 ≤ (st.1 6) ∧ (st.1 6) ≤ 6 by omega) (show (st.1 6) - (v6 + 1) < ((n : Nat) : Int) by omega) (fun z e1 r1 => hp z (by rw [F_X0_latest_6, if_neg c3, if_neg c6, if_pos c10]; exact e1) r1)
    refine f_iconst C dX0_latest_43 ?_
    refine f_goto C 48 dX0_latest_44 (by decide) ?_
    refine f_istore C (lv' := [(7, .int (zI 1)), (0, .ref (a 4)), (1, .long (zJ v1)), (3, .long (zJ v3)), (5, .int (zI v5)), (6, .int (zI v6))]) dX0_latest_48 (Nat.le_of_ble_eq_true rfl) rfl ?_
    refine f_iload C 7 dX0_latest_50 rfl ?_
    refine f_if_eq C 87 ⟨by decide, by decide⟩ dX0_latest_52 (by decide) (fun c12 => absurd c12 (by decide)) (fun c12 => ?_)
    refine f_iload C 5 dX0_latest_55 rfl ?_
    refine f_iconst C dX0_latest_57 ?_
    refine f_icmp_eq C 83 ⟨by omega, by omega⟩ ⟨by decide, by decide⟩ dX0_latest_58 (by decide) (fun c13 => ?_) (fun c13 => ?_)
    · refine f_iload C 6 dX0_latest_83 rfl ?_
      refine f_istore C (lv' := [(5, .int (zI v6)), (7, .int (zI 1)), (0, .ref (a 4)), (1, .long (zJ v1)), (3, .long (zJ v3)), (6, .int (zI v6))]) dX0_latest_85 (Nat.le_of_ble_eq_true rfl) rfl ?_
      refine f_iinc C (lv' := [(6, .int (zI (v6 + 1))), (5, .int (zI v6)), (7, .int (zI 1)), (0, .ref (a 4)), (1, .long (zJ v1)), (3, .long (zJ v3))]) 5 dX0_latest_87 rfl (Nat.le_of_ble_eq_true rfl) rfl ?_
      refine f_goto C 6 dX0_latest_90 (by decide) ?_
      refine f_re (lv' := [(0, .ref (a 4)), (1, .long (zJ v1)), (3, .long (zJ v3)), (5, .int (zI v6)), (6, .int (zI (v6 + 1)))]) [3, 4, 5, 1, 0] rfl ?_
      exact ih v6 (v6 + 1) st ⟨by omega, by omega⟩ ⟨by omega, by omega⟩ (show 0 ≤ (v6 + 1) ∧ (v6 + 1) ≤ (st.1 6) by omega) (show -1 ≤ v6 ∧ v6 ≤ 5 by omega) (show 0 ≤ (st.1 6) ∧ (st.1 6) ≤ 6 by omega) (show (st.1 6) - (v6 + 1) < ((n : Nat) : Int) by omega) (fun z e1 r1 => hp z (by rw [F_X0_latest_6, if_neg c3, if_neg c6, if_neg c10, if_pos c13]; exact e1) r1)
    refine f_aload_n C 0 dX0_latest_61 rfl rfl ?_
    refine f_get C hin0 4 0 rfl rfl (Nat.le_of_ble_eq_true rfl) (by decide +kernel) rfl rfl dX0_latest_62 ?_
    refine f_iload C 6 dX0_latest_65 rfl ?_
    refine f_calll C (c_Row_get hX 9 (Nat.le_of_ble_eq_true rfl) v6 ⟨by omega, by omega⟩ st) (cwV 1 C.1.2.2.2.2 gX0_latest_X5_get rfl rfl rfl (by decide +kernel) ⟨Nat.le_of_ble_eq_true rfl, Nat.le_of_ble_eq_true rfl⟩) 17 (wX_row cJ a st (r := 9) (Nat.le_of_ble_eq_true rfl)) rfl rfl rfl rfl (Nat.le_of_ble_eq_true rfl) ⟨Nat.zero_le _, Nat.zero_le _⟩ dX0_latest_67 (fun z u hz14 hu => ?_)
    obtain ⟨qz14, hu⟩ : z = rget 6 (st.2 9) v6 ∧ u = st := hu
    replace hu := hu.symm; subst hu; subst qz14
    refine f_aload_n C 0 dX0_latest_70 rfl rfl ?_
    refine f_get C hin0 4 0 rfl rfl (Nat.le_of_ble_eq_true rfl) (by decide +kernel) rfl rfl dX0_latest_71 ?_
    refine f_iload C 5 dX0_latest_74 rfl ?_
    refine f_calll C (c_Row_get hX 9 (Nat.le_of_ble_eq_true rfl) v5 ⟨by omega, by omega⟩ st) (cwV 1 C.1.2.2.2.2 gX0_latest_X5_get rfl rfl rfl (by decide +kernel) ⟨Nat.le_of_ble_eq_true rfl, Nat.le_of_ble_eq_true rfl⟩) 17 (wX_row cJ a st (r := 9) (Nat.le_of_ble_eq_true rfl)) rfl rfl rfl rfl (Nat.le_of_ble_eq_true rfl) ⟨Nat.zero_le _, Nat.zero_le _⟩ dX0_latest_76 (fun z u hz15 hu => ?_)
    obtain ⟨qz15, hu⟩ : z = rget 6 (st.2 9) v5 ∧ u = st := hu
    replace hu := hu.symm; subst hu; subst qz15
    have k16 : 0 ≤ rget 6 (st.2 9) v5 ∧ rget 6 (st.2 9) v5 ≤ 3599 := xget_ok hO1 9 6 v5
    refine f_lc_if_lt C 87 ⟨by omega, by omega⟩ ⟨by omega, by omega⟩ dX0_latest_79 dX0_latest_80 (by decide) (fun c17 => ?_) (fun c17 => ?_)
    · refine f_iinc C (lv' := [(6, .int (zI (v6 + 1))), (7, .int (zI 1)), (0, .ref (a 4)), (1, .long (zJ v1)), (3, .long (zJ v3)), (5, .int (zI v5))]) 5 dX0_latest_87 rfl (Nat.le_of_ble_eq_true rfl) rfl ?_
      refine f_goto C 6 dX0_latest_90 (by decide) ?_
      refine f_re (lv' := [(0, .ref (a 4)), (1, .long (zJ v1)), (3, .long (zJ v3)), (5, .int (zI v5)), (6, .int (zI (v6 + 1)))]) [2, 3, 4, 5, 0] rfl ?_
      exact ih v5 (v6 + 1) st ⟨by omega, by omega⟩ ⟨by omega, by omega⟩ (show 0 ≤ (v6 + 1) ∧ (v6 + 1) ≤ (st.1 6) by omega) (show -1 ≤ v5 ∧ v5 ≤ 5 by omega) (show 0 ≤ (st.1 6) ∧ (st.1 6) ≤ 6 by omega) (show (st.1 6) - (v6 + 1) < ((n : Nat) : Int) by omega) (fun z e1 r1 => hp z (by rw [F_X0_latest_6, if_neg c3, if_neg c6, if_neg c10, if_neg c13, if_pos c17]; exact e1) r1)
    refine f_iload C 6 dX0_latest_83 rfl ?_
    refine f_istore C (lv' := [(5, .int (zI v6)), (7, .int (zI 1)), (0, .ref (a 4)), (1, .long (zJ v1)), (3, .long (zJ v3)), (6, .int (zI v6))]) dX0_latest_85 (Nat.le_of_ble_eq_true rfl) rfl ?_
    refine f_iinc C (lv' := [(6, .int (zI (v6 + 1))), (5, .int (zI v6)), (7, .int (zI 1)), (0, .ref (a 4)), (1, .long (zJ v1)), (3, .long (zJ v3))]) 5 dX0_latest_87 rfl (Nat.le_of_ble_eq_true rfl) rfl ?_
    refine f_goto C 6 dX0_latest_90 (by decide) ?_
    refine f_re (lv' := [(0, .ref (a 4)), (1, .long (zJ v1)), (3, .long (zJ v3)), (5, .int (zI v6)), (6, .int (zI (v6 + 1)))]) [3, 4, 5, 1, 0] rfl ?_
    exact ih v6 (v6 + 1) st ⟨by omega, by omega⟩ ⟨by omega, by omega⟩ (show 0 ≤ (v6 + 1) ∧ (v6 + 1) ≤ (st.1 6) by omega) (show -1 ≤ v6 ∧ v6 ≤ 5 by omega) (show 0 ≤ (st.1 6) ∧ (st.1 6) ≤ 6 by omega) (show (st.1 6) - (v6 + 1) < ((n : Nat) : Int) by omega) (fun z e1 r1 => hp z (by rw [F_X0_latest_6, if_neg c3, if_neg c6, if_neg c10, if_neg c13, if_neg c17]; exact e1) r1)
set_option maxRecDepth 100000 in
set_option maxHeartbeats 8000000 in
theorem c_X0_latest {l : Launch} {D : va_G} {cI cJ cZ cB : ClassId} {a : Nat → Nat} {E : State → Prop} (hX : xHyp a E) (p1 : Int) (p3 : Int) (h1 : in64 p1) (h3 : in64 p3) (st : fS)  : xMi l D cI cJ cZ cB a E yX0_latest wsX0_latest rm_X0_latest [.ref (a 4), .long (zJ p1), .long (zJ p3)] st (fun z u => z = F_X0_latest p1 p3 st ∧ u = st ∧ ((-1) ≤ z ∧ z ≤ 5)) := by
  refine fB_open (cc := cX0_latest) (maxL := 8) (ret := (some .int)) (by decide) rfl (Nat.le_of_ble_eq_true rfl) hX.2 ?_
  intro p e s m below meth c C hret hlk
  have hp : ∀ z : Int, z = F_X0_latest p1 p3 st → ((-1) ≤ z ∧ z ≤ 5) → z = F_X0_latest p1 p3 st ∧ st = st ∧ ((-1) ≤ z ∧ z ≤ 5) := fun z h r1 => ⟨h, rfl, r1⟩
  refine f_iconst C dX0_latest_0 ?_
  refine f_istore C (lv' := [(5, .int (zI (-1))), (0, .ref (a 4)), (1, .long (zJ p1)), (3, .long (zJ p3))]) dX0_latest_1 (Nat.le_of_ble_eq_true rfl) rfl ?_
  refine f_iconst C dX0_latest_3 ?_
  refine f_istore C (lv' := [(6, .int (zI 0)), (5, .int (zI (-1))), (0, .ref (a 4)), (1, .long (zJ p1)), (3, .long (zJ p3))]) dX0_latest_4 (Nat.le_of_ble_eq_true rfl) rfl ?_
  refine f_re (lv' := [(0, .ref (a 4)), (1, .long (zJ p1)), (3, .long (zJ p3)), (5, .int (zI (-1))), (6, .int (zI 0))]) [2, 3, 4, 1, 0] rfl ?_
  refine f_ok (fun hO18 => ?_)
  have k19 : 0 ≤ st.1 6 ∧ st.1 6 ≤ 6 := hO18.1 6
  exact v_X0_latest_6 hX p1 p3 ⟨by omega, by omega⟩ ⟨by omega, by omega⟩ C hret hlk (Int.toNat ((st.1 6) - (0 : Int)) + 1) (-1) 0 st ⟨by omega, by omega⟩ ⟨by omega, by omega⟩ (show 0 ≤ (0 : Int) ∧ (0 : Int) ≤ (st.1 6) by omega) (show -1 ≤ (-1 : Int) ∧ (-1 : Int) ≤ 5 by omega) (show 0 ≤ (st.1 6) ∧ (st.1 6) ≤ 6 by omega) (show (st.1 6) - (0 : Int) < ((Int.toNat ((st.1 6) - (0 : Int)) + 1 : Nat) : Int) by omega) (fun z e1 r1 => hp z (by rw [F_X0_latest]; exact e1) r1)

def F_X0_hasRule (p1 : Int) (p2 : Int) (st : fS) : Int := if (F_X0_has p1 st) = 0 then 0 else (if (rget 36 (st.2 12) (F_X0_cellOf p1 p2 st)) = (-1) then 0 else 1)
abbrev rm_X0_hasRule : Room := { frames := 1, cells := 0, slots := 0, locals := 21 }
set_option maxRecDepth 100000 in
set_option maxHeartbeats 8000000 in
theorem c_X0_hasRule {l : Launch} {D : va_G} {cI cJ cZ cB : ClassId} {a : Nat → Nat} {E : State → Prop} (hX : xHyp a E) (p1 : Int) (p2 : Int) (h1 : in32 p1) (h2 : in32 p2) (st : fS) (q1 : (-1000000) ≤ p1 ∧ p1 ≤ 1000000) (q2 : (-1000000) ≤ p2 ∧ p2 ≤ 1000000) : xMi l D cI cJ cZ cB a E yX0_hasRule wsX0_hasRule rm_X0_hasRule [.ref (a 4), .int (zI p1), .int (zI p2)] st (fun z u => z = F_X0_hasRule p1 p2 st ∧ u = st ∧ (z = 0 ∨ z = 1)) := by
  refine fB_open (cc := cX0_hasRule) (maxL := 3) (ret := (some .boolean)) (by decide) rfl (Nat.le_of_ble_eq_true rfl) hX.2 ?_
  intro p e s m below meth c C hret hlk
  have hin0 : ∀ w ∈ u_ws RX0 TX0 12, w ∈ wsX0_hasRule := by decide +kernel
  have hp : ∀ z : Int, z = F_X0_hasRule p1 p2 st → (z = 0 ∨ z = 1) → z = F_X0_hasRule p1 p2 st ∧ st = st ∧ (z = 0 ∨ z = 1) := fun z h r1 => ⟨h, rfl, r1⟩
  refine f_aload_n C 0 dX0_hasRule_0 rfl rfl ?_
  refine f_iload_n C 1 dX0_hasRule_1 rfl rfl ?_
  refine f_calli C (c_X0_has hX p1 ⟨by omega, by omega⟩ st) (cwV 1 C.1.2.2.2.2 gX0_hasRule_X0_has rfl rfl rfl (by decide +kernel) ⟨Nat.le_of_ble_eq_true rfl, Nat.le_of_ble_eq_true rfl⟩) 4 rfl rfl rfl rfl rfl (Nat.le_of_ble_eq_true rfl) ⟨Nat.zero_le _, Nat.zero_le _⟩ dX0_hasRule_2 (fun z u hz1 hu => ?_)
  obtain ⟨qz1, hu, rz1⟩ := hu; replace hu := hu.symm; subst hu; subst qz1
  refine f_if_eq C 31 ⟨by omega, by omega⟩ dX0_hasRule_5 (by decide) (fun c2 => ?_) (fun c2 => ?_)
  · refine f_iconst C dX0_hasRule_31 ?_
    exact f_zret C hret hlk dX0_hasRule_32 (by decide) (hp _ (by rw [F_X0_hasRule, if_pos c2]) (by omega))
  refine f_aload_n C 0 dX0_hasRule_8 rfl rfl ?_
  refine f_get C hin0 4 3 rfl rfl (Nat.le_of_ble_eq_true rfl) (by decide +kernel) rfl rfl dX0_hasRule_9 ?_
  refine f_iload_n C 1 dX0_hasRule_12 rfl rfl ?_
  refine f_iload_n C 2 dX0_hasRule_13 rfl rfl ?_
  refine f_callsi C (c_X0_cellOf hX p1 p2 ⟨by omega, by omega⟩ ⟨by omega, by omega⟩ st (show (-1000000) ≤ p1 ∧ p1 ≤ 1000000 by omega) (show (-1000000) ≤ p2 ∧ p2 ≤ 1000000 by omega)) (va_cwS 2 C.1.2.2.2.2 gX0_hasRule_X0_cellOf rfl rfl rfl (by decide +kernel) ⟨Nat.le_of_ble_eq_true rfl, Nat.le_of_ble_eq_true rfl⟩) rfl rfl (Nat.le_of_ble_eq_true rfl) ⟨Nat.zero_le _, Nat.zero_le _⟩ dX0_hasRule_14 (fun z u hz3 hu => ?_)
  obtain ⟨qz3, hu, rz3⟩ := hu; replace hu := hu.symm; subst hu; subst qz3
  refine f_ok (fun hO4 => ?_)
  refine f_calll C (c_Row_get hX 12 (Nat.le_of_ble_eq_true rfl) (F_X0_cellOf p1 p2 st) ⟨by omega, by omega⟩ st) (cwV 1 C.1.2.2.2.2 gX0_hasRule_X5_get rfl rfl rfl (by decide +kernel) ⟨Nat.le_of_ble_eq_true rfl, Nat.le_of_ble_eq_true rfl⟩) 20 (wX_row cJ a st (r := 12) (Nat.le_of_ble_eq_true rfl)) rfl rfl rfl rfl (Nat.le_of_ble_eq_true rfl) ⟨Nat.zero_le _, Nat.zero_le _⟩ dX0_hasRule_17 (fun z u hz5 hu => ?_)
  obtain ⟨qz5, hu⟩ : z = rget 36 (st.2 12) (F_X0_cellOf p1 p2 st) ∧ u = st := hu
  replace hu := hu.symm; subst hu; subst qz5
  have k6 : (-1) ≤ rget 36 (st.2 12) (F_X0_cellOf p1 p2 st) ∧ rget 36 (st.2 12) (F_X0_cellOf p1 p2 st) ≤ 999999 := xget_ok hO4 12 36 (F_X0_cellOf p1 p2 st)
  refine f_ldc2 C (v := (-1)) (z := (-1)) (by decide +kernel) (by decide) dX0_hasRule_20 ?_
  refine f_lc_if_eq C 31 ⟨by omega, by omega⟩ ⟨by decide, by decide⟩ dX0_hasRule_23 dX0_hasRule_24 (by decide) (fun c7 => ?_) (fun c7 => ?_)
  · refine f_iconst C dX0_hasRule_31 ?_
    exact f_zret C hret hlk dX0_hasRule_32 (by decide) (hp _ (by rw [F_X0_hasRule, if_neg c2, if_pos c7]) (by omega))
  refine f_iconst C dX0_hasRule_27 ?_
  refine f_goto C 32 dX0_hasRule_28 (by decide) ?_
  exact f_zret C hret hlk dX0_hasRule_32 (by decide) (hp _ (by rw [F_X0_hasRule, if_neg c2, if_neg c7]) (by omega))

def F_X0_priceOf_39 (v1 v2 v10 v12 : Int) : Nat → Int → Int → Int → Int → fS → Int
  | 0, _, _, _, _, _ => 0
  | n + 1, v4, v6, v8, v14, st => if 66 ≤ v14 then v4 + ((v2 - v6) * v8) else (if v12 ≤ v14 then v4 + ((v2 - v6) * v8) else (if (rget 396 (st.2 17) (v10 + v14)) < v2 then F_X0_priceOf_39 v1 v2 v10 v12 (n) (v4 + (((rget 396 (st.2 17) (v10 + v14)) - v6) * v8)) (rget 396 (st.2 17) (v10 + v14)) (rget 396 (st.2 18) (v10 + v14)) (v14 + 1) st else v4 + ((v2 - v6) * v8)))

def F_X0_priceOf (p1 : Int) (p2 : Int) (st : fS) : Int := F_X0_priceOf_39 p1 p2 (rget 36 (st.2 15) p1) (rget 36 (st.2 16) p1) (Int.toNat (66 - (0 : Int)) + 1) 0 0 (rget 36 (st.2 13) p1) 0 st
abbrev rm_X0_priceOf : Room := { frames := 1, cells := 0, slots := 0, locals := 21 }
set_option maxRecDepth 100000 in
set_option maxHeartbeats 8000000 in
theorem v_X0_priceOf_39 {l : Launch} {D : va_G} {cI cJ cZ cB : ClassId} {a : Nat → Nat} {E : State → Prop} (hX : xHyp a E) (v1 v2 v10 v12 : Int) (hv1 : in32 v1) (hv2 : in64 v2) (hv10 : in64 v10) (hv12 : in64 v12) {p : Program} {e : Env} {s : State} {m : MethodId} {args : Array Value} {below : List Frame} {meth : Method} {c : Code} (C : fC p m c cX0_priceOf 18 s args wsX0_priceOf yX0_priceOf.cls D (fTys cI cJ cZ cB) E (xA a)) (hret : meth.sig.returnType = (some .long)) (hlk : meth.locks = false) {post : Int → fS → Prop} : ∀ (n : Nat) (v4 v6 v8 v14 : Int) (st : fS), in64 v4 → in64 v6 → in64 v8 → in32 v14 → (0 ≤ v2 ∧ v2 ≤ 1000000) → (0 ≤ v14 ∧ v14 ≤ 66) → (-(1000000000000 * v14) ≤ v4 ∧ v4 ≤ 1000000000000 * v14) → (0 ≤ v6 ∧ v6 ≤ 999999) → (0 ≤ v8 ∧ v8 ≤ 999999) → (0 ≤ v10 ∧ v10 ≤ 1000000) → 66 - v14 < n → (∀ z : Int, z = F_X0_priceOf_39 v1 v2 v10 v12 n v4 v6 v8 v14 st → ((-67000000000000) ≤ z ∧ z ≤ 67000000000000) → post z st) → fV D (wX cJ a) xOk (xA a) 18 p l e rm_X0_priceOf s m args below meth c 0 0 (fMQ below (fQl D (wX cJ a) xOk (xA a) post) args s (xA a)) st 39 [(0, .ref (a 4)), (1, .int (zI v1)), (2, .long (zJ v2)), (4, .long (zJ v4)), (6, .long (zJ v6)), (8, .long (zJ v8)), (10, .long (zJ v10)), (12, .long (zJ v12)), (14, .int (zI v14))] [] := by
  have hin0 : ∀ w ∈ u_ws RX0 TX0 12, w ∈ wsX0_priceOf := by decide +kernel
  intro n
  induction n with
  | zero =>
    intro v4 v6 v8 v14 st hv4 hv6 hv8 hv14 i0 i1 i2 i3 i4 i5 hm hp
    omega
  | succ n ih =>
    intro v4 v6 v8 v14 st hv4 hv6 hv8 hv14 i0 i1 i2 i3 i4 i5 hm hp
    refine f_iload C 14 dX0_priceOf_39 rfl ?_
    refine f_bipush C dX0_priceOf_41 (by decide) ?_
    refine f_icmp_ge C 118 ⟨by omega, by omega⟩ ⟨by decide, by decide⟩ dX0_priceOf_43 (by decide) (fun c1 => ?_) (fun c1 => ?_)
    · refine f_lload C 4 dX0_priceOf_118 rfl ?_
      refine f_lload_n C 2 dX0_priceOf_120 rfl rfl ?_
      refine f_lload C 6 dX0_priceOf_121 rfl ?_
      refine f_lsub C dX0_priceOf_123 ?_
      refine f_lload C 8 dX0_priceOf_124 rfl ?_
      refine f_lmul C dX0_priceOf_126 ?_
      have k2 := mulb (v2 - v6) v8 (A := 1000000) (B := 1000000) (C := 1000000000000) (by decide) ⟨by omega, by omega⟩ ⟨by omega, by omega⟩
      refine f_ladd C dX0_priceOf_127 ?_
      exact f_lret C hret hlk dX0_priceOf_128 ⟨by omega, by omega⟩ (hp _ (by rw [F_X0_priceOf_39, if_pos c1]) (by omega))
    refine f_iload C 14 dX0_priceOf_46 rfl ?_
    refine f_i2l C ⟨by omega, by omega⟩ dX0_priceOf_48 ?_
    refine f_lload C 12 dX0_priceOf_49 rfl ?_
    refine f_lc_if_ge C 118 ⟨by omega, by omega⟩ ⟨by omega, by omega⟩ dX0_priceOf_51 dX0_priceOf_52 (by decide) (fun c3 => ?_) (fun c3 => ?_)
    · refine f_lload C 4 dX0_priceOf_118 rfl ?_
      refine f_lload_n C 2 dX0_priceOf_120 rfl rfl ?_
      refine f_lload C 6 dX0_priceOf_121 rfl ?_
      refine f_lsub C dX0_priceOf_123 ?_
      refine f_lload C 8 dX0_priceOf_124 rfl ?_
      refine f_lmul C dX0_priceOf_126 ?_
      have k4 := mulb (v2 - v6) v8 (A := 1000000) (B := 1000000) (C := 1000000000000) (by decide) ⟨by omega, by omega⟩ ⟨by omega, by omega⟩
      refine f_ladd C dX0_priceOf_127 ?_
      exact f_lret C hret hlk dX0_priceOf_128 ⟨by omega, by omega⟩ (hp _ (by rw [F_X0_priceOf_39, if_neg c1, if_pos c3]) (by omega))
    refine f_lload C 10 dX0_priceOf_55 rfl ?_
    refine f_l2i C dX0_priceOf_57 ?_
    refine f_iload C 14 dX0_priceOf_58 rfl ?_
    refine f_iadd C dX0_priceOf_60 ?_
    refine f_istore C (lv' := [(15, .int (zI (v10 + v14))), (0, .ref (a 4)), (1, .int (zI v1)), (2, .long (zJ v2)), (4, .long (zJ v4)), (6, .long (zJ v6)), (8, .long (zJ v8)), (10, .long (zJ v10)), (12, .long (zJ v12)), (14, .int (zI v14))]) dX0_priceOf_61 (Nat.le_of_ble_eq_true rfl) rfl ?_
    refine f_aload_n C 0 dX0_priceOf_63 rfl rfl ?_
    refine f_get C hin0 4 8 rfl rfl (Nat.le_of_ble_eq_true rfl) (by decide +kernel) rfl rfl dX0_priceOf_64 ?_
    refine f_iload C 15 dX0_priceOf_67 rfl ?_
    refine f_ok (fun hO5 => ?_)
    refine f_calll C (c_Row_get hX 17 (Nat.le_of_ble_eq_true rfl) (v10 + v14) ⟨by omega, by omega⟩ st) (cwV 1 C.1.2.2.2.2 gX0_priceOf_X5_get rfl rfl rfl (by decide +kernel) ⟨Nat.le_of_ble_eq_true rfl, Nat.le_of_ble_eq_true rfl⟩) 25 (wX_row cJ a st (r := 17) (Nat.le_of_ble_eq_true rfl)) rfl rfl rfl rfl (Nat.le_of_ble_eq_true rfl) ⟨Nat.zero_le _, Nat.zero_le _⟩ dX0_priceOf_69 (fun z u hz6 hu => ?_)
    obtain ⟨qz6, hu⟩ : z = rget 396 (st.2 17) (v10 + v14) ∧ u = st := hu
    replace hu := hu.symm; subst hu; subst qz6
    have k7 : 0 ≤ rget 396 (st.2 17) (v10 + v14) ∧ rget 396 (st.2 17) (v10 + v14) ≤ 999999 := xget_ok hO5 17 396 (v10 + v14)
    refine f_lstore C (lv' := [(16, .long (zJ (rget 396 (st.2 17) (v10 + v14)))), (15, .int (zI (v10 + v14))), (0, .ref (a 4)), (1, .int (zI v1)), (2, .long (zJ v2)), (4, .long (zJ v4)), (6, .long (zJ v6)), (8, .long (zJ v8)), (10, .long (zJ v10)), (12, .long (zJ v12)), (14, .int (zI v14))]) dX0_priceOf_72 (Nat.le_of_ble_eq_true rfl) rfl ?_
    refine f_lload C 16 dX0_priceOf_74 rfl ?_
    refine f_lload_n C 2 dX0_priceOf_76 rfl rfl ?_
    refine f_lc_if_lt C 84 ⟨by omega, by omega⟩ ⟨by omega, by omega⟩ dX0_priceOf_77 dX0_priceOf_78 (by decide) (fun c8 => ?_) (fun c8 => ?_)
    · refine f_lload C 4 dX0_priceOf_84 rfl ?_
      refine f_lload C 16 dX0_priceOf_86 rfl ?_
      refine f_lload C 6 dX0_priceOf_88 rfl ?_
      refine f_lsub C dX0_priceOf_90 ?_
      refine f_lload C 8 dX0_priceOf_91 rfl ?_
      refine f_lmul C dX0_priceOf_93 ?_
      have k9 := mulb ((rget 396 (st.2 17) (v10 + v14)) - v6) v8 (A := 1000000) (B := 1000000) (C := 1000000000000) (by decide) ⟨by omega, by omega⟩ ⟨by omega, by omega⟩
      refine f_ladd C dX0_priceOf_94 ?_
      refine f_lstore C (lv' := [(4, .long (zJ (v4 + (((rget 396 (st.2 17) (v10 + v14)) - v6) * v8)))), (16, .long (zJ (rget 396 (st.2 17) (v10 + v14)))), (15, .int (zI (v10 + v14))), (0, .ref (a 4)), (1, .int (zI v1)), (2, .long (zJ v2)), (6, .long (zJ v6)), (8, .long (zJ v8)), (10, .long (zJ v10)), (12, .long (zJ v12)), (14, .int (zI v14))]) dX0_priceOf_95 (Nat.le_of_ble_eq_true rfl) rfl ?_
      refine f_lload C 16 dX0_priceOf_97 rfl ?_
      refine f_lstore C (lv' := [(6, .long (zJ (rget 396 (st.2 17) (v10 + v14)))), (4, .long (zJ (v4 + (((rget 396 (st.2 17) (v10 + v14)) - v6) * v8)))), (16, .long (zJ (rget 396 (st.2 17) (v10 + v14)))), (15, .int (zI (v10 + v14))), (0, .ref (a 4)), (1, .int (zI v1)), (2, .long (zJ v2)), (8, .long (zJ v8)), (10, .long (zJ v10)), (12, .long (zJ v12)), (14, .int (zI v14))]) dX0_priceOf_99 (Nat.le_of_ble_eq_true rfl) rfl ?_
      refine f_aload_n C 0 dX0_priceOf_101 rfl rfl ?_
      refine f_get C hin0 4 9 rfl rfl (Nat.le_of_ble_eq_true rfl) (by decide +kernel) rfl rfl dX0_priceOf_102 ?_
      refine f_iload C 15 dX0_priceOf_105 rfl ?_
      refine f_calll C (c_Row_get hX 18 (Nat.le_of_ble_eq_true rfl) (v10 + v14) ⟨by omega, by omega⟩ st) (cwV 1 C.1.2.2.2.2 gX0_priceOf_X5_get rfl rfl rfl (by decide +kernel) ⟨Nat.le_of_ble_eq_true rfl, Nat.le_of_ble_eq_true rfl⟩) 26 (wX_row cJ a st (r := 18) (Nat.le_of_ble_eq_true rfl)) rfl rfl rfl rfl (Nat.le_of_ble_eq_true rfl) ⟨Nat.zero_le _, Nat.zero_le _⟩ dX0_priceOf_107 (fun z u hz10 hu => ?_)
      obtain ⟨qz10, hu⟩ : z = rget 396 (st.2 18) (v10 + v14) ∧ u = st := hu
      replace hu := hu.symm; subst hu; subst qz10
      have k11 : 0 ≤ rget 396 (st.2 18) (v10 + v14) ∧ rget 396 (st.2 18) (v10 + v14) ≤ 999999 := xget_ok hO5 18 396 (v10 + v14)
      refine f_lstore C (lv' := [(8, .long (zJ (rget 396 (st.2 18) (v10 + v14)))), (6, .long (zJ (rget 396 (st.2 17) (v10 + v14)))), (4, .long (zJ (v4 + (((rget 396 (st.2 17) (v10 + v14)) - v6) * v8)))), (16, .long (zJ (rget 396 (st.2 17) (v10 + v14)))), (15, .int (zI (v10 + v14))), (0, .ref (a 4)), (1, .int (zI v1)), (2, .long (zJ v2)), (10, .long (zJ v10)), (12, .long (zJ v12)), (14, .int (zI v14))]) dX0_priceOf_110 (Nat.le_of_ble_eq_true rfl) rfl ?_
      refine f_iinc C (lv' := [(14, .int (zI (v14 + 1))), (8, .long (zJ (rget 396 (st.2 18) (v10 + v14)))), (6, .long (zJ (rget 396 (st.2 17) (v10 + v14)))), (4, .long (zJ (v4 + (((rget 396 (st.2 17) (v10 + v14)) - v6) * v8)))), (16, .long (zJ (rget 396 (st.2 17) (v10 + v14)))), (15, .int (zI (v10 + v14))), (0, .ref (a 4)), (1, .int (zI v1)), (2, .long (zJ v2)), (10, .long (zJ v10)), (12, .long (zJ v12))]) 10 dX0_priceOf_112 rfl (Nat.le_of_ble_eq_true rfl) rfl ?_
      refine f_goto C 39 dX0_priceOf_115 (by decide) ?_
      refine f_re (lv' := [(0, .ref (a 4)), (1, .int (zI v1)), (2, .long (zJ v2)), (4, .long (zJ (v4 + (((rget 396 (st.2 17) (v10 + v14)) - v6) * v8)))), (6, .long (zJ (rget 396 (st.2 17) (v10 + v14)))), (8, .long (zJ (rget 396 (st.2 18) (v10 + v14)))), (10, .long (zJ v10)), (12, .long (zJ v12)), (14, .int (zI (v14 + 1)))]) [6, 7, 8, 3, 2, 1, 9, 10, 0] rfl ?_
      exact ih (v4 + (((rget 396 (st.2 17) (v10 + v14)) - v6) * v8)) (rget 396 (st.2 17) (v10 + v14)) (rget 396 (st.2 18) (v10 + v14)) (v14 + 1) st ⟨by omega, by omega⟩ ⟨by omega, by omega⟩ ⟨by omega, by omega⟩ ⟨by omega, by omega⟩ (show 0 ≤ v2 ∧ v2 ≤ 1000000 by omega) (show 0 ≤ (v14 + 1) ∧ (v14 + 1) ≤ 66 by omega) (show -(1000000000000 * (v14 + 1)) ≤ (v4 + (((rget 396 (st.2 17) (v10 + v14)) - v6) * v8)) ∧ (v4 + (((rget 396 (st.2 17) (v10 + v14)) - v6) * v8)) ≤ 1000000000000 * (v14 + 1) by omega) (show 0 ≤ (rget 396 (st.2 17) (v10 + v14)) ∧ (rget 396 (st.2 17) (v10 + v14)) ≤ 999999 by omega) (show 0 ≤ (rget 396 (st.2 18) (v10 + v14)) ∧ (rget 396 (st.2 18) (v10 + v14)) ≤ 999999 by omega) (show 0 ≤ v10 ∧ v10 ≤ 1000000 by omega) (show 66 - (v14 + 1) < ((n : Nat) : Int) by omega) (fun z e1 r1 => hp z (by rw [F_X0_priceOf_39, if_neg c1, if_neg c3, if_pos c8]; exact e1) r1)
    refine f_goto C 118 dX0_priceOf_81 (by decide) ?_
    refine f_lload C 4 dX0_priceOf_118 rfl ?_
    refine f_lload_n C 2 dX0_priceOf_120 rfl rfl ?_
    refine f_lload C 6 dX0_priceOf_121 rfl ?_
    refine f_lsub C dX0_priceOf_123 ?_
    refine f_lload C 8 dX0_priceOf_124 rfl ?_
    refine f_lmul C dX0_priceOf_126 ?_
    have k12 := mulb (v2 - v6) v8 (A := 1000000) (B := 1000000) (C := 1000000000000) (by decide) ⟨by omega, by omega⟩ ⟨by omega, by omega⟩
    refine f_ladd C dX0_priceOf_127 ?_
    exact f_lret C hret hlk dX0_priceOf_128 ⟨by omega, by omega⟩ (hp _ (by rw [F_X0_priceOf_39, if_neg c1, if_neg c3, if_neg c8]) (by omega))
set_option maxRecDepth 100000 in
set_option maxHeartbeats 8000000 in
theorem c_X0_priceOf {l : Launch} {D : va_G} {cI cJ cZ cB : ClassId} {a : Nat → Nat} {E : State → Prop} (hX : xHyp a E) (p1 : Int) (p2 : Int) (h1 : in32 p1) (h2 : in64 p2) (st : fS) (q2 : 0 ≤ p2 ∧ p2 ≤ 1000000) : xMl l D cI cJ cZ cB a E yX0_priceOf wsX0_priceOf rm_X0_priceOf [.ref (a 4), .int (zI p1), .long (zJ p2)] st (fun z u => z = F_X0_priceOf p1 p2 st ∧ u = st ∧ ((-67000000000000) ≤ z ∧ z ≤ 67000000000000)) := by
  refine fB_open (cc := cX0_priceOf) (maxL := 18) (ret := (some .long)) (by decide) rfl (Nat.le_of_ble_eq_true rfl) hX.2 ?_
  intro p e s m below meth c C hret hlk
  have hin0 : ∀ w ∈ u_ws RX0 TX0 12, w ∈ wsX0_priceOf := by decide +kernel
  have hp : ∀ z : Int, z = F_X0_priceOf p1 p2 st → ((-67000000000000) ≤ z ∧ z ≤ 67000000000000) → z = F_X0_priceOf p1 p2 st ∧ st = st ∧ ((-67000000000000) ≤ z ∧ z ≤ 67000000000000) := fun z h r1 => ⟨h, rfl, r1⟩
  refine f_lconst C (z := 0) dX0_priceOf_0 rfl ?_
  refine f_lstore C (lv' := [(4, .long (zJ 0)), (0, .ref (a 4)), (1, .int (zI p1)), (2, .long (zJ p2))]) dX0_priceOf_1 (Nat.le_of_ble_eq_true rfl) rfl ?_
  refine f_lconst C (z := 0) dX0_priceOf_3 rfl ?_
  refine f_lstore C (lv' := [(6, .long (zJ 0)), (4, .long (zJ 0)), (0, .ref (a 4)), (1, .int (zI p1)), (2, .long (zJ p2))]) dX0_priceOf_4 (Nat.le_of_ble_eq_true rfl) rfl ?_
  refine f_aload_n C 0 dX0_priceOf_6 rfl rfl ?_
  refine f_get C hin0 4 4 rfl rfl (Nat.le_of_ble_eq_true rfl) (by decide +kernel) rfl rfl dX0_priceOf_7 ?_
  refine f_iload_n C 1 dX0_priceOf_10 rfl rfl ?_
  refine f_ok (fun hO13 => ?_)
  refine f_calll C (c_Row_get hX 13 (Nat.le_of_ble_eq_true rfl) p1 ⟨by omega, by omega⟩ st) (cwV 1 C.1.2.2.2.2 gX0_priceOf_X5_get rfl rfl rfl (by decide +kernel) ⟨Nat.le_of_ble_eq_true rfl, Nat.le_of_ble_eq_true rfl⟩) 21 (wX_row cJ a st (r := 13) (Nat.le_of_ble_eq_true rfl)) rfl rfl rfl rfl (Nat.le_of_ble_eq_true rfl) ⟨Nat.zero_le _, Nat.zero_le _⟩ dX0_priceOf_11 (fun z u hz14 hu => ?_)
  obtain ⟨qz14, hu⟩ : z = rget 36 (st.2 13) p1 ∧ u = st := hu
  replace hu := hu.symm; subst hu; subst qz14
  have k15 : 0 ≤ rget 36 (st.2 13) p1 ∧ rget 36 (st.2 13) p1 ≤ 999999 := xget_ok hO13 13 36 p1
  refine f_lstore C (lv' := [(8, .long (zJ (rget 36 (st.2 13) p1))), (6, .long (zJ 0)), (4, .long (zJ 0)), (0, .ref (a 4)), (1, .int (zI p1)), (2, .long (zJ p2))]) dX0_priceOf_14 (Nat.le_of_ble_eq_true rfl) rfl ?_
  refine f_aload_n C 0 dX0_priceOf_16 rfl rfl ?_
  refine f_get C hin0 4 6 rfl rfl (Nat.le_of_ble_eq_true rfl) (by decide +kernel) rfl rfl dX0_priceOf_17 ?_
  refine f_iload_n C 1 dX0_priceOf_20 rfl rfl ?_
  refine f_calll C (c_Row_get hX 15 (Nat.le_of_ble_eq_true rfl) p1 ⟨by omega, by omega⟩ st) (cwV 1 C.1.2.2.2.2 gX0_priceOf_X5_get rfl rfl rfl (by decide +kernel) ⟨Nat.le_of_ble_eq_true rfl, Nat.le_of_ble_eq_true rfl⟩) 23 (wX_row cJ a st (r := 15) (Nat.le_of_ble_eq_true rfl)) rfl rfl rfl rfl (Nat.le_of_ble_eq_true rfl) ⟨Nat.zero_le _, Nat.zero_le _⟩ dX0_priceOf_21 (fun z u hz16 hu => ?_)
  obtain ⟨qz16, hu⟩ : z = rget 36 (st.2 15) p1 ∧ u = st := hu
  replace hu := hu.symm; subst hu; subst qz16
  have k17 : 0 ≤ rget 36 (st.2 15) p1 ∧ rget 36 (st.2 15) p1 ≤ 1000000 := xget_ok hO13 15 36 p1
  refine f_lstore C (lv' := [(10, .long (zJ (rget 36 (st.2 15) p1))), (8, .long (zJ (rget 36 (st.2 13) p1))), (6, .long (zJ 0)), (4, .long (zJ 0)), (0, .ref (a 4)), (1, .int (zI p1)), (2, .long (zJ p2))]) dX0_priceOf_24 (Nat.le_of_ble_eq_true rfl) rfl ?_
  refine f_aload_n C 0 dX0_priceOf_26 rfl rfl ?_
  refine f_get C hin0 4 7 rfl rfl (Nat.le_of_ble_eq_true rfl) (by decide +kernel) rfl rfl dX0_priceOf_27 ?_
  refine f_iload_n C 1 dX0_priceOf_30 rfl rfl ?_
  refine f_calll C (c_Row_get hX 16 (Nat.le_of_ble_eq_true rfl) p1 ⟨by omega, by omega⟩ st) (cwV 1 C.1.2.2.2.2 gX0_priceOf_X5_get rfl rfl rfl (by decide +kernel) ⟨Nat.le_of_ble_eq_true rfl, Nat.le_of_ble_eq_true rfl⟩) 24 (wX_row cJ a st (r := 16) (Nat.le_of_ble_eq_true rfl)) rfl rfl rfl rfl (Nat.le_of_ble_eq_true rfl) ⟨Nat.zero_le _, Nat.zero_le _⟩ dX0_priceOf_31 (fun z u hz18 hu => ?_)
  obtain ⟨qz18, hu⟩ : z = rget 36 (st.2 16) p1 ∧ u = st := hu
  replace hu := hu.symm; subst hu; subst qz18
  have k19 : 0 ≤ rget 36 (st.2 16) p1 ∧ rget 36 (st.2 16) p1 ≤ 1000000 := xget_ok hO13 16 36 p1
  refine f_lstore C (lv' := [(12, .long (zJ (rget 36 (st.2 16) p1))), (10, .long (zJ (rget 36 (st.2 15) p1))), (8, .long (zJ (rget 36 (st.2 13) p1))), (6, .long (zJ 0)), (4, .long (zJ 0)), (0, .ref (a 4)), (1, .int (zI p1)), (2, .long (zJ p2))]) dX0_priceOf_34 (Nat.le_of_ble_eq_true rfl) rfl ?_
  refine f_iconst C dX0_priceOf_36 ?_
  refine f_istore C (lv' := [(14, .int (zI 0)), (12, .long (zJ (rget 36 (st.2 16) p1))), (10, .long (zJ (rget 36 (st.2 15) p1))), (8, .long (zJ (rget 36 (st.2 13) p1))), (6, .long (zJ 0)), (4, .long (zJ 0)), (0, .ref (a 4)), (1, .int (zI p1)), (2, .long (zJ p2))]) dX0_priceOf_37 (Nat.le_of_ble_eq_true rfl) rfl ?_
  refine f_re (lv' := [(0, .ref (a 4)), (1, .int (zI p1)), (2, .long (zJ p2)), (4, .long (zJ 0)), (6, .long (zJ 0)), (8, .long (zJ (rget 36 (st.2 13) p1))), (10, .long (zJ (rget 36 (st.2 15) p1))), (12, .long (zJ (rget 36 (st.2 16) p1))), (14, .int (zI 0))]) [6, 7, 8, 5, 4, 3, 2, 1, 0] rfl ?_
  exact v_X0_priceOf_39 hX p1 p2 (rget 36 (st.2 15) p1) (rget 36 (st.2 16) p1) ⟨by omega, by omega⟩ ⟨by omega, by omega⟩ ⟨by omega, by omega⟩ ⟨by omega, by omega⟩ C hret hlk (Int.toNat (66 - (0 : Int)) + 1) 0 0 (rget 36 (st.2 13) p1) 0 st ⟨by omega, by omega⟩ ⟨by omega, by omega⟩ ⟨by omega, by omega⟩ ⟨by omega, by omega⟩ (show 0 ≤ p2 ∧ p2 ≤ 1000000 by omega) (show 0 ≤ (0 : Int) ∧ (0 : Int) ≤ 66 by omega) (show -(1000000000000 * (0 : Int)) ≤ (0 : Int) ∧ (0 : Int) ≤ 1000000000000 * (0 : Int) by omega) (show 0 ≤ (0 : Int) ∧ (0 : Int) ≤ 999999 by omega) (show 0 ≤ (rget 36 (st.2 13) p1) ∧ (rget 36 (st.2 13) p1) ≤ 999999 by omega) (show 0 ≤ (rget 36 (st.2 15) p1) ∧ (rget 36 (st.2 15) p1) ≤ 1000000 by omega) (show 66 - (0 : Int) < ((Int.toNat (66 - (0 : Int)) + 1 : Nat) : Int) by omega) (fun z e1 r1 => hp z (by rw [F_X0_priceOf]; exact e1) r1)
