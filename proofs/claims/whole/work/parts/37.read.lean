/-! ===== PART 37: reading (laid by program) ===== -/
theorem trl_k (st : fS) : rK 300 66 st (F_X6_takeRule st).2 := by
  rw [F_X6_takeRule]
  have h1 := rk_tkw 0 st
  have h2 : ∀ u, rK 1 0 u (F_X7_toNextWord u) := fun u => rK.of (tnw_k u)
  have h3 := h1.tr (h2 (F_X6_takeWord 0 st).2)
  have h4 := h3.tr (tpr_k (F_X7_asNumber (F_X6_takeWord 0 st).2) (F_X7_toNextWord (F_X6_takeWord 0 st).2)).1
  have h5 := h4.tr (tst_k (F_X7_asNumber (F_X6_takeWord 0 st).2) (F_X6_takePrice (F_X7_asNumber (F_X6_takeWord 0 st).2) (F_X7_toNextWord (F_X6_takeWord 0 st).2)).2)
  have h6 := h5.tr (tcp_k (F_X7_asNumber (F_X6_takeWord 0 st).2) (F_X6_takeSteps (F_X7_asNumber (F_X6_takeWord 0 st).2) (F_X6_takePrice (F_X7_asNumber (F_X6_takeWord 0 st).2) (F_X7_toNextWord (F_X6_takeWord 0 st).2)).2).2)
  repeat' split
  all_goals first | exact h1.w (by decide) (by decide) | exact h3.w (by decide) (by decide) | exact h4.w (by decide) (by decide) | exact h5.w (by decide) (by decide) | exact h6.w (by decide) (by decide)
theorem sdr7_k : ∀ (n : Nat) (v1 : Int) (st : fS), (F_X0_startDraft_7 n v1 st).1 = st.1 := by
  intro n
  induction n with
  | zero => intro v1 st; rw [F_X0_startDraft_7]
  | succ n ih =>
    intro v1 st
    rw [F_X0_startDraft_7]
    split
    · rfl
    · rw [ih]; rfl
theorem sdr_k (st : fS) : (F_X0_startDraft st).1 = (sN st 7 0).1 := by
  rw [F_X0_startDraft]; exact sdr7_k _ _ _
theorem tfw_k (st : fS) : (∀ k, k ≠ 3 → k ≠ 4 → k ≠ 5 → (F_X7_toFirstWord st).1 k = st.1 k) ∧ (F_X7_toFirstWord st).2 = st.2 ∧ (F_X7_toFirstWord st).1 5 = 0 := by
  rw [F_X7_toFirstWord]
  have h := tnw_k (sN st 4 0)
  exact ⟨fun k h3 h4 h5 => (sN_1n _ _ h5).trans ((h.1 k h3 h4 h5).trans (sN_1n _ _ h4)), h.2.1, sN_1s _ _ _⟩

def F_X6_readRules_16 : Nat → Int → fS → Int × fS
  | 0, _, st => (0, st)
  | n + 1, v1, st => if 6 < v1 then ((-1) - (F_X7_numberOfWord st), st) else (if (F_X7_hasWord st) = 0 then (v1, st) else (if ((F_X6_takeRule st).1) = 0 then ((-1) - (F_X7_numberOfWord ((F_X6_takeRule st).2)), (F_X6_takeRule st).2) else F_X6_readRules_16  (n) (v1 + 1) ((F_X6_takeRule st).2)))

def F_X6_readRules (st : fS) : Int × fS := F_X6_readRules_16  (Int.toNat (7 - (0 : Int)) + 1) 0 (F_X7_toFirstWord (F_X0_startDraft st))
abbrev rm_X6_readRules : Room := { frames := 8, cells := 0, slots := 0, locals := 179 }
set_option maxRecDepth 100000 in
set_option maxHeartbeats 8000000 in
theorem v_X6_readRules_16 {l : Launch} {D : va_G} {cI cJ cZ cB : ClassId} {a : Nat → Nat} {E : State → Prop} (hX : xHyp a E) {adK adV : Nat → Nat} {fv : Option Nat} (hES : ∀ U, E U → xE adK adV fv (xA a) U)  {p : Program} {e : Env} {s : State} {m : MethodId} {args : Array Value} {below : List Frame} {meth : Method} {c : Code} (C : fC p m c cX6_readRules 2 s args wsX6_readRules yX6_readRules.cls D (fTys cI cJ cZ cB) E (xA a)) (hret : meth.sig.returnType = (some .int)) (hlk : meth.locks = false) {post : Int → fS → Prop} : ∀ (n : Nat) (v1 : Int) (st : fS), in32 v1 → (0 ≤ v1 ∧ v1 ≤ 7) → (0 ≤ st.1 5 ∧ st.1 5 ≤ 300 * v1) → (0 ≤ st.1 7 ∧ st.1 7 ≤ 66 * v1) → 7 - v1 < n → (∀ (z : Int) (u : fS), z = (F_X6_readRules_16 n v1 st).1 → u = (F_X6_readRules_16 n v1 st).2 → (-10000 ≤ z ∧ z ≤ 6) → post z u) → fV D (wX cJ a) xOk (xA a) 2 p l e rm_X6_readRules s m args below meth c 0 0 (fMQ below (fQi D (wX cJ a) xOk (xA a) post) args s (xA a)) st 16 [(0, .ref (a 5)), (1, .int (zI v1))] [] := by
  have hin6 : ∀ w ∈ u_ws RX6 TX6 2, w ∈ wsX6_readRules := by decide +kernel
  intro n
  induction n with
  | zero =>
    intro v1 st hv1 i0 i1 i2 hm hp
    omega
  | succ n ih =>
    intro v1 st hv1 i0 i1 i2 hm hp
    refine f_iload_n C 1 dX6_readRules_16 rfl rfl ?_
    refine f_bipush C dX6_readRules_17 (by decide) ?_
    refine f_icmp_gt C 50 ⟨by omega, by omega⟩ ⟨by decide, by decide⟩ dX6_readRules_19 (by decide) (fun c1 => ?_) (fun c1 => ?_)
    · refine f_iconst C dX6_readRules_50 ?_
      refine f_aload_n C 0 dX6_readRules_51 rfl rfl ?_
      refine f_get C hin6 5 0 rfl rfl (Nat.le_of_ble_eq_true rfl) (by decide +kernel) rfl rfl dX6_readRules_52 ?_
      refine f_calli C (c_X7_numberOfWord hX st) (cwV 0 C.1.2.2.2.2 gX6_readRules_X7_numberOfWord rfl rfl rfl (by decide +kernel) ⟨Nat.le_of_ble_eq_true rfl, Nat.le_of_ble_eq_true rfl⟩) 3 rfl rfl rfl rfl rfl (Nat.le_of_ble_eq_true rfl) ⟨Nat.zero_le _, Nat.zero_le _⟩ dX6_readRules_55 (fun z u hz2 hu => ?_)
      obtain ⟨qz2, hu, rz2⟩ := hu; replace hu := hu.symm; subst hu; subst qz2
      refine f_isub C dX6_readRules_58 ?_
      exact f_iret C hret hlk dX6_readRules_59 ⟨by omega, by omega⟩ (hp _ _ (by rw [F_X6_readRules_16, if_pos c1]) (by rw [F_X6_readRules_16, if_pos c1]) (by omega))
    refine f_aload_n C 0 dX6_readRules_22 rfl rfl ?_
    refine f_get C hin6 5 0 rfl rfl (Nat.le_of_ble_eq_true rfl) (by decide +kernel) rfl rfl dX6_readRules_23 ?_
    refine f_calli C (c_X7_hasWord hX st) (cwV 0 C.1.2.2.2.2 gX6_readRules_X7_hasWord rfl rfl rfl (by decide +kernel) ⟨Nat.le_of_ble_eq_true rfl, Nat.le_of_ble_eq_true rfl⟩) 3 rfl rfl rfl rfl rfl (Nat.le_of_ble_eq_true rfl) ⟨Nat.zero_le _, Nat.zero_le _⟩ dX6_readRules_26 (fun z u hz3 hu => ?_)
    obtain ⟨qz3, hu, rz3⟩ := hu; replace hu := hu.symm; subst hu; subst qz3
    refine f_if_ne C 34 ⟨by omega, by omega⟩ dX6_readRules_29 (by decide) (fun c4 => ?_) (fun c4 => ?_)
    · refine f_aload_n C 0 dX6_readRules_34 rfl rfl ?_
      refine f_ok (fun hO5 => ?_)
      have k6 : (-1000000000) ≤ st.1 5 ∧ st.1 5 ≤ 1000000000 := hO5.1 5
      have k7 : (-1000000000) ≤ st.1 7 ∧ st.1 7 ≤ 1000000000 := hO5.1 7
      refine f_calli C (c_X6_takeRule hX hES st (show 0 ≤ (st.1 5) ∧ (st.1 5) ≤ 790000 by omega) (show 0 ≤ (st.1 7) ∧ (st.1 7) ≤ 80000 by omega)) (cwV 0 C.1.2.2.2.2 gX6_readRules_X6_takeRule rfl rfl rfl (by decide +kernel) ⟨Nat.le_of_ble_eq_true rfl, Nat.le_of_ble_eq_true rfl⟩) 5 rfl rfl rfl rfl rfl (Nat.le_of_ble_eq_true rfl) ⟨Nat.zero_le _, Nat.zero_le _⟩ dX6_readRules_35 (fun z u hz8 hu => ?_)
      obtain ⟨qz8, hu, rz8⟩ := hu; replace hu := hu.symm; subst hu; subst qz8
      have k9 : (st.1 5 ≤ ((F_X6_takeRule st).2).1 5 ∧ ((F_X6_takeRule st).2).1 5 ≤ st.1 5 + 300) := (trl_k st).2.1
      have k10 : (st.1 7 ≤ ((F_X6_takeRule st).2).1 7 ∧ ((F_X6_takeRule st).2).1 7 ≤ st.1 7 + 66) := (trl_k st).2.2
      have k11 : ((F_X6_takeRule st).2).1 6 = st.1 6 := (trl_k st).1
      refine f_if_ne C 44 ⟨by omega, by omega⟩ dX6_readRules_38 (by decide) (fun c12 => ?_) (fun c12 => ?_)
      · refine f_iinc C (lv' := [(1, .int (zI (v1 + 1))), (0, .ref (a 5))]) 1 dX6_readRules_44 rfl (Nat.le_of_ble_eq_true rfl) rfl ?_
        refine f_goto C 16 dX6_readRules_47 (by decide) ?_
        refine f_re (lv' := [(0, .ref (a 5)), (1, .int (zI (v1 + 1)))]) [1, 0] rfl ?_
        refine f_ok (fun hO13 => ?_)
        have k14 : (-1000000000) ≤ ((F_X6_takeRule st).2).1 5 ∧ ((F_X6_takeRule st).2).1 5 ≤ 1000000000 := hO13.1 5
        have k15 : (-1000000000) ≤ ((F_X6_takeRule st).2).1 7 ∧ ((F_X6_takeRule st).2).1 7 ≤ 1000000000 := hO13.1 7
        exact ih (v1 + 1) ((F_X6_takeRule st).2) ⟨by omega, by omega⟩ (show 0 ≤ (v1 + 1) ∧ (v1 + 1) ≤ 7 by omega) (show 0 ≤ (((F_X6_takeRule st).2).1 5) ∧ (((F_X6_takeRule st).2).1 5) ≤ 300 * (v1 + 1) by omega) (show 0 ≤ (((F_X6_takeRule st).2).1 7) ∧ (((F_X6_takeRule st).2).1 7) ≤ 66 * (v1 + 1) by omega) (show 7 - (v1 + 1) < ((n : Nat) : Int) by omega) (fun z u e1 e2 r1 => hp z u (by rw [F_X6_readRules_16, if_neg c1, if_neg c4, if_neg c12]; exact e1) (by rw [F_X6_readRules_16, if_neg c1, if_neg c4, if_neg c12]; exact e2) r1)
      refine f_goto C 50 dX6_readRules_41 (by decide) ?_
      refine f_iconst C dX6_readRules_50 ?_
      refine f_aload_n C 0 dX6_readRules_51 rfl rfl ?_
      refine f_get C hin6 5 0 rfl rfl (Nat.le_of_ble_eq_true rfl) (by decide +kernel) rfl rfl dX6_readRules_52 ?_
      refine f_calli C (c_X7_numberOfWord hX ((F_X6_takeRule st).2)) (cwV 0 C.1.2.2.2.2 gX6_readRules_X7_numberOfWord rfl rfl rfl (by decide +kernel) ⟨Nat.le_of_ble_eq_true rfl, Nat.le_of_ble_eq_true rfl⟩) 3 rfl rfl rfl rfl rfl (Nat.le_of_ble_eq_true rfl) ⟨Nat.zero_le _, Nat.zero_le _⟩ dX6_readRules_55 (fun z u hz16 hu => ?_)
      obtain ⟨qz16, hu, rz16⟩ := hu; replace hu := hu.symm; subst hu; subst qz16
      refine f_ok (fun hO17 => ?_)
      have k18 : (-1000000000) ≤ ((F_X6_takeRule st).2).1 5 ∧ ((F_X6_takeRule st).2).1 5 ≤ 1000000000 := hO17.1 5
      have k19 : (F_X7_numberOfWord ((F_X6_takeRule st).2)) = (((F_X6_takeRule st).2).1 5) := rz16
      refine f_isub C dX6_readRules_58 ?_
      exact f_iret C hret hlk dX6_readRules_59 ⟨by omega, by omega⟩ (hp _ _ (by rw [F_X6_readRules_16, if_neg c1, if_neg c4, if_pos c12]) (by rw [F_X6_readRules_16, if_neg c1, if_neg c4, if_pos c12]) (by omega))
    refine f_iload_n C 1 dX6_readRules_32 rfl rfl ?_
    exact f_iret C hret hlk dX6_readRules_33 ⟨by omega, by omega⟩ (hp _ _ (by rw [F_X6_readRules_16, if_neg c1, if_pos c4]) (by rw [F_X6_readRules_16, if_neg c1, if_pos c4]) (by omega))
set_option maxRecDepth 100000 in
set_option maxHeartbeats 8000000 in
theorem c_X6_readRules {l : Launch} {D : va_G} {cI cJ cZ cB : ClassId} {a : Nat → Nat} {E : State → Prop} (hX : xHyp a E) {adK adV : Nat → Nat} {fv : Option Nat} (hES : ∀ U, E U → xE adK adV fv (xA a) U)   (st : fS) (q5 : 0 ≤ st.1 5 ∧ st.1 5 ≤ 10000) : xMi l D cI cJ cZ cB a E yX6_readRules wsX6_readRules rm_X6_readRules [.ref (a 5)] st (fun z u => z = (F_X6_readRules st).1 ∧ u = (F_X6_readRules st).2 ∧ (-10000 ≤ z ∧ z ≤ 6)) := by
  refine fB_open (cc := cX6_readRules) (maxL := 2) (ret := (some .int)) (by decide) rfl (Nat.le_of_ble_eq_true rfl) hX.2 ?_
  intro p e s m below meth c C hret hlk
  have hin6 : ∀ w ∈ u_ws RX6 TX6 2, w ∈ wsX6_readRules := by decide +kernel
  have hp : ∀ (z : Int) (u : fS), z = (F_X6_readRules st).1 → u = (F_X6_readRules st).2 → (-10000 ≤ z ∧ z ≤ 6) → z = (F_X6_readRules st).1 ∧ u = (F_X6_readRules st).2 ∧ (-10000 ≤ z ∧ z ≤ 6) := fun z u h1 h2 r1 => ⟨h1, h2, r1⟩
  refine f_aload_n C 0 dX6_readRules_0 rfl rfl ?_
  refine f_get C hin6 5 1 rfl rfl (Nat.le_of_ble_eq_true rfl) (by decide +kernel) rfl rfl dX6_readRules_1 ?_
  refine f_callv C (c_X0_startDraft hX st) (cwV 0 C.1.2.2.2.2 gX6_readRules_X0_startDraft rfl rfl rfl (by decide +kernel) ⟨Nat.le_of_ble_eq_true rfl, Nat.le_of_ble_eq_true rfl⟩) 4 rfl rfl rfl rfl rfl (Nat.le_of_ble_eq_true rfl) ⟨Nat.zero_le _, Nat.zero_le _⟩ dX6_readRules_4 (fun u hu => ?_)
  replace hu := hu.symm; subst hu
  have k21 : (F_X0_startDraft st).1 5 = st.1 5 := congrFun (sdr_k st) 5
  have k22 : (F_X0_startDraft st).1 7 = 0 := congrFun (sdr_k st) 7
  have k23 : (F_X0_startDraft st).1 6 = st.1 6 := congrFun (sdr_k st) 6
  refine f_aload_n C 0 dX6_readRules_7 rfl rfl ?_
  refine f_get C hin6 5 0 rfl rfl (Nat.le_of_ble_eq_true rfl) (by decide +kernel) rfl rfl dX6_readRules_8 ?_
  refine f_ok (fun hO24 => ?_)
  have k25 : (-1000000000) ≤ (F_X0_startDraft st).1 5 ∧ (F_X0_startDraft st).1 5 ≤ 1000000000 := hO24.1 5
  refine f_callv C (c_X7_toFirstWord hX (F_X0_startDraft st) (show 0 ≤ ((F_X0_startDraft st).1 5) ∧ ((F_X0_startDraft st).1 5) ≤ 1000000 by omega)) (cwV 0 C.1.2.2.2.2 gX6_readRules_X7_toFirstWord rfl rfl rfl (by decide +kernel) ⟨Nat.le_of_ble_eq_true rfl, Nat.le_of_ble_eq_true rfl⟩) 3 rfl rfl rfl rfl rfl (Nat.le_of_ble_eq_true rfl) ⟨Nat.zero_le _, Nat.zero_le _⟩ dX6_readRules_11 (fun u hu => ?_)
  replace hu := hu.symm; subst hu
  have k27 : (F_X7_toFirstWord (F_X0_startDraft st)).1 5 = 0 := (tfw_k (F_X0_startDraft st)).2.2
  have k28 : (F_X7_toFirstWord (F_X0_startDraft st)).1 7 = (F_X0_startDraft st).1 7 := (tfw_k (F_X0_startDraft st)).1 7 (by decide) (by decide) (by decide)
  have k29 : (F_X7_toFirstWord (F_X0_startDraft st)).1 6 = (F_X0_startDraft st).1 6 := (tfw_k (F_X0_startDraft st)).1 6 (by decide) (by decide) (by decide)
  refine f_iconst C dX6_readRules_14 ?_
  refine f_istore_n C 1 (lv' := [(1, .int (zI 0)), (0, .ref (a 5))]) dX6_readRules_15 rfl (Nat.le_of_ble_eq_true rfl) rfl ?_
  refine f_re (lv' := [(0, .ref (a 5)), (1, .int (zI 0))]) [1, 0] rfl ?_
  refine f_ok (fun hO30 => ?_)
  have k31 : (-1000000000) ≤ (F_X7_toFirstWord (F_X0_startDraft st)).1 5 ∧ (F_X7_toFirstWord (F_X0_startDraft st)).1 5 ≤ 1000000000 := hO30.1 5
  have k32 : (-1000000000) ≤ (F_X7_toFirstWord (F_X0_startDraft st)).1 7 ∧ (F_X7_toFirstWord (F_X0_startDraft st)).1 7 ≤ 1000000000 := hO30.1 7
  exact v_X6_readRules_16 hX hES   C hret hlk (Int.toNat (7 - (0 : Int)) + 1) 0 (F_X7_toFirstWord (F_X0_startDraft st)) ⟨by omega, by omega⟩ (show 0 ≤ (0 : Int) ∧ (0 : Int) ≤ 7 by omega) (show 0 ≤ ((F_X7_toFirstWord (F_X0_startDraft st)).1 5) ∧ ((F_X7_toFirstWord (F_X0_startDraft st)).1 5) ≤ 300 * (0 : Int) by omega) (show 0 ≤ ((F_X7_toFirstWord (F_X0_startDraft st)).1 7) ∧ ((F_X7_toFirstWord (F_X0_startDraft st)).1 7) ≤ 66 * (0 : Int) by omega) (show 7 - (0 : Int) < ((Int.toNat (7 - (0 : Int)) + 1 : Nat) : Int) by omega) (fun z u e1 e2 r1 => hp z u (by rw [F_X6_readRules]; exact e1) (by rw [F_X6_readRules]; exact e2) r1)

theorem rr16_k : ∀ (n : Nat) (v1 : Int) (st : fS), 0 ≤ v1 → v1 ≤ 7 → rK (300 * (7 - v1)) (66 * (7 - v1)) st (F_X6_readRules_16 n v1 st).2 := by
  intro n
  induction n with
  | zero =>
    intro v1 st h0 h
    rw [F_X6_readRules_16]
    have rf : rK 0 0 st st := ⟨rfl, ⟨by omega, by omega⟩, ⟨by omega, by omega⟩⟩
    exact rf.w (by omega) (by omega)
  | succ n ih =>
    intro v1 st h0 h
    rw [F_X6_readRules_16]
    have rf : ∀ u : fS, rK 0 0 u u := fun u => ⟨rfl, ⟨by omega, by omega⟩, ⟨by omega, by omega⟩⟩
    split
    · exact (rf st).w (by omega) (by omega)
    split
    · exact (rf st).w (by omega) (by omega)
    split
    · exact (trl_k st).w (by omega) (by omega)
    · exact ((trl_k st).tr (ih (v1 + 1) _ (by omega) (by omega))).w (by omega) (by omega)
theorem rr_k (st : fS) : (F_X6_readRules st).2.1 6 = st.1 6 ∧ 0 ≤ (F_X6_readRules st).2.1 5 ∧ (F_X6_readRules st).2.1 5 ≤ 2100 := by
  rw [F_X6_readRules]
  obtain ⟨h1, h2, h3⟩ := rr16_k (Int.toNat (7 - (0 : Int)) + 1) 0 (F_X7_toFirstWord (F_X0_startDraft st)) (by omega) (by omega)
  have e6 : (F_X7_toFirstWord (F_X0_startDraft st)).1 6 = st.1 6 := ((tfw_k _).1 6 (by decide) (by decide) (by decide)).trans (congrFun (sdr_k st) 6)
  have e5 := (tfw_k (F_X0_startDraft st)).2.2
  exact ⟨h1.trans e6, by omega, by omega⟩

def F_X8_read (p1 : Int) (p3 : Int) (st : fS) : Int × fS := if (F_X8_isDay p1 st) = 0 then ((-1000), sN st 2 0) else (if (F_X8_isDay p3 st) = 0 then ((-1000), sN st 2 0) else (if (F_X0_isFull st) = 0 then (if ((F_X6_readRules st).1) < 0 then ((F_X6_readRules st).1, sN ((F_X6_readRules st).2) 2 0) else ((F_X6_readRules st).1, sN (F_X0_keepDraft p1 p3 ((F_X6_readRules st).1) ((F_X6_readRules st).2)) 2 0)) else ((-1000), sN st 2 0)))
abbrev rm_X8_read : Room := { frames := 9, cells := 0, slots := 0, locals := 200 }
set_option maxRecDepth 100000 in
set_option maxHeartbeats 8000000 in
theorem c_X8_read {l : Launch} {D : va_G} {cI cJ cZ cB : ClassId} {a : Nat → Nat} {E : State → Prop} (hX : xHyp a E) {adK adV : Nat → Nat} {fv : Option Nat} (hES : ∀ U, E U → xE adK adV fv (xA a) U) (p1 : Int) (p3 : Int) (h1 : in64 p1) (h3 : in64 p3) (st : fS) (q5 : 0 ≤ st.1 5 ∧ st.1 5 ≤ 10000) : xMi l D cI cJ cZ cB a E yX8_read wsX8_read rm_X8_read [.ref (a 0), .long (zJ p1), .long (zJ p3)] st (fun z u => z = (F_X8_read p1 p3 st).1 ∧ u = (F_X8_read p1 p3 st).2) := by
  refine fB_open (cc := cX8_read) (maxL := 6) (ret := (some .int)) (by decide) rfl (Nat.le_of_ble_eq_true rfl) hX.2 ?_
  intro p e s m below meth c C hret hlk
  have hin8 : ∀ w ∈ u_ws RX8 TX8 8, w ∈ wsX8_read := by decide +kernel
  have hp : ∀ (z : Int) (u : fS), z = (F_X8_read p1 p3 st).1 → u = (F_X8_read p1 p3 st).2 → z = (F_X8_read p1 p3 st).1 ∧ u = (F_X8_read p1 p3 st).2 := fun z u h1 h2 => ⟨h1, h2⟩
  refine f_sipush C dX8_read_0 (by decide) ?_
  refine f_istore C (lv' := [(5, .int (zI (-1000))), (0, .ref (a 0)), (1, .long (zJ p1)), (3, .long (zJ p3))]) dX8_read_3 (Nat.le_of_ble_eq_true rfl) rfl ?_
  refine f_lload_n C 1 dX8_read_5 rfl rfl ?_
  refine f_callsi C (c_X8_isDay hX p1 ⟨by omega, by omega⟩ st) (va_cwS 1 C.1.2.2.2.2 gX8_read_X8_isDay rfl rfl rfl (by decide +kernel) ⟨Nat.le_of_ble_eq_true rfl, Nat.le_of_ble_eq_true rfl⟩) rfl rfl (Nat.le_of_ble_eq_true rfl) ⟨Nat.zero_le _, Nat.zero_le _⟩ dX8_read_6 (fun z u hz1 hu => ?_)
  obtain ⟨qz1, hu, rz1⟩ := hu; replace hu := hu.symm; subst hu; subst qz1
  refine f_if_eq C 54 ⟨by omega, by omega⟩ dX8_read_9 (by decide) (fun c2 => ?_) (fun c2 => ?_)
  · refine f_aload_n C 0 dX8_read_54 rfl rfl ?_
    refine f_get C hin8 0 2 rfl rfl (Nat.le_of_ble_eq_true rfl) (by decide +kernel) rfl rfl dX8_read_55 ?_
    refine f_callv C (c_X7_clear hX st) (cwV 0 C.1.2.2.2.2 gX8_read_X7_clear rfl rfl rfl (by decide +kernel) ⟨Nat.le_of_ble_eq_true rfl, Nat.le_of_ble_eq_true rfl⟩) 3 rfl rfl rfl rfl rfl (Nat.le_of_ble_eq_true rfl) ⟨Nat.zero_le _, Nat.zero_le _⟩ dX8_read_58 (fun u hu => ?_)
    replace hu : sN st 2 0 = u := hu.symm; subst hu
    refine f_iload C 5 dX8_read_61 rfl ?_
    exact f_iret C hret hlk dX8_read_63 ⟨by decide, by decide⟩ (hp _ _ (by rw [F_X8_read, if_pos c2]) (by rw [F_X8_read, if_pos c2]))
  refine f_lload_n C 3 dX8_read_12 rfl rfl ?_
  refine f_callsi C (c_X8_isDay hX p3 ⟨by omega, by omega⟩ st) (va_cwS 1 C.1.2.2.2.2 gX8_read_X8_isDay rfl rfl rfl (by decide +kernel) ⟨Nat.le_of_ble_eq_true rfl, Nat.le_of_ble_eq_true rfl⟩) rfl rfl (Nat.le_of_ble_eq_true rfl) ⟨Nat.zero_le _, Nat.zero_le _⟩ dX8_read_13 (fun z u hz4 hu => ?_)
  obtain ⟨qz4, hu, rz4⟩ := hu; replace hu := hu.symm; subst hu; subst qz4
  refine f_if_eq C 54 ⟨by omega, by omega⟩ dX8_read_16 (by decide) (fun c5 => ?_) (fun c5 => ?_)
  · refine f_aload_n C 0 dX8_read_54 rfl rfl ?_
    refine f_get C hin8 0 2 rfl rfl (Nat.le_of_ble_eq_true rfl) (by decide +kernel) rfl rfl dX8_read_55 ?_
    refine f_callv C (c_X7_clear hX st) (cwV 0 C.1.2.2.2.2 gX8_read_X7_clear rfl rfl rfl (by decide +kernel) ⟨Nat.le_of_ble_eq_true rfl, Nat.le_of_ble_eq_true rfl⟩) 3 rfl rfl rfl rfl rfl (Nat.le_of_ble_eq_true rfl) ⟨Nat.zero_le _, Nat.zero_le _⟩ dX8_read_58 (fun u hu => ?_)
    replace hu : sN st 2 0 = u := hu.symm; subst hu
    refine f_iload C 5 dX8_read_61 rfl ?_
    exact f_iret C hret hlk dX8_read_63 ⟨by decide, by decide⟩ (hp _ _ (by rw [F_X8_read, if_neg c2, if_pos c5]) (by rw [F_X8_read, if_neg c2, if_pos c5]))
  refine f_aload_n C 0 dX8_read_19 rfl rfl ?_
  refine f_get C hin8 0 3 rfl rfl (Nat.le_of_ble_eq_true rfl) (by decide +kernel) rfl rfl dX8_read_20 ?_
  refine f_calli C (c_X0_isFull hX st) (cwV 0 C.1.2.2.2.2 gX8_read_X0_isFull rfl rfl rfl (by decide +kernel) ⟨Nat.le_of_ble_eq_true rfl, Nat.le_of_ble_eq_true rfl⟩) 4 rfl rfl rfl rfl rfl (Nat.le_of_ble_eq_true rfl) ⟨Nat.zero_le _, Nat.zero_le _⟩ dX8_read_23 (fun z u hz7 hu => ?_)
  obtain ⟨qz7, hu, rz7⟩ := hu; replace hu := hu.symm; subst hu; subst qz7
  refine f_if_ne C 54 ⟨by omega, by omega⟩ dX8_read_26 (by decide) (fun c8 => ?_) (fun c8 => ?_)
  · refine f_aload_n C 0 dX8_read_54 rfl rfl ?_
    refine f_get C hin8 0 2 rfl rfl (Nat.le_of_ble_eq_true rfl) (by decide +kernel) rfl rfl dX8_read_55 ?_
    refine f_callv C (c_X7_clear hX st) (cwV 0 C.1.2.2.2.2 gX8_read_X7_clear rfl rfl rfl (by decide +kernel) ⟨Nat.le_of_ble_eq_true rfl, Nat.le_of_ble_eq_true rfl⟩) 3 rfl rfl rfl rfl rfl (Nat.le_of_ble_eq_true rfl) ⟨Nat.zero_le _, Nat.zero_le _⟩ dX8_read_58 (fun u hu => ?_)
    replace hu : sN st 2 0 = u := hu.symm; subst hu
    refine f_iload C 5 dX8_read_61 rfl ?_
    exact f_iret C hret hlk dX8_read_63 ⟨by decide, by decide⟩ (hp _ _ (by rw [F_X8_read, if_neg c2, if_neg c5, if_neg c8]) (by rw [F_X8_read, if_neg c2, if_neg c5, if_neg c8]))
  refine f_aload_n C 0 dX8_read_29 rfl rfl ?_
  refine f_get C hin8 0 4 rfl rfl (Nat.le_of_ble_eq_true rfl) (by decide +kernel) rfl rfl dX8_read_30 ?_
  refine f_ok (fun hO10 => ?_)
  have k11 : (-1000000000) ≤ st.1 5 ∧ st.1 5 ≤ 1000000000 := hO10.1 5
  refine f_calli C (c_X6_readRules hX hES st (show 0 ≤ (st.1 5) ∧ (st.1 5) ≤ 10000 by omega)) (cwV 0 C.1.2.2.2.2 gX8_read_X6_readRules rfl rfl rfl (by decide +kernel) ⟨Nat.le_of_ble_eq_true rfl, Nat.le_of_ble_eq_true rfl⟩) 5 rfl rfl rfl rfl rfl (Nat.le_of_ble_eq_true rfl) ⟨Nat.zero_le _, Nat.zero_le _⟩ dX8_read_33 (fun z u hz12 hu => ?_)
  obtain ⟨qz12, hu, rz12⟩ := hu; replace hu := hu.symm; subst hu; subst qz12
  have k13 : ((F_X6_readRules st).2).1 6 = st.1 6 := (rr_k st).1
  have k14 : 0 ≤ ((F_X6_readRules st).2).1 5 ∧ ((F_X6_readRules st).2).1 5 ≤ 2100 := (rr_k st).2
  refine f_istore C (lv' := [(5, .int (zI ((F_X6_readRules st).1))), (0, .ref (a 0)), (1, .long (zJ p1)), (3, .long (zJ p3))]) dX8_read_36 (Nat.le_of_ble_eq_true rfl) rfl ?_
  refine f_iload C 5 dX8_read_38 rfl ?_
  refine f_if_lt C 54 ⟨by omega, by omega⟩ dX8_read_40 (by decide) (fun c15 => ?_) (fun c15 => ?_)
  · refine f_aload_n C 0 dX8_read_54 rfl rfl ?_
    refine f_get C hin8 0 2 rfl rfl (Nat.le_of_ble_eq_true rfl) (by decide +kernel) rfl rfl dX8_read_55 ?_
    refine f_callv C (c_X7_clear hX ((F_X6_readRules st).2)) (cwV 0 C.1.2.2.2.2 gX8_read_X7_clear rfl rfl rfl (by decide +kernel) ⟨Nat.le_of_ble_eq_true rfl, Nat.le_of_ble_eq_true rfl⟩) 3 rfl rfl rfl rfl rfl (Nat.le_of_ble_eq_true rfl) ⟨Nat.zero_le _, Nat.zero_le _⟩ dX8_read_58 (fun u hu => ?_)
    replace hu : sN ((F_X6_readRules st).2) 2 0 = u := hu.symm; subst hu
    refine f_iload C 5 dX8_read_61 rfl ?_
    exact f_iret C hret hlk dX8_read_63 ⟨by omega, by omega⟩ (hp _ _ (by rw [F_X8_read, if_neg c2, if_neg c5, if_pos c8, if_pos c15]) (by rw [F_X8_read, if_neg c2, if_neg c5, if_pos c8, if_pos c15]))
  refine f_aload_n C 0 dX8_read_43 rfl rfl ?_
  refine f_get C hin8 0 3 rfl rfl (Nat.le_of_ble_eq_true rfl) (by decide +kernel) rfl rfl dX8_read_44 ?_
  refine f_lload_n C 1 dX8_read_47 rfl rfl ?_
  refine f_lload_n C 3 dX8_read_48 rfl rfl ?_
  refine f_iload C 5 dX8_read_49 rfl ?_
  refine f_ok (fun hO17 => ?_)
  have k18 : 0 ≤ ((F_X6_readRules st).2).1 6 ∧ ((F_X6_readRules st).2).1 6 ≤ 6 := hO17.1 6
  refine f_callv C (c_X0_keepDraft hX p1 p3 ((F_X6_readRules st).1) ⟨by omega, by omega⟩ ⟨by omega, by omega⟩ ⟨by omega, by omega⟩ ((F_X6_readRules st).2) (show 0 ≤ p1 ∧ p1 ≤ 3599 by omega) (show 0 ≤ p3 ∧ p3 ≤ 3599 by omega) (show 0 ≤ ((F_X6_readRules st).1) ∧ ((F_X6_readRules st).1) ≤ 1000000 by omega) (show (((F_X6_readRules st).2).1 6) ≤ 5 by omega)) (cwV 3 C.1.2.2.2.2 gX8_read_X0_keepDraft rfl rfl rfl (by decide +kernel) ⟨Nat.le_of_ble_eq_true rfl, Nat.le_of_ble_eq_true rfl⟩) 4 rfl rfl rfl rfl rfl (Nat.le_of_ble_eq_true rfl) ⟨Nat.zero_le _, Nat.zero_le _⟩ dX8_read_51 (fun u hu => ?_)
  replace hu := hu.symm; subst hu
  refine f_aload_n C 0 dX8_read_54 rfl rfl ?_
  refine f_get C hin8 0 2 rfl rfl (Nat.le_of_ble_eq_true rfl) (by decide +kernel) rfl rfl dX8_read_55 ?_
  refine f_callv C (c_X7_clear hX (F_X0_keepDraft p1 p3 ((F_X6_readRules st).1) ((F_X6_readRules st).2))) (cwV 0 C.1.2.2.2.2 gX8_read_X7_clear rfl rfl rfl (by decide +kernel) ⟨Nat.le_of_ble_eq_true rfl, Nat.le_of_ble_eq_true rfl⟩) 3 rfl rfl rfl rfl rfl (Nat.le_of_ble_eq_true rfl) ⟨Nat.zero_le _, Nat.zero_le _⟩ dX8_read_58 (fun u hu => ?_)
  replace hu : sN (F_X0_keepDraft p1 p3 ((F_X6_readRules st).1) ((F_X6_readRules st).2)) 2 0 = u := hu.symm; subst hu
  refine f_iload C 5 dX8_read_61 rfl ?_
  exact f_iret C hret hlk dX8_read_63 ⟨by omega, by omega⟩ (hp _ _ (by rw [F_X8_read, if_neg c2, if_neg c5, if_pos c8, if_neg c15]) (by rw [F_X8_read, if_neg c2, if_neg c5, if_pos c8, if_neg c15]))
