/-! ===== PART 35: Text.isWord ===== -/
def F_X7_isWord_24 (v1 : Nat) : Nat → Int → fS → Int
  | 0, _, _ => 0
  | n + 1, v2, st => if wLen v1 ≤ v2 then 1 else (if (rget 600 (st.2 8) ((st.1 3) + v2)) = wCh v1 v2 then F_X7_isWord_24 v1 n (v2 + 1) st else 0)
def F_X7_isWord (p1 : Nat) (st : fS) : Int := if (st.1 4) - (st.1 3) = wLen p1 then F_X7_isWord_24 p1 6 0 st else 0
abbrev rm_X7_isWord : Room := { frames := 4, cells := 0, slots := 0, locals := 85 }
set_option maxRecDepth 100000 in
set_option maxHeartbeats 8000000 in
theorem v_X7_isWord_24 {l : Launch} {D : va_G} {cI cJ cZ cB : ClassId} {a : Nat → Nat} {E : State → Prop} (hX : xHyp a E) {adK adV : Nat → Nat} {fv : Option Nat} (hES : ∀ U, E U → xE adK adV fv (xA a) U) (v1 : Nat) (hv1 : v1 < 5) {p : Program} {e : Env} {s : State} {m : MethodId} {args : Array Value} {below : List Frame} {meth : Method} {c : Code} (C : fC p m c cX7_isWord 3 s args wsX7_isWord yX7_isWord.cls D (fTys cI cJ cZ cB) E (xA a)) (hret : meth.sig.returnType = (some .boolean)) (hlk : meth.locks = false) {post : Int → fS → Prop} : ∀ (n : Nat) (v2 : Int) (st : fS), in32 v2 → 0 ≤ v2 ∧ v2 ≤ wLen v1 → wLen v1 - v2 < n → (∀ z : Int, z = F_X7_isWord_24 v1 n v2 st → (z = 0 ∨ z = 1) → post z st) → fV D (wX cJ a) xOk (xA a) 3 p l e rm_X7_isWord s m args below meth c 0 0 (fMQ below (fQi D (wX cJ a) xOk (xA a) post) args s (xA a)) st 24 [(0, .ref (a 3)), (1, .ref (adK v1)), (2, .int (zI v2))] [] := by
  have hin7 : ∀ w ∈ u_ws RX7 TX7 5, w ∈ wsX7_isWord := by decide +kernel
  have hin5 : ∀ w ∈ u_ws RX5 TX5 1, w ∈ wsX7_isWord := by decide +kernel
  have hw := wLen_b v1 hv1
  obtain ⟨hS1, hR1, hZ1, hZ2⟩ := hES s C.2.2.1
  intro n
  induction n with
  | zero =>
    intro v2 st hv2 i0 hm hp
    omega
  | succ n ih =>
    intro v2 st hv2 i0 hm hp
    refine f_ok (fun hO => ?_)
    have k3 : 0 ≤ st.1 3 ∧ st.1 3 ≤ 600 := hO.1 3
    refine f_iload_n C 2 dX7_isWord_24 rfl rfl ?_
    refine f_aload_n C 1 dX7_isWord_25 rfl rfl ?_
    refine f_calliE C (c_J0_length hX hES v1 hv1 st) (cwV 0 C.1.2.2.2.2 gX7_isWord_J0_length_8abf5 rfl rfl rfl (by decide +kernel) ⟨Nat.le_of_ble_eq_true rfl, Nat.le_of_ble_eq_true rfl⟩) (fun H locs hS => vk_recv hS1 hv1 hS) rfl rfl (Nat.le_of_ble_eq_true rfl) ⟨Nat.zero_le _, Nat.zero_le _⟩ dX7_isWord_26 (fun z u hz hu => ?_)
    obtain ⟨qz, hu⟩ := hu; replace hu := hu.symm; subst hu; subst qz
    refine f_icmp_ge C 63 ⟨by omega, by omega⟩ ⟨by omega, by omega⟩ dX7_isWord_29 (by decide) (fun c1 => ?_) (fun c1 => ?_)
    · refine f_iconst C dX7_isWord_63 ?_
      exact f_zret C hret hlk dX7_isWord_64 (by decide) (hp _ (by rw [F_X7_isWord_24, if_pos c1]) (by omega))
    refine f_aload_n C 0 dX7_isWord_32 rfl rfl ?_
    refine f_get C hin7 3 0 rfl rfl (Nat.le_of_ble_eq_true rfl) (by decide +kernel) rfl rfl dX7_isWord_33 ?_
    refine f_aload_n C 0 dX7_isWord_36 rfl rfl ?_
    refine f_get C (v := .int (zI (st.1 3))) hin7 3 2 rfl rfl (Nat.le_of_ble_eq_true rfl) (by decide +kernel) rfl rfl dX7_isWord_37 ?_
    refine f_iload_n C 2 dX7_isWord_40 rfl rfl ?_
    refine f_iadd C dX7_isWord_41 ?_
    refine f_calll C (c_Row_get hX 8 (Nat.le_of_ble_eq_true rfl) (st.1 3 + v2) ⟨by omega, by omega⟩ st) (cwV 1 C.1.2.2.2.2 gX7_isWord_X5_get rfl rfl rfl (by decide +kernel) ⟨Nat.le_of_ble_eq_true rfl, Nat.le_of_ble_eq_true rfl⟩) 16 (wX_row cJ a st (r := 8) (Nat.le_of_ble_eq_true rfl)) rfl rfl rfl rfl (Nat.le_of_ble_eq_true rfl) ⟨Nat.zero_le _, Nat.zero_le _⟩ dX7_isWord_42 (fun z u hz2 hu => ?_)
    obtain ⟨qz2, hu⟩ : z = rget 600 (st.2 8) (st.1 3 + v2) ∧ u = st := hu
    replace hu := hu.symm; subst hu; subst qz2
    refine f_aload_n C 1 dX7_isWord_45 rfl rfl ?_
    refine f_iload_n C 2 dX7_isWord_46 rfl rfl ?_
    refine f_calliE C (c_J0_charAt hX hES v1 hv1 v2 ⟨i0.1, by omega⟩ st) (cwV 1 C.1.2.2.2.2 gX7_isWord_J0_charAt_5068e rfl rfl rfl (by decide +kernel) ⟨Nat.le_of_ble_eq_true rfl, Nat.le_of_ble_eq_true rfl⟩) (fun H locs hS => vk_recv hS1 hv1 hS) rfl rfl (Nat.le_of_ble_eq_true rfl) ⟨Nat.zero_le _, Nat.zero_le _⟩ dX7_isWord_47 (fun z u hz3 hu => ?_)
    obtain ⟨qz3, hu⟩ := hu; replace hu := hu.symm; subst hu; subst qz3
    refine f_i2l C hz3 dX7_isWord_50 ?_
    refine f_lc_if_eq C 57 hz2 ⟨by omega, by omega⟩ dX7_isWord_51 dX7_isWord_52 (by decide) (fun c2 => ?_) (fun c2 => ?_)
    · refine f_iinc C (lv' := [(2, .int (zI (v2 + 1))), (0, .ref (a 3)), (1, .ref (adK v1))]) 2 dX7_isWord_57 rfl (Nat.le_of_ble_eq_true rfl) rfl ?_
      refine f_goto C 24 dX7_isWord_60 (by decide) ?_
      refine f_re (lv' := [(0, .ref (a 3)), (1, .ref (adK v1)), (2, .int (zI (v2 + 1)))]) [1, 2, 0] rfl ?_
      exact ih (v2 + 1) st ⟨by omega, by omega⟩ ⟨by omega, by omega⟩ (by omega) (fun z e1 r1 => hp z (by rw [F_X7_isWord_24, if_neg c1, if_pos c2]; exact e1) r1)
    · refine f_iconst C dX7_isWord_55 ?_
      exact f_zret C hret hlk dX7_isWord_56 (by decide) (hp _ (by rw [F_X7_isWord_24, if_neg c1, if_neg c2]) (by omega))
set_option maxRecDepth 100000 in
set_option maxHeartbeats 8000000 in
theorem c_X7_isWord {l : Launch} {D : va_G} {cI cJ cZ cB : ClassId} {a : Nat → Nat} {E : State → Prop} (hX : xHyp a E) {adK adV : Nat → Nat} {fv : Option Nat} (hES : ∀ U, E U → xE adK adV fv (xA a) U) (p1 : Nat) (h1 : p1 < 5) (st : fS) : xMi l D cI cJ cZ cB a E yX7_isWord wsX7_isWord rm_X7_isWord [.ref (a 3), .ref (adK p1)] st (fun z u => z = F_X7_isWord p1 st ∧ u = st ∧ ((z = 1 ∧ st.1 3 < st.1 4) ∨ z = 0)) := by
  refine fB_open (cc := cX7_isWord) (maxL := 3) (ret := (some .boolean)) (by decide) rfl (Nat.le_of_ble_eq_true rfl) hX.2 ?_
  intro p e s m below meth c C hret hlk
  have hin7 : ∀ w ∈ u_ws RX7 TX7 5, w ∈ wsX7_isWord := by decide +kernel
  have hw := wLen_b p1 h1
  obtain ⟨hS1, hR1, hZ1, hZ2⟩ := hES s C.2.2.1
  refine f_ok (fun hO => ?_)
  have k3 : 0 ≤ st.1 3 ∧ st.1 3 ≤ 600 := hO.1 3
  have k4 : 0 ≤ st.1 4 ∧ st.1 4 ≤ 600 := hO.1 4
  refine f_aload_n C 1 dX7_isWord_0 rfl rfl ?_
  refine f_ifnull C dX7_isWord_1 ?_
  refine f_aload_n C 0 dX7_isWord_4 rfl rfl ?_
  refine f_get C (v := .int (zI (st.1 4))) hin7 3 3 rfl rfl (Nat.le_of_ble_eq_true rfl) (by decide +kernel) rfl rfl dX7_isWord_5 ?_
  refine f_aload_n C 0 dX7_isWord_8 rfl rfl ?_
  refine f_get C (v := .int (zI (st.1 3))) hin7 3 2 rfl rfl (Nat.le_of_ble_eq_true rfl) (by decide +kernel) rfl rfl dX7_isWord_9 ?_
  refine f_isub C dX7_isWord_12 ?_
  refine f_aload_n C 1 dX7_isWord_13 rfl rfl ?_
  refine f_calliE C (c_J0_length hX hES p1 h1 st) (cwV 0 C.1.2.2.2.2 gX7_isWord_J0_length_8abf5 rfl rfl rfl (by decide +kernel) ⟨Nat.le_of_ble_eq_true rfl, Nat.le_of_ble_eq_true rfl⟩) (fun H locs hS => vk_recv hS1 h1 hS) rfl rfl (Nat.le_of_ble_eq_true rfl) ⟨Nat.zero_le _, Nat.zero_le _⟩ dX7_isWord_14 (fun z u hz hu => ?_)
  obtain ⟨qz, hu⟩ := hu; replace hu := hu.symm; subst hu; subst qz
  refine f_icmp_eq C 22 ⟨by omega, by omega⟩ ⟨by omega, by omega⟩ dX7_isWord_17 (by decide) (fun c1 => ?_) (fun c1 => ?_)
  · refine f_iconst C dX7_isWord_22 ?_
    refine f_istore_n C 2 (lv' := [(2, .int (zI 0)), (0, .ref (a 3)), (1, .ref (adK p1))]) dX7_isWord_23 rfl (Nat.le_of_ble_eq_true rfl) rfl ?_
    refine f_re (lv' := [(0, .ref (a 3)), (1, .ref (adK p1)), (2, .int (zI 0))]) [1, 2, 0] rfl ?_
    exact v_X7_isWord_24 hX hES p1 h1 C hret hlk 6 0 st ⟨by decide, by decide⟩ ⟨by decide, by omega⟩ (by omega) (fun z e1 r1 => ⟨by rw [F_X7_isWord, if_pos c1]; exact e1, rfl, by omega⟩)
  · refine f_iconst C dX7_isWord_20 ?_
    exact f_zret C hret hlk dX7_isWord_21 (by decide) ⟨by rw [F_X7_isWord, if_neg c1], rfl, Or.inr rfl⟩
