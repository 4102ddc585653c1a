/-! ===== PART 42: the reference, rules and read (laid by program) ===== -/
def F_X9_rules_213 (v1 v2 v5 : Int) (K : Int → Int → fS → Int × fS) : Nat → Int → Int → fS → Int × fS
  | 0, _, _, st => (0, st)
  | n + 1, v3, v6, st => if (F_X9_isStep v3 st) = 0 then (if (F_X9_isCap v3 st) = 0 then K (v2 + 1) v3 (sR st 17 (f_up (st.2 17) v5 1)) else (if 0 ≤ (F_X9_number (v3 + 1) st) then K (v2 + 1) (v3 + 2) (sR (sR st 20 (f_up (st.2 20) v5 (F_X9_number (v3 + 1) st))) 17 (f_up (st.2 17) v5 1)) else ((-2) - v3, sR st 20 (f_up (st.2 20) v5 (F_X9_number (v3 + 1) st))))) else (if v6 < (F_X9_number (v3 + 1) st) then (if 0 ≤ (F_X9_number (v3 + 2) st) then F_X9_rules_213 v1 v2 v5 K (n) (v3 + 3) (F_X9_number (v3 + 1) st) (sR (sR (sR st 22 (f_up (st.2 22) ((100 * v5) + (st.2 21 v5)) (F_X9_number (v3 + 1) st))) 23 (f_up (st.2 23) ((100 * v5) + (st.2 21 v5)) (F_X9_number (v3 + 2) st))) 21 (f_up (st.2 21) v5 ((st.2 21 v5) + 1))) else ((-3) - v3, st)) else ((-2) - v3, st))

def F_X9_rules_35 (v1 : Int) : Nat → Int → Int → fS → Int × fS
  | 0, _, _, st => (0, st)
  | n + 1, v2, v3, st => if (st.1 11) ≤ v3 then (v2, st) else (if (F_X9_isKindWord v3 st) = 0 then ((-1) - v3, st) else (if (F_X9_number (v3 + 1) st) < 0 then ((-2) - v3, st) else (if (F_X9_number (v3 + 1) st) ≤ 5 then (if (st.2 17 (v1 + (F_X9_number (v3 + 1) st))) = 0 then (if (F_X9_isPer (v3 + 2) st) = 0 then ((-3) - v3, st) else (if 0 ≤ (F_X9_number (v3 + 3) st) then (if (F_X9_isPrice (v3 + 4) (sR st 18 (f_up (st.2 18) (v1 + (F_X9_number (v3 + 1) st)) (F_X9_number (v3 + 3) st)))) = 0 then ((-5) - v3, sR st 18 (f_up (st.2 18) (v1 + (F_X9_number (v3 + 1) st)) (F_X9_number (v3 + 3) st))) else (if 0 ≤ (F_X9_number (v3 + 5) (sR st 18 (f_up (st.2 18) (v1 + (F_X9_number (v3 + 1) st)) (F_X9_number (v3 + 3) st)))) then F_X9_rules_213 v1 v2 (v1 + (F_X9_number (v3 + 1) st)) (F_X9_rules_35 v1 n) (Int.toNat ((st.1 11) - (v3 + 6)) + 1) (v3 + 6) 0 (sR (sR (sR (sR st 18 (f_up (st.2 18) (v1 + (F_X9_number (v3 + 1) st)) (F_X9_number (v3 + 3) st))) 19 (f_up (st.2 19) (v1 + (F_X9_number (v3 + 1) st)) (F_X9_number (v3 + 5) (sR st 18 (f_up (st.2 18) (v1 + (F_X9_number (v3 + 1) st)) (F_X9_number (v3 + 3) st)))))) 21 (f_up (st.2 21) (v1 + (F_X9_number (v3 + 1) st)) 0)) 20 (f_up (st.2 20) (v1 + (F_X9_number (v3 + 1) st)) (-1))) else ((-6) - v3, sR (sR st 18 (f_up (st.2 18) (v1 + (F_X9_number (v3 + 1) st)) (F_X9_number (v3 + 3) st))) 19 (f_up (st.2 19) (v1 + (F_X9_number (v3 + 1) st)) (F_X9_number (v3 + 5) (sR st 18 (f_up (st.2 18) (v1 + (F_X9_number (v3 + 1) st)) (F_X9_number (v3 + 3) st)))))))) else ((-4) - v3, sR st 18 (f_up (st.2 18) (v1 + (F_X9_number (v3 + 1) st)) (F_X9_number (v3 + 3) st))))) else ((-2) - v3, st)) else ((-2) - v3, st))))

def F_X9_rules_10 (v1 : Int) : Nat → Int → fS → Int × fS
  | 0, _, st => (0, st)
  | n + 1, v2, st => if 6 ≤ v2 then F_X9_rules_35 v1 (Int.toNat ((st.1 11) - (0 : Int)) + 1) 0 0 st else F_X9_rules_10 v1 (n) (v2 + 1) (sR st 17 (f_up (st.2 17) (v1 + v2) 0))

def F_X9_rules (st : fS) : Int × fS := F_X9_rules_10 (6 * (st.1 14)) (Int.toNat (6 - (0 : Int)) + 1) 0 st
abbrev rm_X9_rules : Room := { frames := 2, cells := 0, slots := 0, locals := 50 }
set_option maxRecDepth 100000 in
set_option maxHeartbeats 8000000 in
theorem v_X9_rules_213 {l : Launch} {D : va_G} {cI cJ cZ cB : ClassId} {b : Nat → Nat} {E : State → Prop} (hX : mHyp b E) (v1 v2 v5 : Int) (hv1 : in32 v1) (hv2 : in32 v2) (hv5 : in32 v5) {p : Program} {e : Env} {s : State} {m : MethodId} {args : Array Value} {below : List Frame} {meth : Method} {c : Code} (C : fC p m c cX9_rules 9 s args wsX9_rules yX9_rules.cls D (fTys cI cJ cZ cB) E (mA b)) (hret : meth.sig.returnType = (some .int)) (hlk : meth.locks = false) {post : Int → fS → Prop} {K : Int → Int → fS → Int × fS} {mf : Nat} (hK : ∀ (v2 v3 : Int) (st : fS), in32 v2 → in32 v3 → (0 ≤ v1 ∧ v1 ≤ 30) → (0 ≤ v2 ∧ v2 ≤ v3) → (v3 ≤ st.1 11 ∧ st.1 11 ≤ 300) → st.1 11 - v3 < ((mf : Nat) : Int) → (∀ (z : Int) (u : fS), z = (K v2 v3 st).1 → u = (K v2 v3 st).2 → (-1000 ≤ z ∧ z ≤ 300) → post z u) → fV D (wM cI cJ cZ cB b) mOk (mA b) 9 p l e rm_X9_rules s m args below meth c 0 0 (fMQ below (fQi D (wM cI cJ cZ cB b) mOk (mA b) post) args s (mA b)) st 35 [(0, .ref (b 0)), (1, .int (zI v1)), (2, .int (zI v2)), (3, .int (zI v3))] []) : ∀ (n : Nat) (v3 v6 : Int) (st : fS), in32 v3 → in32 v6 → (0 ≤ v1 ∧ v1 ≤ 30) → (0 ≤ v2 ∧ v2 + 6 ≤ v3) → (0 ≤ v5 ∧ v5 ≤ 35) → (v3 ≤ st.1 11 ∧ st.1 11 ≤ 300) → (0 ≤ v6 ∧ v6 ≤ 999999) → (3 * st.2 21 v5 ≤ v3 - 6) → (0 ≤ st.2 21 v5) → (st.1 11 - v3 < ((mf : Nat) : Int)) → st.1 11 - v3 < n → (∀ (z : Int) (u : fS), z = (F_X9_rules_213 v1 v2 v5 K n v3 v6 st).1 → u = (F_X9_rules_213 v1 v2 v5 K n v3 v6 st).2 → (-1000 ≤ z ∧ z ≤ 300) → post z u) → fV D (wM cI cJ cZ cB b) mOk (mA b) 9 p l e rm_X9_rules s m args below meth c 0 0 (fMQ below (fQi D (wM cI cJ cZ cB b) mOk (mA b) post) args s (mA b)) st 213 [(0, .ref (b 0)), (1, .int (zI v1)), (2, .int (zI v2)), (3, .int (zI v3)), (5, .int (zI v5)), (6, .int (zI v6))] [] := by
  have hin9 : ∀ w ∈ u_ws RX9 TX9 43, w ∈ wsX9_rules := by decide +kernel
  intro n
  induction n with
  | zero =>
    intro v3 v6 st hv3 hv6 i0 i1 i2 i3 i4 i5 i6 i7 hm hp
    omega
  | succ n ih =>
    intro v3 v6 st hv3 hv6 i0 i1 i2 i3 i4 i5 i6 i7 hm hp
    refine f_aload_n C 0 dX9_rules_213 rfl rfl ?_
    refine f_iload_n C 3 dX9_rules_214 rfl rfl ?_
    refine f_calli C (c_X9_isStep hX v3 ⟨by omega, by omega⟩ st (show 0 ≤ v3 by omega)) (cwV 1 C.1.2.2.2.2 gX9_rules_X9_isStep rfl rfl rfl (by decide +kernel) ⟨Nat.le_of_ble_eq_true rfl, Nat.le_of_ble_eq_true rfl⟩) 0 rfl rfl rfl rfl rfl (Nat.le_of_ble_eq_true rfl) ⟨Nat.zero_le _, Nat.zero_le _⟩ dX9_rules_215 (fun z u hz1 hu => ?_)
    obtain ⟨qz1, hu, rz1⟩ := hu; replace hu := hu.symm; subst hu; subst qz1
    refine f_if_eq C 322 ⟨by omega, by omega⟩ dX9_rules_218 (by decide) (fun c2 => ?_) (fun c2 => ?_)
    · refine f_aload_n C 0 dX9_rules_322 rfl rfl ?_
      refine f_iload_n C 3 dX9_rules_323 rfl rfl ?_
      refine f_calli C (c_X9_isCap hX v3 ⟨by omega, by omega⟩ st (show 0 ≤ v3 by omega)) (cwV 1 C.1.2.2.2.2 gX9_rules_X9_isCap rfl rfl rfl (by decide +kernel) ⟨Nat.le_of_ble_eq_true rfl, Nat.le_of_ble_eq_true rfl⟩) 0 rfl rfl rfl rfl rfl (Nat.le_of_ble_eq_true rfl) ⟨Nat.zero_le _, Nat.zero_le _⟩ dX9_rules_324 (fun z u hz3 hu => ?_)
      obtain ⟨qz3, hu, rz3⟩ := hu; replace hu := hu.symm; subst hu; subst qz3
      refine f_if_eq C 362 ⟨by omega, by omega⟩ dX9_rules_327 (by decide) (fun c4 => ?_) (fun c4 => ?_)
      · refine f_aload_n C 0 dX9_rules_362 rfl rfl ?_
        refine f_get C hin9 0 17 rfl rfl (Nat.le_of_ble_eq_true rfl) (by decide +kernel) rfl rfl dX9_rules_363 ?_
        refine f_iload C 5 dX9_rules_366 rfl ?_
        refine f_iconst C dX9_rules_368 ?_
        refine f_zast C (mD hX.1 cI cJ cZ cB) (u := sR st 17 (f_up (st.2 17) v5 1)) (f := st.2 17) 13 2 rfl rfl ⟨by omega, by omega⟩ (Nat.le_of_ble_eq_true rfl) (by omega) rfl (fun h => fOk_up h (r := 17) (show 0 ≤ (1 : Int) ∧ (1 : Int) ≤ 1 by omega)) dX9_rules_369 ?_
        refine f_iinc C (lv' := [(2, .int (zI (v2 + 1))), (0, .ref (b 0)), (1, .int (zI v1)), (3, .int (zI v3)), (5, .int (zI v5)), (6, .int (zI v6))]) 2 dX9_rules_370 rfl (Nat.le_of_ble_eq_true rfl) rfl ?_
        refine f_goto C 35 dX9_rules_373 (by decide) ?_
        refine f_re (lv' := [(0, .ref (b 0)), (1, .int (zI v1)), (2, .int (zI (v2 + 1))), (3, .int (zI v3))]) [1, 2, 0, 3] rfl ?_
        refine f_ok (fun hO5 => ?_)
        have k6 : 0 ≤ st.1 11 ∧ st.1 11 ≤ 300 := hO5.1 11
        exact hK (v2 + 1) v3 (sR st 17 (f_up (st.2 17) v5 1)) ⟨by omega, by omega⟩ ⟨by omega, by omega⟩ (show 0 ≤ v1 ∧ v1 ≤ 30 by omega) (show 0 ≤ (v2 + 1) ∧ (v2 + 1) ≤ v3 by omega) (show v3 ≤ (st.1 11) ∧ (st.1 11) ≤ 300 by omega) (show (st.1 11) - v3 < ((mf : Nat) : Int) by omega) (fun z u e1 e2 r1 => hp z u (by rw [F_X9_rules_213, if_pos c2, if_pos c4]; exact e1) (by rw [F_X9_rules_213, if_pos c2, if_pos c4]; exact e2) r1)
      refine f_aload_n C 0 dX9_rules_330 rfl rfl ?_
      refine f_get C hin9 0 20 rfl rfl (Nat.le_of_ble_eq_true rfl) (by decide +kernel) rfl rfl dX9_rules_331 ?_
      refine f_iload C 5 dX9_rules_334 rfl ?_
      refine f_aload_n C 0 dX9_rules_336 rfl rfl ?_
      refine f_iload_n C 3 dX9_rules_337 rfl rfl ?_
      refine f_iconst C dX9_rules_338 ?_
      refine f_iadd C dX9_rules_339 ?_
      refine f_calli C (c_X9_number hX (v3 + 1) ⟨by omega, by omega⟩ st (show 0 ≤ (v3 + 1) by omega)) (cwV 1 C.1.2.2.2.2 gX9_rules_X9_number rfl rfl rfl (by decide +kernel) ⟨Nat.le_of_ble_eq_true rfl, Nat.le_of_ble_eq_true rfl⟩) 0 rfl rfl rfl rfl rfl (Nat.le_of_ble_eq_true rfl) ⟨Nat.zero_le _, Nat.zero_le _⟩ dX9_rules_340 (fun z u hz7 hu => ?_)
      obtain ⟨qz7, hu, rz7⟩ := hu; replace hu := hu.symm; subst hu; subst qz7
      refine f_iast C (mD hX.1 cI cJ cZ cB) (u := sR st 20 (f_up (st.2 20) v5 (F_X9_number (v3 + 1) st))) (f := st.2 20) 16 0 rfl rfl ⟨by omega, by omega⟩ (Nat.le_of_ble_eq_true rfl) rfl (fun h => fOk_up h (r := 20) (show (-1) ≤ (F_X9_number (v3 + 1) st) ∧ (F_X9_number (v3 + 1) st) ≤ 999999 by omega)) dX9_rules_343 ?_
      refine f_aload_n C 0 dX9_rules_344 rfl rfl ?_
      refine f_get C hin9 0 20 rfl rfl (Nat.le_of_ble_eq_true rfl) (by decide +kernel) rfl rfl dX9_rules_345 ?_
      refine f_iload C 5 dX9_rules_348 rfl ?_
      refine f_iald C (f := f_up (st.2 20) v5 (F_X9_number (v3 + 1) st)) 16 0 rfl rfl ⟨by omega, by omega⟩ (Nat.le_of_ble_eq_true rfl) dX9_rules_350 ?_
      refine f_stk (r2 := .int (zI (F_X9_number (v3 + 1) st)) :: _) (by rw [f_up_s]) ?_
      refine f_if_ge C 359 ⟨by omega, by omega⟩ dX9_rules_351 (by decide) (fun c8 => ?_) (fun c8 => ?_)
      · refine f_iinc C (lv' := [(3, .int (zI (v3 + 2))), (0, .ref (b 0)), (1, .int (zI v1)), (2, .int (zI v2)), (5, .int (zI v5)), (6, .int (zI v6))]) 3 dX9_rules_359 rfl (Nat.le_of_ble_eq_true rfl) rfl ?_
        refine f_aload_n C 0 dX9_rules_362 rfl rfl ?_
        refine f_get C hin9 0 17 rfl rfl (Nat.le_of_ble_eq_true rfl) (by decide +kernel) rfl rfl dX9_rules_363 ?_
        refine f_iload C 5 dX9_rules_366 rfl ?_
        refine f_iconst C dX9_rules_368 ?_
        refine f_zast C (mD hX.1 cI cJ cZ cB) (u := sR (sR st 20 (f_up (st.2 20) v5 (F_X9_number (v3 + 1) st))) 17 (f_up (st.2 17) v5 1)) (f := st.2 17) 13 2 rfl rfl ⟨by omega, by omega⟩ (Nat.le_of_ble_eq_true rfl) (by omega) rfl (fun h => fOk_up h (r := 17) (show 0 ≤ (1 : Int) ∧ (1 : Int) ≤ 1 by omega)) dX9_rules_369 ?_
        refine f_iinc C (lv' := [(2, .int (zI (v2 + 1))), (3, .int (zI (v3 + 2))), (0, .ref (b 0)), (1, .int (zI v1)), (5, .int (zI v5)), (6, .int (zI v6))]) 3 dX9_rules_370 rfl (Nat.le_of_ble_eq_true rfl) rfl ?_
        refine f_goto C 35 dX9_rules_373 (by decide) ?_
        refine f_re (lv' := [(0, .ref (b 0)), (1, .int (zI v1)), (2, .int (zI (v2 + 1))), (3, .int (zI (v3 + 2)))]) [2, 3, 0, 1] rfl ?_
        refine f_ok (fun hO9 => ?_)
        have k10 : 0 ≤ st.1 11 ∧ st.1 11 ≤ 300 := hO9.1 11
        exact hK (v2 + 1) (v3 + 2) (sR (sR st 20 (f_up (st.2 20) v5 (F_X9_number (v3 + 1) st))) 17 (f_up (st.2 17) v5 1)) ⟨by omega, by omega⟩ ⟨by omega, by omega⟩ (show 0 ≤ v1 ∧ v1 ≤ 30 by omega) (show 0 ≤ (v2 + 1) ∧ (v2 + 1) ≤ (v3 + 2) by omega) (show (v3 + 2) ≤ (st.1 11) ∧ (st.1 11) ≤ 300 by omega) (show (st.1 11) - (v3 + 2) < ((mf : Nat) : Int) by omega) (fun z u e1 e2 r1 => hp z u (by rw [F_X9_rules_213, if_pos c2, if_neg c4, if_pos c8]; exact e1) (by rw [F_X9_rules_213, if_pos c2, if_neg c4, if_pos c8]; exact e2) r1)
      refine f_bipush C dX9_rules_354 (by decide) ?_
      refine f_iload_n C 3 dX9_rules_356 rfl rfl ?_
      refine f_isub C dX9_rules_357 ?_
      exact f_iret C hret hlk dX9_rules_358 ⟨by omega, by omega⟩ (hp _ _ (by rw [F_X9_rules_213, if_pos c2, if_neg c4, if_neg c8]) (by rw [F_X9_rules_213, if_pos c2, if_neg c4, if_neg c8]) (by omega))
    refine f_aload_n C 0 dX9_rules_221 rfl rfl ?_
    refine f_iload_n C 3 dX9_rules_222 rfl rfl ?_
    refine f_iconst C dX9_rules_223 ?_
    refine f_iadd C dX9_rules_224 ?_
    refine f_calli C (c_X9_number hX (v3 + 1) ⟨by omega, by omega⟩ st (show 0 ≤ (v3 + 1) by omega)) (cwV 1 C.1.2.2.2.2 gX9_rules_X9_number rfl rfl rfl (by decide +kernel) ⟨Nat.le_of_ble_eq_true rfl, Nat.le_of_ble_eq_true rfl⟩) 0 rfl rfl rfl rfl rfl (Nat.le_of_ble_eq_true rfl) ⟨Nat.zero_le _, Nat.zero_le _⟩ dX9_rules_225 (fun z u hz11 hu => ?_)
    obtain ⟨qz11, hu, rz11⟩ := hu; replace hu := hu.symm; subst hu; subst qz11
    refine f_istore C (lv' := [(7, .int (zI (F_X9_number (v3 + 1) st))), (0, .ref (b 0)), (1, .int (zI v1)), (2, .int (zI v2)), (3, .int (zI v3)), (5, .int (zI v5)), (6, .int (zI v6))]) dX9_rules_228 (Nat.le_of_ble_eq_true rfl) rfl ?_
    refine f_iload C 7 dX9_rules_230 rfl ?_
    refine f_iload C 6 dX9_rules_232 rfl ?_
    refine f_icmp_gt C 242 ⟨by omega, by omega⟩ ⟨by omega, by omega⟩ dX9_rules_234 (by decide) (fun c12 => ?_) (fun c12 => ?_)
    · refine f_aload_n C 0 dX9_rules_242 rfl rfl ?_
      refine f_iload_n C 3 dX9_rules_243 rfl rfl ?_
      refine f_iconst C dX9_rules_244 ?_
      refine f_iadd C dX9_rules_245 ?_
      refine f_calli C (c_X9_number hX (v3 + 2) ⟨by omega, by omega⟩ st (show 0 ≤ (v3 + 2) by omega)) (cwV 1 C.1.2.2.2.2 gX9_rules_X9_number rfl rfl rfl (by decide +kernel) ⟨Nat.le_of_ble_eq_true rfl, Nat.le_of_ble_eq_true rfl⟩) 0 rfl rfl rfl rfl rfl (Nat.le_of_ble_eq_true rfl) ⟨Nat.zero_le _, Nat.zero_le _⟩ dX9_rules_246 (fun z u hz13 hu => ?_)
      obtain ⟨qz13, hu, rz13⟩ := hu; replace hu := hu.symm; subst hu; subst qz13
      refine f_istore C (lv' := [(8, .int (zI (F_X9_number (v3 + 2) st))), (7, .int (zI (F_X9_number (v3 + 1) st))), (0, .ref (b 0)), (1, .int (zI v1)), (2, .int (zI v2)), (3, .int (zI v3)), (5, .int (zI v5)), (6, .int (zI v6))]) dX9_rules_249 (Nat.le_of_ble_eq_true rfl) rfl ?_
      refine f_iload C 8 dX9_rules_251 rfl ?_
      refine f_if_ge C 261 ⟨by omega, by omega⟩ dX9_rules_253 (by decide) (fun c14 => ?_) (fun c14 => ?_)
      · refine f_aload_n C 0 dX9_rules_261 rfl rfl ?_
        refine f_get C hin9 0 22 rfl rfl (Nat.le_of_ble_eq_true rfl) (by decide +kernel) rfl rfl dX9_rules_262 ?_
        refine f_bipush C dX9_rules_265 (by decide) ?_
        refine f_iload C 5 dX9_rules_267 rfl ?_
        refine f_imul C dX9_rules_269 ?_
        refine f_aload_n C 0 dX9_rules_270 rfl rfl ?_
        refine f_get C hin9 0 21 rfl rfl (Nat.le_of_ble_eq_true rfl) (by decide +kernel) rfl rfl dX9_rules_271 ?_
        refine f_iload C 5 dX9_rules_274 rfl ?_
        refine f_iald C (f := st.2 21) 17 0 rfl rfl ⟨by omega, by omega⟩ (Nat.le_of_ble_eq_true rfl) dX9_rules_276 ?_
        refine f_ok (fun hO15 => ?_)
        have k16 : 0 ≤ st.2 21 v5 ∧ st.2 21 v5 ≤ 100 := hO15.2 21 v5
        refine f_iadd C dX9_rules_277 ?_
        refine f_iload C 7 dX9_rules_278 rfl ?_
        refine f_iast C (mD hX.1 cI cJ cZ cB) (u := sR st 22 (f_up (st.2 22) ((100 * v5) + (st.2 21 v5)) (F_X9_number (v3 + 1) st))) (f := st.2 22) 18 0 rfl rfl ⟨by omega, by omega⟩ (Nat.le_of_ble_eq_true rfl) rfl (fun h => fOk_up h (r := 22) (show 0 ≤ (F_X9_number (v3 + 1) st) ∧ (F_X9_number (v3 + 1) st) ≤ 999999 by omega)) dX9_rules_280 ?_
        refine f_aload_n C 0 dX9_rules_281 rfl rfl ?_
        refine f_get C hin9 0 23 rfl rfl (Nat.le_of_ble_eq_true rfl) (by decide +kernel) rfl rfl dX9_rules_282 ?_
        refine f_bipush C dX9_rules_285 (by decide) ?_
        refine f_iload C 5 dX9_rules_287 rfl ?_
        refine f_imul C dX9_rules_289 ?_
        refine f_aload_n C 0 dX9_rules_290 rfl rfl ?_
        refine f_get C hin9 0 21 rfl rfl (Nat.le_of_ble_eq_true rfl) (by decide +kernel) rfl rfl dX9_rules_291 ?_
        refine f_iload C 5 dX9_rules_294 rfl ?_
        refine f_iald C (f := st.2 21) 17 0 rfl rfl ⟨by omega, by omega⟩ (Nat.le_of_ble_eq_true rfl) dX9_rules_296 ?_
        refine f_ok (fun hO17 => ?_)
        have k18 : 0 ≤ st.2 21 v5 ∧ st.2 21 v5 ≤ 100 := hO17.2 21 v5
        refine f_iadd C dX9_rules_297 ?_
        refine f_iload C 8 dX9_rules_298 rfl ?_
        refine f_iast C (mD hX.1 cI cJ cZ cB) (u := sR (sR st 22 (f_up (st.2 22) ((100 * v5) + (st.2 21 v5)) (F_X9_number (v3 + 1) st))) 23 (f_up (st.2 23) ((100 * v5) + (st.2 21 v5)) (F_X9_number (v3 + 2) st))) (f := st.2 23) 19 0 rfl rfl ⟨by omega, by omega⟩ (Nat.le_of_ble_eq_true rfl) rfl (fun h => fOk_up h (r := 23) (show 0 ≤ (F_X9_number (v3 + 2) st) ∧ (F_X9_number (v3 + 2) st) ≤ 999999 by omega)) dX9_rules_300 ?_
        refine f_aload_n C 0 dX9_rules_301 rfl rfl ?_
        refine f_get C hin9 0 21 rfl rfl (Nat.le_of_ble_eq_true rfl) (by decide +kernel) rfl rfl dX9_rules_302 ?_
        refine f_iload C 5 dX9_rules_305 rfl ?_
        refine f_dup2 C dX9_rules_307 rfl rfl ?_
        refine f_iald C (f := st.2 21) 17 0 rfl rfl ⟨by omega, by omega⟩ (Nat.le_of_ble_eq_true rfl) dX9_rules_308 ?_
        refine f_ok (fun hO19 => ?_)
        have k20 : 0 ≤ st.2 21 v5 ∧ st.2 21 v5 ≤ 100 := hO19.2 21 v5
        refine f_iconst C dX9_rules_309 ?_
        refine f_iadd C dX9_rules_310 ?_
        refine f_iast C (mD hX.1 cI cJ cZ cB) (u := sR (sR (sR st 22 (f_up (st.2 22) ((100 * v5) + (st.2 21 v5)) (F_X9_number (v3 + 1) st))) 23 (f_up (st.2 23) ((100 * v5) + (st.2 21 v5)) (F_X9_number (v3 + 2) st))) 21 (f_up (st.2 21) v5 ((st.2 21 v5) + 1))) (f := st.2 21) 17 0 rfl rfl ⟨by omega, by omega⟩ (Nat.le_of_ble_eq_true rfl) rfl (fun h => fOk_up h (r := 21) (show 0 ≤ ((st.2 21 v5) + 1) ∧ ((st.2 21 v5) + 1) ≤ 100 by omega)) dX9_rules_311 ?_
        refine f_iload C 7 dX9_rules_312 rfl ?_
        refine f_istore C (lv' := [(6, .int (zI (F_X9_number (v3 + 1) st))), (8, .int (zI (F_X9_number (v3 + 2) st))), (7, .int (zI (F_X9_number (v3 + 1) st))), (0, .ref (b 0)), (1, .int (zI v1)), (2, .int (zI v2)), (3, .int (zI v3)), (5, .int (zI v5))]) dX9_rules_314 (Nat.le_of_ble_eq_true rfl) rfl ?_
        refine f_iinc C (lv' := [(3, .int (zI (v3 + 3))), (6, .int (zI (F_X9_number (v3 + 1) st))), (8, .int (zI (F_X9_number (v3 + 2) st))), (7, .int (zI (F_X9_number (v3 + 1) st))), (0, .ref (b 0)), (1, .int (zI v1)), (2, .int (zI v2)), (5, .int (zI v5))]) 6 dX9_rules_316 rfl (Nat.le_of_ble_eq_true rfl) rfl ?_
        refine f_goto C 213 dX9_rules_319 (by decide) ?_
        refine f_re (lv' := [(0, .ref (b 0)), (1, .int (zI v1)), (2, .int (zI v2)), (3, .int (zI (v3 + 3))), (5, .int (zI v5)), (6, .int (zI (F_X9_number (v3 + 1) st)))]) [4, 5, 6, 0, 7, 1] rfl ?_
        refine f_ok (fun hO21 => ?_)
        have k22 : 0 ≤ st.1 11 ∧ st.1 11 ≤ 300 := hO21.1 11
        exact ih (v3 + 3) (F_X9_number (v3 + 1) st) (sR (sR (sR st 22 (f_up (st.2 22) ((100 * v5) + (st.2 21 v5)) (F_X9_number (v3 + 1) st))) 23 (f_up (st.2 23) ((100 * v5) + (st.2 21 v5)) (F_X9_number (v3 + 2) st))) 21 (f_up (st.2 21) v5 ((st.2 21 v5) + 1))) ⟨by omega, by omega⟩ ⟨by omega, by omega⟩ (show 0 ≤ v1 ∧ v1 ≤ 30 by omega) (show 0 ≤ v2 ∧ v2 + 6 ≤ (v3 + 3) by omega) (show 0 ≤ v5 ∧ v5 ≤ 35 by omega) (show (v3 + 3) ≤ (st.1 11) ∧ (st.1 11) ≤ 300 by omega) (show 0 ≤ (F_X9_number (v3 + 1) st) ∧ (F_X9_number (v3 + 1) st) ≤ 999999 by omega) (by show 3 * (f_up _ _ _) _ ≤ _; rw [f_up_s]; omega) (by show 0 ≤ (f_up _ _ _) _; rw [f_up_s]; omega) (show (st.1 11) - (v3 + 3) < ((mf : Nat) : Int) by omega) (show (st.1 11) - (v3 + 3) < ((n : Nat) : Int) by omega) (fun z u e1 e2 r1 => hp z u (by rw [F_X9_rules_213, if_neg c2, if_pos c12, if_pos c14]; exact e1) (by rw [F_X9_rules_213, if_neg c2, if_pos c12, if_pos c14]; exact e2) r1)
      refine f_bipush C dX9_rules_256 (by decide) ?_
      refine f_iload_n C 3 dX9_rules_258 rfl rfl ?_
      refine f_isub C dX9_rules_259 ?_
      exact f_iret C hret hlk dX9_rules_260 ⟨by omega, by omega⟩ (hp _ _ (by rw [F_X9_rules_213, if_neg c2, if_pos c12, if_neg c14]) (by rw [F_X9_rules_213, if_neg c2, if_pos c12, if_neg c14]) (by omega))
    refine f_bipush C dX9_rules_237 (by decide) ?_
    refine f_iload_n C 3 dX9_rules_239 rfl rfl ?_
    refine f_isub C dX9_rules_240 ?_
    exact f_iret C hret hlk dX9_rules_241 ⟨by omega, by omega⟩ (hp _ _ (by rw [F_X9_rules_213, if_neg c2, if_neg c12]) (by rw [F_X9_rules_213, if_neg c2, if_neg c12]) (by omega))
set_option maxRecDepth 100000 in
set_option maxHeartbeats 8000000 in
theorem v_X9_rules_35 {l : Launch} {D : va_G} {cI cJ cZ cB : ClassId} {b : Nat → Nat} {E : State → Prop} (hX : mHyp b E) (v1 : Int) (hv1 : in32 v1) {p : Program} {e : Env} {s : State} {m : MethodId} {args : Array Value} {below : List Frame} {meth : Method} {c : Code} (C : fC p m c cX9_rules 9 s args wsX9_rules yX9_rules.cls D (fTys cI cJ cZ cB) E (mA b)) (hret : meth.sig.returnType = (some .int)) (hlk : meth.locks = false) {post : Int → fS → Prop} : ∀ (n : Nat) (v2 v3 : Int) (st : fS), in32 v2 → in32 v3 → (0 ≤ v1 ∧ v1 ≤ 30) → (0 ≤ v2 ∧ v2 ≤ v3) → (v3 ≤ st.1 11 ∧ st.1 11 ≤ 300) → st.1 11 - v3 < n → (∀ (z : Int) (u : fS), z = (F_X9_rules_35 v1 n v2 v3 st).1 → u = (F_X9_rules_35 v1 n v2 v3 st).2 → (-1000 ≤ z ∧ z ≤ 300) → post z u) → fV D (wM cI cJ cZ cB b) mOk (mA b) 9 p l e rm_X9_rules s m args below meth c 0 0 (fMQ below (fQi D (wM cI cJ cZ cB b) mOk (mA b) post) args s (mA b)) st 35 [(0, .ref (b 0)), (1, .int (zI v1)), (2, .int (zI v2)), (3, .int (zI v3))] [] := by
  have hin9 : ∀ w ∈ u_ws RX9 TX9 43, w ∈ wsX9_rules := by decide +kernel
  intro n
  induction n with
  | zero =>
    intro v2 v3 st hv2 hv3 i0 i1 i2 hm hp
    omega
  | succ n ih =>
    intro v2 v3 st hv2 hv3 i0 i1 i2 hm hp
    refine f_iload_n C 3 dX9_rules_35 rfl rfl ?_
    refine f_aload_n C 0 dX9_rules_36 rfl rfl ?_
    refine f_ok (fun hO23 => ?_)
    have k24 : 0 ≤ st.1 11 ∧ st.1 11 ≤ 300 := hO23.1 11
    refine f_get C (v := .int (zI (st.1 11))) hin9 0 11 rfl rfl (Nat.le_of_ble_eq_true rfl) (by decide +kernel) rfl rfl dX9_rules_37 ?_
    refine f_icmp_ge C 376 ⟨by omega, by omega⟩ ⟨by omega, by omega⟩ dX9_rules_40 (by decide) (fun c25 => ?_) (fun c25 => ?_)
    · refine f_iload_n C 2 dX9_rules_376 rfl rfl ?_
      exact f_iret C hret hlk dX9_rules_377 ⟨by omega, by omega⟩ (hp _ _ (by rw [F_X9_rules_35, if_pos c25]) (by rw [F_X9_rules_35, if_pos c25]) (by omega))
    refine f_aload_n C 0 dX9_rules_43 rfl rfl ?_
    refine f_iload_n C 3 dX9_rules_44 rfl rfl ?_
    refine f_calli C (c_X9_isKindWord hX v3 ⟨by omega, by omega⟩ st (show 0 ≤ v3 by omega)) (cwV 1 C.1.2.2.2.2 gX9_rules_X9_isKindWord rfl rfl rfl (by decide +kernel) ⟨Nat.le_of_ble_eq_true rfl, Nat.le_of_ble_eq_true rfl⟩) 0 rfl rfl rfl rfl rfl (Nat.le_of_ble_eq_true rfl) ⟨Nat.zero_le _, Nat.zero_le _⟩ dX9_rules_45 (fun z u hz26 hu => ?_)
    obtain ⟨qz26, hu, rz26⟩ := hu; replace hu := hu.symm; subst hu; subst qz26
    refine f_if_ne C 55 ⟨by omega, by omega⟩ dX9_rules_48 (by decide) (fun c27 => ?_) (fun c27 => ?_)
    · refine f_aload_n C 0 dX9_rules_55 rfl rfl ?_
      refine f_iload_n C 3 dX9_rules_56 rfl rfl ?_
      refine f_iconst C dX9_rules_57 ?_
      refine f_iadd C dX9_rules_58 ?_
      refine f_calli C (c_X9_number hX (v3 + 1) ⟨by omega, by omega⟩ st (show 0 ≤ (v3 + 1) by omega)) (cwV 1 C.1.2.2.2.2 gX9_rules_X9_number rfl rfl rfl (by decide +kernel) ⟨Nat.le_of_ble_eq_true rfl, Nat.le_of_ble_eq_true rfl⟩) 0 rfl rfl rfl rfl rfl (Nat.le_of_ble_eq_true rfl) ⟨Nat.zero_le _, Nat.zero_le _⟩ dX9_rules_59 (fun z u hz28 hu => ?_)
      obtain ⟨qz28, hu, rz28⟩ := hu; replace hu := hu.symm; subst hu; subst qz28
      refine f_istore C (lv' := [(4, .int (zI (F_X9_number (v3 + 1) st))), (0, .ref (b 0)), (1, .int (zI v1)), (2, .int (zI v2)), (3, .int (zI v3))]) dX9_rules_62 (Nat.le_of_ble_eq_true rfl) rfl ?_
      refine f_iload C 4 dX9_rules_64 rfl ?_
      refine f_if_lt C 75 ⟨by omega, by omega⟩ dX9_rules_66 (by decide) (fun c29 => ?_) (fun c29 => ?_)
      · refine f_bipush C dX9_rules_75 (by decide) ?_
        refine f_iload_n C 3 dX9_rules_77 rfl rfl ?_
        refine f_isub C dX9_rules_78 ?_
        exact f_iret C hret hlk dX9_rules_79 ⟨by omega, by omega⟩ (hp _ _ (by rw [F_X9_rules_35, if_neg c25, if_neg c27, if_pos c29]) (by rw [F_X9_rules_35, if_neg c25, if_neg c27, if_pos c29]) (by omega))
      refine f_iload C 4 dX9_rules_69 rfl ?_
      refine f_iconst C dX9_rules_71 ?_
      refine f_icmp_le C 80 ⟨by omega, by omega⟩ ⟨by decide, by decide⟩ dX9_rules_72 (by decide) (fun c30 => ?_) (fun c30 => ?_)
      · refine f_aload_n C 0 dX9_rules_80 rfl rfl ?_
        refine f_get C hin9 0 17 rfl rfl (Nat.le_of_ble_eq_true rfl) (by decide +kernel) rfl rfl dX9_rules_81 ?_
        refine f_iload_n C 1 dX9_rules_84 rfl rfl ?_
        refine f_iload C 4 dX9_rules_85 rfl ?_
        refine f_iadd C dX9_rules_87 ?_
        refine f_zald C (f := st.2 17) 13 2 rfl rfl ⟨by omega, by omega⟩ (Nat.le_of_ble_eq_true rfl) dX9_rules_88 ?_
        have k31 : 0 ≤ st.2 17 (v1 + (F_X9_number (v3 + 1) st)) ∧ st.2 17 (v1 + (F_X9_number (v3 + 1) st)) ≤ 1 := hO23.2 17 (v1 + (F_X9_number (v3 + 1) st))
        refine f_if_eq C 97 ⟨by omega, by omega⟩ dX9_rules_89 (by decide) (fun c32 => ?_) (fun c32 => ?_)
        · refine f_iload_n C 1 dX9_rules_97 rfl rfl ?_
          refine f_iload C 4 dX9_rules_98 rfl ?_
          refine f_iadd C dX9_rules_100 ?_
          refine f_istore C (lv' := [(5, .int (zI (v1 + (F_X9_number (v3 + 1) st)))), (4, .int (zI (F_X9_number (v3 + 1) st))), (0, .ref (b 0)), (1, .int (zI v1)), (2, .int (zI v2)), (3, .int (zI v3))]) dX9_rules_101 (Nat.le_of_ble_eq_true rfl) rfl ?_
          refine f_aload_n C 0 dX9_rules_103 rfl rfl ?_
          refine f_iload_n C 3 dX9_rules_104 rfl rfl ?_
          refine f_iconst C dX9_rules_105 ?_
          refine f_iadd C dX9_rules_106 ?_
          refine f_calli C (c_X9_isPer hX (v3 + 2) ⟨by omega, by omega⟩ st (show 0 ≤ (v3 + 2) by omega)) (cwV 1 C.1.2.2.2.2 gX9_rules_X9_isPer rfl rfl rfl (by decide +kernel) ⟨Nat.le_of_ble_eq_true rfl, Nat.le_of_ble_eq_true rfl⟩) 0 rfl rfl rfl rfl rfl (Nat.le_of_ble_eq_true rfl) ⟨Nat.zero_le _, Nat.zero_le _⟩ dX9_rules_107 (fun z u hz33 hu => ?_)
          obtain ⟨qz33, hu, rz33⟩ := hu; replace hu := hu.symm; subst hu; subst qz33
          refine f_if_ne C 118 ⟨by omega, by omega⟩ dX9_rules_110 (by decide) (fun c34 => ?_) (fun c34 => ?_)
          · refine f_aload_n C 0 dX9_rules_118 rfl rfl ?_
            refine f_get C hin9 0 18 rfl rfl (Nat.le_of_ble_eq_true rfl) (by decide +kernel) rfl rfl dX9_rules_119 ?_
            refine f_iload C 5 dX9_rules_122 rfl ?_
            refine f_aload_n C 0 dX9_rules_124 rfl rfl ?_
            refine f_iload_n C 3 dX9_rules_125 rfl rfl ?_
            refine f_iconst C dX9_rules_126 ?_
            refine f_iadd C dX9_rules_127 ?_
            refine f_calli C (c_X9_number hX (v3 + 3) ⟨by omega, by omega⟩ st (show 0 ≤ (v3 + 3) by omega)) (cwV 1 C.1.2.2.2.2 gX9_rules_X9_number rfl rfl rfl (by decide +kernel) ⟨Nat.le_of_ble_eq_true rfl, Nat.le_of_ble_eq_true rfl⟩) 0 rfl rfl rfl rfl rfl (Nat.le_of_ble_eq_true rfl) ⟨Nat.zero_le _, Nat.zero_le _⟩ dX9_rules_128 (fun z u hz35 hu => ?_)
            obtain ⟨qz35, hu, rz35⟩ := hu; replace hu := hu.symm; subst hu; subst qz35
            refine f_iast C (mD hX.1 cI cJ cZ cB) (u := sR st 18 (f_up (st.2 18) (v1 + (F_X9_number (v3 + 1) st)) (F_X9_number (v3 + 3) st))) (f := st.2 18) 14 0 rfl rfl ⟨by omega, by omega⟩ (Nat.le_of_ble_eq_true rfl) rfl (fun h => fOk_up h (r := 18) (show (-1) ≤ (F_X9_number (v3 + 3) st) ∧ (F_X9_number (v3 + 3) st) ≤ 999999 by omega)) dX9_rules_131 ?_
            refine f_aload_n C 0 dX9_rules_132 rfl rfl ?_
            refine f_get C hin9 0 18 rfl rfl (Nat.le_of_ble_eq_true rfl) (by decide +kernel) rfl rfl dX9_rules_133 ?_
            refine f_iload C 5 dX9_rules_136 rfl ?_
            refine f_iald C (f := f_up (st.2 18) (v1 + (F_X9_number (v3 + 1) st)) (F_X9_number (v3 + 3) st)) 14 0 rfl rfl ⟨by omega, by omega⟩ (Nat.le_of_ble_eq_true rfl) dX9_rules_138 ?_
            refine f_stk (r2 := .int (zI (F_X9_number (v3 + 3) st)) :: _) (by rw [f_up_s]) ?_
            refine f_if_ge C 147 ⟨by omega, by omega⟩ dX9_rules_139 (by decide) (fun c36 => ?_) (fun c36 => ?_)
            · refine f_aload_n C 0 dX9_rules_147 rfl rfl ?_
              refine f_iload_n C 3 dX9_rules_148 rfl rfl ?_
              refine f_iconst C dX9_rules_149 ?_
              refine f_iadd C dX9_rules_150 ?_
              refine f_calli C (c_X9_isPrice hX (v3 + 4) ⟨by omega, by omega⟩ (sR st 18 (f_up (st.2 18) (v1 + (F_X9_number (v3 + 1) st)) (F_X9_number (v3 + 3) st))) (show 0 ≤ (v3 + 4) by omega)) (cwV 1 C.1.2.2.2.2 gX9_rules_X9_isPrice rfl rfl rfl (by decide +kernel) ⟨Nat.le_of_ble_eq_true rfl, Nat.le_of_ble_eq_true rfl⟩) 0 rfl rfl rfl rfl rfl (Nat.le_of_ble_eq_true rfl) ⟨Nat.zero_le _, Nat.zero_le _⟩ dX9_rules_151 (fun z u hz37 hu => ?_)
              obtain ⟨qz37, hu, rz37⟩ := hu; replace hu := hu.symm; subst hu; subst qz37
              refine f_ok (fun hO38 => ?_)
              have k39 : 0 ≤ st.1 11 ∧ st.1 11 ≤ 300 := hO38.1 11
              have k40 : ((F_X9_isPrice (v3 + 4) (sR st 18 (f_up (st.2 18) (v1 + (F_X9_number (v3 + 1) st)) (F_X9_number (v3 + 3) st)))) = 1 ∧ (v3 + 4) < (st.1 11) ∧ (st.1 11) ≤ 300) ∨ (F_X9_isPrice (v3 + 4) (sR st 18 (f_up (st.2 18) (v1 + (F_X9_number (v3 + 1) st)) (F_X9_number (v3 + 3) st)))) = 0 := rz37
              refine f_if_ne C 162 ⟨by omega, by omega⟩ dX9_rules_154 (by decide) (fun c41 => ?_) (fun c41 => ?_)
              · refine f_aload_n C 0 dX9_rules_162 rfl rfl ?_
                refine f_get C hin9 0 19 rfl rfl (Nat.le_of_ble_eq_true rfl) (by decide +kernel) rfl rfl dX9_rules_163 ?_
                refine f_iload C 5 dX9_rules_166 rfl ?_
                refine f_aload_n C 0 dX9_rules_168 rfl rfl ?_
                refine f_iload_n C 3 dX9_rules_169 rfl rfl ?_
                refine f_iconst C dX9_rules_170 ?_
                refine f_iadd C dX9_rules_171 ?_
                refine f_calli C (c_X9_number hX (v3 + 5) ⟨by omega, by omega⟩ (sR st 18 (f_up (st.2 18) (v1 + (F_X9_number (v3 + 1) st)) (F_X9_number (v3 + 3) st))) (show 0 ≤ (v3 + 5) by omega)) (cwV 1 C.1.2.2.2.2 gX9_rules_X9_number rfl rfl rfl (by decide +kernel) ⟨Nat.le_of_ble_eq_true rfl, Nat.le_of_ble_eq_true rfl⟩) 0 rfl rfl rfl rfl rfl (Nat.le_of_ble_eq_true rfl) ⟨Nat.zero_le _, Nat.zero_le _⟩ dX9_rules_172 (fun z u hz42 hu => ?_)
                obtain ⟨qz42, hu, rz42⟩ := hu; replace hu := hu.symm; subst hu; subst qz42
                have k43 : -1 ≤ (F_X9_number (v3 + 5) (sR st 18 (f_up (st.2 18) (v1 + (F_X9_number (v3 + 1) st)) (F_X9_number (v3 + 3) st)))) ∧ (F_X9_number (v3 + 5) (sR st 18 (f_up (st.2 18) (v1 + (F_X9_number (v3 + 1) st)) (F_X9_number (v3 + 3) st)))) ≤ 999999 ∧ ((F_X9_number (v3 + 5) (sR st 18 (f_up (st.2 18) (v1 + (F_X9_number (v3 + 1) st)) (F_X9_number (v3 + 3) st)))) = -1 ∨ ((v3 + 5) < (st.1 11) ∧ (st.1 11) ≤ 300)) := rz42
                refine f_iast C (mD hX.1 cI cJ cZ cB) (u := sR (sR st 18 (f_up (st.2 18) (v1 + (F_X9_number (v3 + 1) st)) (F_X9_number (v3 + 3) st))) 19 (f_up (st.2 19) (v1 + (F_X9_number (v3 + 1) st)) (F_X9_number (v3 + 5) (sR st 18 (f_up (st.2 18) (v1 + (F_X9_number (v3 + 1) st)) (F_X9_number (v3 + 3) st)))))) (f := st.2 19) 15 0 rfl rfl ⟨by omega, by omega⟩ (Nat.le_of_ble_eq_true rfl) rfl (fun h => fOk_up h (r := 19) (show (-1) ≤ (F_X9_number (v3 + 5) (sR st 18 (f_up (st.2 18) (v1 + (F_X9_number (v3 + 1) st)) (F_X9_number (v3 + 3) st)))) ∧ (F_X9_number (v3 + 5) (sR st 18 (f_up (st.2 18) (v1 + (F_X9_number (v3 + 1) st)) (F_X9_number (v3 + 3) st)))) ≤ 999999 by omega)) dX9_rules_175 ?_
                refine f_aload_n C 0 dX9_rules_176 rfl rfl ?_
                refine f_get C hin9 0 19 rfl rfl (Nat.le_of_ble_eq_true rfl) (by decide +kernel) rfl rfl dX9_rules_177 ?_
                refine f_iload C 5 dX9_rules_180 rfl ?_
                refine f_iald C (f := f_up (st.2 19) (v1 + (F_X9_number (v3 + 1) st)) (F_X9_number (v3 + 5) (sR st 18 (f_up (st.2 18) (v1 + (F_X9_number (v3 + 1) st)) (F_X9_number (v3 + 3) st))))) 15 0 rfl rfl ⟨by omega, by omega⟩ (Nat.le_of_ble_eq_true rfl) dX9_rules_182 ?_
                refine f_stk (r2 := .int (zI (F_X9_number (v3 + 5) (sR st 18 (f_up (st.2 18) (v1 + (F_X9_number (v3 + 1) st)) (F_X9_number (v3 + 3) st))))) :: _) (by rw [f_up_s]) ?_
                refine f_if_ge C 191 ⟨by omega, by omega⟩ dX9_rules_183 (by decide) (fun c44 => ?_) (fun c44 => ?_)
                · refine f_iinc C (lv' := [(3, .int (zI (v3 + 6))), (5, .int (zI (v1 + (F_X9_number (v3 + 1) st)))), (4, .int (zI (F_X9_number (v3 + 1) st))), (0, .ref (b 0)), (1, .int (zI v1)), (2, .int (zI v2))]) 5 dX9_rules_191 rfl (Nat.le_of_ble_eq_true rfl) rfl ?_
                  refine f_aload_n C 0 dX9_rules_194 rfl rfl ?_
                  refine f_get C hin9 0 21 rfl rfl (Nat.le_of_ble_eq_true rfl) (by decide +kernel) rfl rfl dX9_rules_195 ?_
                  refine f_iload C 5 dX9_rules_198 rfl ?_
                  refine f_iconst C dX9_rules_200 ?_
                  refine f_iast C (mD hX.1 cI cJ cZ cB) (u := sR (sR (sR st 18 (f_up (st.2 18) (v1 + (F_X9_number (v3 + 1) st)) (F_X9_number (v3 + 3) st))) 19 (f_up (st.2 19) (v1 + (F_X9_number (v3 + 1) st)) (F_X9_number (v3 + 5) (sR st 18 (f_up (st.2 18) (v1 + (F_X9_number (v3 + 1) st)) (F_X9_number (v3 + 3) st)))))) 21 (f_up (st.2 21) (v1 + (F_X9_number (v3 + 1) st)) 0)) (f := st.2 21) 17 0 rfl rfl ⟨by omega, by omega⟩ (Nat.le_of_ble_eq_true rfl) rfl (fun h => fOk_up h (r := 21) (show 0 ≤ (0 : Int) ∧ (0 : Int) ≤ 100 by omega)) dX9_rules_201 ?_
                  refine f_aload_n C 0 dX9_rules_202 rfl rfl ?_
                  refine f_get C hin9 0 20 rfl rfl (Nat.le_of_ble_eq_true rfl) (by decide +kernel) rfl rfl dX9_rules_203 ?_
                  refine f_iload C 5 dX9_rules_206 rfl ?_
                  refine f_iconst C dX9_rules_208 ?_
                  refine f_iast C (mD hX.1 cI cJ cZ cB) (u := sR (sR (sR (sR st 18 (f_up (st.2 18) (v1 + (F_X9_number (v3 + 1) st)) (F_X9_number (v3 + 3) st))) 19 (f_up (st.2 19) (v1 + (F_X9_number (v3 + 1) st)) (F_X9_number (v3 + 5) (sR st 18 (f_up (st.2 18) (v1 + (F_X9_number (v3 + 1) st)) (F_X9_number (v3 + 3) st)))))) 21 (f_up (st.2 21) (v1 + (F_X9_number (v3 + 1) st)) 0)) 20 (f_up (st.2 20) (v1 + (F_X9_number (v3 + 1) st)) (-1))) (f := st.2 20) 16 0 rfl rfl ⟨by omega, by omega⟩ (Nat.le_of_ble_eq_true rfl) rfl (fun h => fOk_up h (r := 20) (show (-1) ≤ (-1 : Int) ∧ (-1 : Int) ≤ 999999 by omega)) dX9_rules_209 ?_
                  refine f_iconst C dX9_rules_210 ?_
                  refine f_istore C (lv' := [(6, .int (zI 0)), (3, .int (zI (v3 + 6))), (5, .int (zI (v1 + (F_X9_number (v3 + 1) st)))), (4, .int (zI (F_X9_number (v3 + 1) st))), (0, .ref (b 0)), (1, .int (zI v1)), (2, .int (zI v2))]) dX9_rules_211 (Nat.le_of_ble_eq_true rfl) rfl ?_
                  refine f_re (lv' := [(0, .ref (b 0)), (1, .int (zI v1)), (2, .int (zI v2)), (3, .int (zI (v3 + 6))), (5, .int (zI (v1 + (F_X9_number (v3 + 1) st)))), (6, .int (zI 0))]) [4, 5, 6, 1, 2, 0] rfl ?_
                  refine f_ok (fun hO45 => ?_)
                  have k46 : 0 ≤ st.1 11 ∧ st.1 11 ≤ 300 := hO45.1 11
                  exact v_X9_rules_213 hX v1 v2 (v1 + (F_X9_number (v3 + 1) st)) ⟨by omega, by omega⟩ ⟨by omega, by omega⟩ ⟨by omega, by omega⟩ C hret hlk (K := F_X9_rules_35 v1 n) (mf := n) ih (Int.toNat ((st.1 11) - (v3 + 6)) + 1) (v3 + 6) 0 (sR (sR (sR (sR st 18 (f_up (st.2 18) (v1 + (F_X9_number (v3 + 1) st)) (F_X9_number (v3 + 3) st))) 19 (f_up (st.2 19) (v1 + (F_X9_number (v3 + 1) st)) (F_X9_number (v3 + 5) (sR st 18 (f_up (st.2 18) (v1 + (F_X9_number (v3 + 1) st)) (F_X9_number (v3 + 3) st)))))) 21 (f_up (st.2 21) (v1 + (F_X9_number (v3 + 1) st)) 0)) 20 (f_up (st.2 20) (v1 + (F_X9_number (v3 + 1) st)) (-1))) ⟨by omega, by omega⟩ ⟨by omega, by omega⟩ (show 0 ≤ v1 ∧ v1 ≤ 30 by omega) (show 0 ≤ v2 ∧ v2 + 6 ≤ (v3 + 6) by omega) (show 0 ≤ (v1 + (F_X9_number (v3 + 1) st)) ∧ (v1 + (F_X9_number (v3 + 1) st)) ≤ 35 by omega) (show (v3 + 6) ≤ (st.1 11) ∧ (st.1 11) ≤ 300 by omega) (show 0 ≤ (0 : Int) ∧ (0 : Int) ≤ 999999 by omega) (by show 3 * (f_up _ _ _) _ ≤ _; rw [f_up_s]; omega) (by show 0 ≤ (f_up _ _ _) _; rw [f_up_s]; omega) (show (st.1 11) - (v3 + 6) < ((n : Nat) : Int) by omega) (show (st.1 11) - (v3 + 6) < ((Int.toNat ((st.1 11) - (v3 + 6)) + 1 : Nat) : Int) by omega) (fun z u e1 e2 r1 => hp z u (by rw [F_X9_rules_35, if_neg c25, if_neg c27, if_neg c29, if_pos c30, if_pos c32, if_neg c34, if_pos c36, if_neg c41, if_pos c44]; exact e1) (by rw [F_X9_rules_35, if_neg c25, if_neg c27, if_neg c29, if_pos c30, if_pos c32, if_neg c34, if_pos c36, if_neg c41, if_pos c44]; exact e2) r1)
                refine f_bipush C dX9_rules_186 (by decide) ?_
                refine f_iload_n C 3 dX9_rules_188 rfl rfl ?_
                refine f_isub C dX9_rules_189 ?_
                exact f_iret C hret hlk dX9_rules_190 ⟨by omega, by omega⟩ (hp _ _ (by rw [F_X9_rules_35, if_neg c25, if_neg c27, if_neg c29, if_pos c30, if_pos c32, if_neg c34, if_pos c36, if_neg c41, if_neg c44]) (by rw [F_X9_rules_35, if_neg c25, if_neg c27, if_neg c29, if_pos c30, if_pos c32, if_neg c34, if_pos c36, if_neg c41, if_neg c44]) (by omega))
              refine f_bipush C dX9_rules_157 (by decide) ?_
              refine f_iload_n C 3 dX9_rules_159 rfl rfl ?_
              refine f_isub C dX9_rules_160 ?_
              exact f_iret C hret hlk dX9_rules_161 ⟨by omega, by omega⟩ (hp _ _ (by rw [F_X9_rules_35, if_neg c25, if_neg c27, if_neg c29, if_pos c30, if_pos c32, if_neg c34, if_pos c36, if_pos c41]) (by rw [F_X9_rules_35, if_neg c25, if_neg c27, if_neg c29, if_pos c30, if_pos c32, if_neg c34, if_pos c36, if_pos c41]) (by omega))
            refine f_bipush C dX9_rules_142 (by decide) ?_
            refine f_iload_n C 3 dX9_rules_144 rfl rfl ?_
            refine f_isub C dX9_rules_145 ?_
            exact f_iret C hret hlk dX9_rules_146 ⟨by omega, by omega⟩ (hp _ _ (by rw [F_X9_rules_35, if_neg c25, if_neg c27, if_neg c29, if_pos c30, if_pos c32, if_neg c34, if_neg c36]) (by rw [F_X9_rules_35, if_neg c25, if_neg c27, if_neg c29, if_pos c30, if_pos c32, if_neg c34, if_neg c36]) (by omega))
          refine f_bipush C dX9_rules_113 (by decide) ?_
          refine f_iload_n C 3 dX9_rules_115 rfl rfl ?_
          refine f_isub C dX9_rules_116 ?_
          exact f_iret C hret hlk dX9_rules_117 ⟨by omega, by omega⟩ (hp _ _ (by rw [F_X9_rules_35, if_neg c25, if_neg c27, if_neg c29, if_pos c30, if_pos c32, if_pos c34]) (by rw [F_X9_rules_35, if_neg c25, if_neg c27, if_neg c29, if_pos c30, if_pos c32, if_pos c34]) (by omega))
        refine f_bipush C dX9_rules_92 (by decide) ?_
        refine f_iload_n C 3 dX9_rules_94 rfl rfl ?_
        refine f_isub C dX9_rules_95 ?_
        exact f_iret C hret hlk dX9_rules_96 ⟨by omega, by omega⟩ (hp _ _ (by rw [F_X9_rules_35, if_neg c25, if_neg c27, if_neg c29, if_pos c30, if_neg c32]) (by rw [F_X9_rules_35, if_neg c25, if_neg c27, if_neg c29, if_pos c30, if_neg c32]) (by omega))
      refine f_bipush C dX9_rules_75 (by decide) ?_
      refine f_iload_n C 3 dX9_rules_77 rfl rfl ?_
      refine f_isub C dX9_rules_78 ?_
      exact f_iret C hret hlk dX9_rules_79 ⟨by omega, by omega⟩ (hp _ _ (by rw [F_X9_rules_35, if_neg c25, if_neg c27, if_neg c29, if_neg c30]) (by rw [F_X9_rules_35, if_neg c25, if_neg c27, if_neg c29, if_neg c30]) (by omega))
    refine f_iconst C dX9_rules_51 ?_
    refine f_iload_n C 3 dX9_rules_52 rfl rfl ?_
    refine f_isub C dX9_rules_53 ?_
    exact f_iret C hret hlk dX9_rules_54 ⟨by omega, by omega⟩ (hp _ _ (by rw [F_X9_rules_35, if_neg c25, if_pos c27]) (by rw [F_X9_rules_35, if_neg c25, if_pos c27]) (by omega))
set_option maxRecDepth 100000 in
set_option maxHeartbeats 8000000 in
theorem v_X9_rules_10 {l : Launch} {D : va_G} {cI cJ cZ cB : ClassId} {b : Nat → Nat} {E : State → Prop} (hX : mHyp b E) (v1 : Int) (hv1 : in32 v1) {p : Program} {e : Env} {s : State} {m : MethodId} {args : Array Value} {below : List Frame} {meth : Method} {c : Code} (C : fC p m c cX9_rules 9 s args wsX9_rules yX9_rules.cls D (fTys cI cJ cZ cB) E (mA b)) (hret : meth.sig.returnType = (some .int)) (hlk : meth.locks = false) {post : Int → fS → Prop} : ∀ (n : Nat) (v2 : Int) (st : fS), in32 v2 → (0 ≤ v1 ∧ v1 ≤ 30) → (0 ≤ v2 ∧ v2 ≤ 6) → 6 - v2 < n → (∀ (z : Int) (u : fS), z = (F_X9_rules_10 v1 n v2 st).1 → u = (F_X9_rules_10 v1 n v2 st).2 → (-1000 ≤ z ∧ z ≤ 300) → post z u) → fV D (wM cI cJ cZ cB b) mOk (mA b) 9 p l e rm_X9_rules s m args below meth c 0 0 (fMQ below (fQi D (wM cI cJ cZ cB b) mOk (mA b) post) args s (mA b)) st 10 [(0, .ref (b 0)), (1, .int (zI v1)), (2, .int (zI v2))] [] := by
  have hin9 : ∀ w ∈ u_ws RX9 TX9 43, w ∈ wsX9_rules := by decide +kernel
  intro n
  induction n with
  | zero =>
    intro v2 st hv2 i0 i1 hm hp
    omega
  | succ n ih =>
    intro v2 st hv2 i0 i1 hm hp
    refine f_iload_n C 2 dX9_rules_10 rfl rfl ?_
    refine f_bipush C dX9_rules_11 (by decide) ?_
    refine f_icmp_ge C 31 ⟨by omega, by omega⟩ ⟨by decide, by decide⟩ dX9_rules_13 (by decide) (fun c47 => ?_) (fun c47 => ?_)
    · refine f_iconst C dX9_rules_31 ?_
      refine f_istore_n C 2 (lv' := [(2, .int (zI 0)), (0, .ref (b 0)), (1, .int (zI v1))]) dX9_rules_32 rfl (Nat.le_of_ble_eq_true rfl) rfl ?_
      refine f_iconst C dX9_rules_33 ?_
      refine f_istore_n C 3 (lv' := [(3, .int (zI 0)), (2, .int (zI 0)), (0, .ref (b 0)), (1, .int (zI v1))]) dX9_rules_34 rfl (Nat.le_of_ble_eq_true rfl) rfl ?_
      refine f_re (lv' := [(0, .ref (b 0)), (1, .int (zI v1)), (2, .int (zI 0)), (3, .int (zI 0))]) [2, 3, 1, 0] rfl ?_
      refine f_ok (fun hO48 => ?_)
      have k49 : 0 ≤ st.1 11 ∧ st.1 11 ≤ 300 := hO48.1 11
      exact v_X9_rules_35 hX v1 ⟨by omega, by omega⟩ C hret hlk (Int.toNat ((st.1 11) - (0 : Int)) + 1) 0 0 st ⟨by omega, by omega⟩ ⟨by omega, by omega⟩ (show 0 ≤ v1 ∧ v1 ≤ 30 by omega) (show 0 ≤ (0 : Int) ∧ (0 : Int) ≤ (0 : Int) by omega) (show (0 : Int) ≤ (st.1 11) ∧ (st.1 11) ≤ 300 by omega) (show (st.1 11) - (0 : Int) < ((Int.toNat ((st.1 11) - (0 : Int)) + 1 : Nat) : Int) by omega) (fun z u e1 e2 r1 => hp z u (by rw [F_X9_rules_10, if_pos c47]; exact e1) (by rw [F_X9_rules_10, if_pos c47]; exact e2) r1)
    refine f_aload_n C 0 dX9_rules_16 rfl rfl ?_
    refine f_get C hin9 0 17 rfl rfl (Nat.le_of_ble_eq_true rfl) (by decide +kernel) rfl rfl dX9_rules_17 ?_
    refine f_iload_n C 1 dX9_rules_20 rfl rfl ?_
    refine f_iload_n C 2 dX9_rules_21 rfl rfl ?_
    refine f_iadd C dX9_rules_22 ?_
    refine f_iconst C dX9_rules_23 ?_
    refine f_zast C (mD hX.1 cI cJ cZ cB) (u := sR st 17 (f_up (st.2 17) (v1 + v2) 0)) (f := st.2 17) 13 2 rfl rfl ⟨by omega, by omega⟩ (Nat.le_of_ble_eq_true rfl) (by omega) rfl (fun h => fOk_up h (r := 17) (show 0 ≤ (0 : Int) ∧ (0 : Int) ≤ 1 by omega)) dX9_rules_24 ?_
    refine f_iinc C (lv' := [(2, .int (zI (v2 + 1))), (0, .ref (b 0)), (1, .int (zI v1))]) 2 dX9_rules_25 rfl (Nat.le_of_ble_eq_true rfl) rfl ?_
    refine f_goto C 10 dX9_rules_28 (by decide) ?_
    refine f_re (lv' := [(0, .ref (b 0)), (1, .int (zI v1)), (2, .int (zI (v2 + 1)))]) [1, 2, 0] rfl ?_
    exact ih (v2 + 1) (sR st 17 (f_up (st.2 17) (v1 + v2) 0)) ⟨by omega, by omega⟩ (show 0 ≤ v1 ∧ v1 ≤ 30 by omega) (show 0 ≤ (v2 + 1) ∧ (v2 + 1) ≤ 6 by omega) (show 6 - (v2 + 1) < ((n : Nat) : Int) by omega) (fun z u e1 e2 r1 => hp z u (by rw [F_X9_rules_10, if_neg c47]; exact e1) (by rw [F_X9_rules_10, if_neg c47]; exact e2) r1)
set_option maxRecDepth 100000 in
set_option maxHeartbeats 8000000 in
theorem c_X9_rules {l : Launch} {D : va_G} {cI cJ cZ cB : ClassId} {b : Nat → Nat} {E : State → Prop} (hX : mHyp b E)   (st : fS) (q14 : st.1 14 ≤ 5) : mMi l D cI cJ cZ cB b E yX9_rules wsX9_rules rm_X9_rules [.ref (b 0)] st (fun z u => z = (F_X9_rules st).1 ∧ u = (F_X9_rules st).2 ∧ (-1000 ≤ z ∧ z ≤ 300)) := by
  refine fB_open (cc := cX9_rules) (maxL := 9) (ret := (some .int)) (by decide) rfl (Nat.le_of_ble_eq_true rfl) hX.2 ?_
  intro p e s m below meth c C hret hlk
  have hin9 : ∀ w ∈ u_ws RX9 TX9 43, w ∈ wsX9_rules := by decide +kernel
  have hp : ∀ (z : Int) (u : fS), z = (F_X9_rules st).1 → u = (F_X9_rules st).2 → (-1000 ≤ z ∧ z ≤ 300) → z = (F_X9_rules st).1 ∧ u = (F_X9_rules st).2 ∧ (-1000 ≤ z ∧ z ≤ 300) := fun z u h1 h2 r1 => ⟨h1, h2, r1⟩
  refine f_bipush C dX9_rules_0 (by decide) ?_
  refine f_aload_n C 0 dX9_rules_2 rfl rfl ?_
  refine f_ok (fun hO50 => ?_)
  have k51 : 0 ≤ st.1 14 ∧ st.1 14 ≤ 6 := hO50.1 14
  refine f_get C (v := .int (zI (st.1 14))) hin9 0 14 rfl rfl (Nat.le_of_ble_eq_true rfl) (by decide +kernel) rfl rfl dX9_rules_3 ?_
  refine f_imul C dX9_rules_6 ?_
  refine f_istore_n C 1 (lv' := [(1, .int (zI (6 * (st.1 14)))), (0, .ref (b 0))]) dX9_rules_7 rfl (Nat.le_of_ble_eq_true rfl) rfl ?_
  refine f_iconst C dX9_rules_8 ?_
  refine f_istore_n C 2 (lv' := [(2, .int (zI 0)), (1, .int (zI (6 * (st.1 14)))), (0, .ref (b 0))]) dX9_rules_9 rfl (Nat.le_of_ble_eq_true rfl) rfl ?_
  refine f_re (lv' := [(0, .ref (b 0)), (1, .int (zI (6 * (st.1 14)))), (2, .int (zI 0))]) [2, 1, 0] rfl ?_
  exact v_X9_rules_10 hX (6 * (st.1 14)) ⟨by omega, by omega⟩ C hret hlk (Int.toNat (6 - (0 : Int)) + 1) 0 st ⟨by omega, by omega⟩ (show 0 ≤ (6 * (st.1 14)) ∧ (6 * (st.1 14)) ≤ 30 by omega) (show 0 ≤ (0 : Int) ∧ (0 : Int) ≤ 6 by omega) (show 6 - (0 : Int) < ((Int.toNat (6 - (0 : Int)) + 1 : Nat) : Int) by omega) (fun z u e1 e2 r1 => hp z u (by rw [F_X9_rules]; exact e1) (by rw [F_X9_rules]; exact e2) r1)

theorem mrules213_n {s1 : Nat → Int} (v1 v2 v5 : Int) (K : Int → Int → fS → Int × fS) (hK : ∀ (a b : Int) (u : fS), u.1 = s1 → (K a b u).2.1 = s1) : ∀ (n : Nat) (v3 v6 : Int) (st : fS), st.1 = s1 → (F_X9_rules_213 v1 v2 v5 K n v3 v6 st).2.1 = s1 := by
  intro n
  induction n with
  | zero => intro v3 v6 st hs; rw [F_X9_rules_213]; exact hs
  | succ n ih =>
    intro v3 v6 st hs
    rw [F_X9_rules_213]
    repeat' split
    all_goals first | exact hs | exact hK _ _ _ hs | exact ih _ _ _ hs
theorem mrules35_n {s1 : Nat → Int} (v1 : Int) : ∀ (n : Nat) (v2 v3 : Int) (st : fS), st.1 = s1 → (F_X9_rules_35 v1 n v2 v3 st).2.1 = s1 := by
  intro n
  induction n with
  | zero => intro v2 v3 st hs; rw [F_X9_rules_35]; exact hs
  | succ n ih =>
    intro v2 v3 st hs
    rw [F_X9_rules_35]
    repeat' split
    all_goals first | exact hs | exact mrules213_n _ _ _ _ (fun a b u hu => ih a b u hu) _ _ _ _ hs
theorem mrules10_n {s1 : Nat → Int} (v1 : Int) : ∀ (n : Nat) (v2 : Int) (st : fS), st.1 = s1 → (F_X9_rules_10 v1 n v2 st).2.1 = s1 := by
  intro n
  induction n with
  | zero => intro v2 st hs; rw [F_X9_rules_10]; exact hs
  | succ n ih =>
    intro v2 st hs
    rw [F_X9_rules_10]
    repeat' split
    all_goals first | exact mrules35_n _ _ _ _ _ hs | exact ih _ _ hs
theorem mrules_n (st : fS) : (F_X9_rules st).2.1 = st.1 := by
  rw [F_X9_rules]
  exact mrules10_n _ _ _ _ rfl
theorem mwords9_n {k : Nat} (h : k ≠ 11) : ∀ (n : Nat) (v1 v2 : Int) (st : fS), (F_X9_findWords_9 n v1 v2 st).1 k = st.1 k := by
  intro n
  induction n with
  | zero => intro v1 v2 st; rw [F_X9_findWords_9]
  | succ n ih =>
    intro v1 v2 st
    rw [F_X9_findWords_9]
    repeat' split
    all_goals first | rfl | (rw [ih]; done) | (rw [ih]; rfl) | (rw [ih]; simp only [sR_1, sN_1n _ _ h])
theorem mwords_n (st : fS) {k : Nat} (h : k ≠ 11) : (F_X9_findWords st).1 k = st.1 k := by
  rw [F_X9_findWords, mwords9_n h, sN_1n _ _ h]

def F_X9_read (p1 p3 : Int) (st : fS) : Int × fS := if (F_X9_isDay p1 (sN (F_X9_findWords st) 9 0)) = 0 then ((-1000), sN (F_X9_findWords st) 9 0) else (if (F_X9_isDay p3 (sN (F_X9_findWords st) 9 0)) = 0 then ((-1000), sN (F_X9_findWords st) 9 0) else (if ((F_X9_findWords st).1 14) = 6 then ((-1000), sN (F_X9_findWords st) 9 0) else (if 0 ≤ ((F_X9_rules (sN (F_X9_findWords st) 9 0)).1) then ((F_X9_rules (sN (F_X9_findWords st) 9 0)).1, sN (sR (sR ((F_X9_rules (sN (F_X9_findWords st) 9 0)).2) 15 (f_up (((F_X9_rules (sN (F_X9_findWords st) 9 0)).2).2 15) (((F_X9_rules (sN (F_X9_findWords st) 9 0)).2).1 14) p1)) 16 (f_up (((F_X9_rules (sN (F_X9_findWords st) 9 0)).2).2 16) (((F_X9_rules (sN (F_X9_findWords st) 9 0)).2).1 14) p3)) 14 ((((F_X9_rules (sN (F_X9_findWords st) 9 0)).2).1 14) + 1)) else ((F_X9_rules (sN (F_X9_findWords st) 9 0)).1, (F_X9_rules (sN (F_X9_findWords st) 9 0)).2))))
abbrev rm_X9_read : Room := { frames := 3, cells := 0, slots := 0, locals := 78 }
set_option maxRecDepth 100000 in
set_option maxHeartbeats 8000000 in
theorem c_X9_read {l : Launch} {D : va_G} {cI cJ cZ cB : ClassId} {b : Nat → Nat} {E : State → Prop} (hX : mHyp b E) (p1 p3 : Int) (h1 : in64 p1) (h3 : in64 p3) (st : fS)  : mMi l D cI cJ cZ cB b E yX9_read wsX9_read rm_X9_read [.ref (b 0), .long (zJ p1), .long (zJ p3)] st (fun z u => z = (F_X9_read p1 p3 st).1 ∧ u = (F_X9_read p1 p3 st).2) := by
  refine fB_open (cc := cX9_read) (maxL := 6) (ret := (some .int)) (by decide) rfl (Nat.le_of_ble_eq_true rfl) hX.2 ?_
  intro p e s m below meth c C hret hlk
  have hin9 : ∀ w ∈ u_ws RX9 TX9 43, w ∈ wsX9_read := by decide +kernel
  have hp : ∀ (z : Int) (u : fS), z = (F_X9_read p1 p3 st).1 → u = (F_X9_read p1 p3 st).2 → z = (F_X9_read p1 p3 st).1 ∧ u = (F_X9_read p1 p3 st).2 := fun z u h1 h2 => ⟨h1, h2⟩
  refine f_aload_n C 0 dX9_read_0 rfl rfl ?_
  refine f_callv C (c_X9_findWords hX st) (cwV 0 C.1.2.2.2.2 gX9_read_X9_findWords rfl rfl rfl (by decide +kernel) ⟨Nat.le_of_ble_eq_true rfl, Nat.le_of_ble_eq_true rfl⟩) 0 rfl rfl rfl rfl rfl (Nat.le_of_ble_eq_true rfl) ⟨Nat.zero_le _, Nat.zero_le _⟩ dX9_read_1 (fun u hu => ?_)
  replace hu := hu.symm; subst hu
  have k2 : (F_X9_findWords st).1 14 = st.1 14 := mwords_n st (by decide)
  refine f_aload_n C 0 dX9_read_4 rfl rfl ?_
  refine f_iconst C dX9_read_5 ?_
  refine f_put C (mD hX.1 cI cJ cZ cB) hin9 tyX9 tyX9_ok nmX9 0 9 rfl rfl (Nat.le_of_ble_eq_true rfl) (by decide +kernel) rfl rfl (ty := .int) (by decide +kernel) rfl rfl (Nat.le_of_ble_eq_true rfl) (u := sN (F_X9_findWords st) 9 0) rfl (fun h => fOk_N h (show 0 ≤ (0 : Int) ∧ (0 : Int) ≤ 600 by omega)) dX9_read_6 ?_
  refine f_lload_n C 1 dX9_read_9 rfl rfl ?_
  refine f_callsi C (c_X9_isDay hX p1 ⟨by omega, by omega⟩ (sN (F_X9_findWords st) 9 0)) (va_cwS 1 C.1.2.2.2.2 gX9_read_X9_isDay rfl rfl rfl (by decide +kernel) ⟨Nat.le_of_ble_eq_true rfl, Nat.le_of_ble_eq_true rfl⟩) rfl rfl (Nat.le_of_ble_eq_true rfl) ⟨Nat.zero_le _, Nat.zero_le _⟩ dX9_read_10 (fun z u hz3 hu => ?_)
  obtain ⟨qz3, hu, rz3⟩ := hu; replace hu := hu.symm; subst hu; subst qz3
  refine f_if_eq C 32 ⟨by omega, by omega⟩ dX9_read_13 (by decide) (fun c4 => ?_) (fun c4 => ?_)
  · refine f_sipush C dX9_read_32 (by decide) ?_
    exact f_iret C hret hlk dX9_read_35 ⟨by decide, by decide⟩ (hp _ _ (by rw [F_X9_read, if_pos c4]) (by rw [F_X9_read, if_pos c4]))
  refine f_lload_n C 3 dX9_read_16 rfl rfl ?_
  refine f_callsi C (c_X9_isDay hX p3 ⟨by omega, by omega⟩ (sN (F_X9_findWords st) 9 0)) (va_cwS 1 C.1.2.2.2.2 gX9_read_X9_isDay rfl rfl rfl (by decide +kernel) ⟨Nat.le_of_ble_eq_true rfl, Nat.le_of_ble_eq_true rfl⟩) rfl rfl (Nat.le_of_ble_eq_true rfl) ⟨Nat.zero_le _, Nat.zero_le _⟩ dX9_read_17 (fun z u hz5 hu => ?_)
  obtain ⟨qz5, hu, rz5⟩ := hu; replace hu := hu.symm; subst hu; subst qz5
  refine f_if_eq C 32 ⟨by omega, by omega⟩ dX9_read_20 (by decide) (fun c6 => ?_) (fun c6 => ?_)
  · refine f_sipush C dX9_read_32 (by decide) ?_
    exact f_iret C hret hlk dX9_read_35 ⟨by decide, by decide⟩ (hp _ _ (by rw [F_X9_read, if_neg c4, if_pos c6]) (by rw [F_X9_read, if_neg c4, if_pos c6]))
  refine f_aload_n C 0 dX9_read_23 rfl rfl ?_
  refine f_ok (fun hO7 => ?_)
  have k8 : 0 ≤ (F_X9_findWords st).1 14 ∧ (F_X9_findWords st).1 14 ≤ 6 := hO7.1 14
  refine f_get C (v := .int (zI ((F_X9_findWords st).1 14))) hin9 0 14 rfl rfl (Nat.le_of_ble_eq_true rfl) (by decide +kernel) rfl rfl dX9_read_24 ?_
  refine f_bipush C dX9_read_27 (by decide) ?_
  refine f_icmp_ne C 36 ⟨by omega, by omega⟩ ⟨by decide, by decide⟩ dX9_read_29 (by decide) (fun c9 => ?_) (fun c9 => ?_)
  · refine f_aload_n C 0 dX9_read_36 rfl rfl ?_
    refine f_calli C (c_X9_rules hX (sN (F_X9_findWords st) 9 0) (show ((F_X9_findWords st).1 14) ≤ 5 by omega)) (cwV 0 C.1.2.2.2.2 gX9_read_X9_rules rfl rfl rfl (by decide +kernel) ⟨Nat.le_of_ble_eq_true rfl, Nat.le_of_ble_eq_true rfl⟩) 0 rfl rfl rfl rfl rfl (Nat.le_of_ble_eq_true rfl) ⟨Nat.zero_le _, Nat.zero_le _⟩ dX9_read_37 (fun z u hz10 hu => ?_)
    obtain ⟨qz10, hu, rz10⟩ := hu; replace hu := hu.symm; subst hu; subst qz10
    have k11 : ((F_X9_rules (sN (F_X9_findWords st) 9 0)).2).1 14 = (F_X9_findWords st).1 14 := congrFun (mrules_n (sN (F_X9_findWords st) 9 0)) 14
    refine f_istore C (lv' := [(5, .int (zI ((F_X9_rules (sN (F_X9_findWords st) 9 0)).1))), (0, .ref (b 0)), (1, .long (zJ p1)), (3, .long (zJ p3))]) dX9_read_40 (Nat.le_of_ble_eq_true rfl) rfl ?_
    refine f_iload C 5 dX9_read_42 rfl ?_
    refine f_if_ge C 50 ⟨by omega, by omega⟩ dX9_read_44 (by decide) (fun c12 => ?_) (fun c12 => ?_)
    · refine f_aload_n C 0 dX9_read_50 rfl rfl ?_
      refine f_get C hin9 0 15 rfl rfl (Nat.le_of_ble_eq_true rfl) (by decide +kernel) rfl rfl dX9_read_51 ?_
      refine f_aload_n C 0 dX9_read_54 rfl rfl ?_
      refine f_ok (fun hO13 => ?_)
      have k14 : 0 ≤ ((F_X9_rules (sN (F_X9_findWords st) 9 0)).2).1 14 ∧ ((F_X9_rules (sN (F_X9_findWords st) 9 0)).2).1 14 ≤ 6 := hO13.1 14
      refine f_get C (v := .int (zI (((F_X9_rules (sN (F_X9_findWords st) 9 0)).2).1 14))) hin9 0 14 rfl rfl (Nat.le_of_ble_eq_true rfl) (by decide +kernel) rfl rfl dX9_read_55 ?_
      refine f_lload_n C 1 dX9_read_58 rfl rfl ?_
      refine f_l2i C dX9_read_59 ?_
      refine f_iast C (mD hX.1 cI cJ cZ cB) (u := sR ((F_X9_rules (sN (F_X9_findWords st) 9 0)).2) 15 (f_up (((F_X9_rules (sN (F_X9_findWords st) 9 0)).2).2 15) (((F_X9_rules (sN (F_X9_findWords st) 9 0)).2).1 14) p1)) (f := ((F_X9_rules (sN (F_X9_findWords st) 9 0)).2).2 15) 11 0 rfl rfl ⟨by omega, by omega⟩ (Nat.le_of_ble_eq_true rfl) rfl (fun h => fOk_up h (r := 15) (show 0 ≤ p1 ∧ p1 ≤ 3599 by omega)) dX9_read_60 ?_
      refine f_aload_n C 0 dX9_read_61 rfl rfl ?_
      refine f_get C hin9 0 16 rfl rfl (Nat.le_of_ble_eq_true rfl) (by decide +kernel) rfl rfl dX9_read_62 ?_
      refine f_aload_n C 0 dX9_read_65 rfl rfl ?_
      refine f_ok (fun hO15 => ?_)
      have k16 : 0 ≤ ((F_X9_rules (sN (F_X9_findWords st) 9 0)).2).1 14 ∧ ((F_X9_rules (sN (F_X9_findWords st) 9 0)).2).1 14 ≤ 6 := hO15.1 14
      refine f_get C (v := .int (zI (((F_X9_rules (sN (F_X9_findWords st) 9 0)).2).1 14))) hin9 0 14 rfl rfl (Nat.le_of_ble_eq_true rfl) (by decide +kernel) rfl rfl dX9_read_66 ?_
      refine f_lload_n C 3 dX9_read_69 rfl rfl ?_
      refine f_l2i C dX9_read_70 ?_
      refine f_iast C (mD hX.1 cI cJ cZ cB) (u := sR (sR ((F_X9_rules (sN (F_X9_findWords st) 9 0)).2) 15 (f_up (((F_X9_rules (sN (F_X9_findWords st) 9 0)).2).2 15) (((F_X9_rules (sN (F_X9_findWords st) 9 0)).2).1 14) p1)) 16 (f_up (((F_X9_rules (sN (F_X9_findWords st) 9 0)).2).2 16) (((F_X9_rules (sN (F_X9_findWords st) 9 0)).2).1 14) p3)) (f := ((F_X9_rules (sN (F_X9_findWords st) 9 0)).2).2 16) 12 0 rfl rfl ⟨by omega, by omega⟩ (Nat.le_of_ble_eq_true rfl) rfl (fun h => fOk_up h (r := 16) (show 0 ≤ p3 ∧ p3 ≤ 3599 by omega)) dX9_read_71 ?_
      refine f_aload_n C 0 dX9_read_72 rfl rfl ?_
      refine f_dup C dX9_read_73 rfl ?_
      refine f_ok (fun hO17 => ?_)
      have k18 : 0 ≤ ((F_X9_rules (sN (F_X9_findWords st) 9 0)).2).1 14 ∧ ((F_X9_rules (sN (F_X9_findWords st) 9 0)).2).1 14 ≤ 6 := hO17.1 14
      refine f_get C (v := .int (zI (((F_X9_rules (sN (F_X9_findWords st) 9 0)).2).1 14))) hin9 0 14 rfl rfl (Nat.le_of_ble_eq_true rfl) (by decide +kernel) rfl rfl dX9_read_74 ?_
      refine f_iconst C dX9_read_77 ?_
      refine f_iadd C dX9_read_78 ?_
      refine f_put C (mD hX.1 cI cJ cZ cB) hin9 tyX9 tyX9_ok nmX9 0 14 rfl rfl (Nat.le_of_ble_eq_true rfl) (by decide +kernel) rfl rfl (ty := .int) (by decide +kernel) rfl rfl (Nat.le_of_ble_eq_true rfl) (u := sN (sR (sR ((F_X9_rules (sN (F_X9_findWords st) 9 0)).2) 15 (f_up (((F_X9_rules (sN (F_X9_findWords st) 9 0)).2).2 15) (((F_X9_rules (sN (F_X9_findWords st) 9 0)).2).1 14) p1)) 16 (f_up (((F_X9_rules (sN (F_X9_findWords st) 9 0)).2).2 16) (((F_X9_rules (sN (F_X9_findWords st) 9 0)).2).1 14) p3)) 14 ((((F_X9_rules (sN (F_X9_findWords st) 9 0)).2).1 14) + 1)) rfl (fun h => fOk_N h (show 0 ≤ ((((F_X9_rules (sN (F_X9_findWords st) 9 0)).2).1 14) + 1) ∧ ((((F_X9_rules (sN (F_X9_findWords st) 9 0)).2).1 14) + 1) ≤ 6 by omega)) dX9_read_79 ?_
      refine f_iload C 5 dX9_read_82 rfl ?_
      exact f_iret C hret hlk dX9_read_84 ⟨by omega, by omega⟩ (hp _ _ (by rw [F_X9_read, if_neg c4, if_neg c6, if_neg c9, if_pos c12]) (by rw [F_X9_read, if_neg c4, if_neg c6, if_neg c9, if_pos c12]))
    refine f_iload C 5 dX9_read_47 rfl ?_
    exact f_iret C hret hlk dX9_read_49 ⟨by omega, by omega⟩ (hp _ _ (by rw [F_X9_read, if_neg c4, if_neg c6, if_neg c9, if_neg c12]) (by rw [F_X9_read, if_neg c4, if_neg c6, if_neg c9, if_neg c12]))
  refine f_sipush C dX9_read_32 (by decide) ?_
  exact f_iret C hret hlk dX9_read_35 ⟨by decide, by decide⟩ (hp _ _ (by rw [F_X9_read, if_neg c4, if_neg c6, if_pos c9]) (by rw [F_X9_read, if_neg c4, if_neg c6, if_pos c9]))
