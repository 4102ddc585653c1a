/-! ===== PART 43: the reference, lines and bills (laid by program) ===== -/
/-- the steps of the reference's editions rise, its prices are numbers -/
def mSteps (st : fS) : Prop := ∀ c : Int, 0 ≤ c → c < 6 * st.1 14 → st.2 17 c ≠ 0 → (0 ≤ st.2 18 c ∧ 0 ≤ st.2 19 c) ∧ ∀ i : Int, 0 ≤ i → i < st.2 21 c → 0 < st.2 22 (100 * c + i) ∧ (0 < i → st.2 22 (100 * c + i - 1) < st.2 22 (100 * c + i))
theorem mSteps_keep {st u : fS} (h : mSteps st) (h6 : u.1 14 = st.1 14) (h17 : u.2 17 = st.2 17) (h18 : u.2 18 = st.2 18) (h19 : u.2 19 = st.2 19) (h21 : u.2 21 = st.2 21) (h22 : u.2 22 = st.2 22) : mSteps u := by
  unfold mSteps
  rw [h6, h17, h18, h19, h21, h22]
  exact h

def F_X9_feeOf_16 (v1 v2 : Int) : Nat → Int → Int → Int → Int → fS → Int
  | 0, _, _, _, _, _ => 0
  | n + 1, v3, v5, v6, v7, st => if (st.2 21 v1) ≤ v7 then (if (st.2 20 v1) < 0 then (v3 + ((v2 - v5) * v6)) / (st.2 18 v1) else (if ((v3 + ((v2 - v5) * v6)) / (st.2 18 v1)) ≤ (st.2 20 v1) then (v3 + ((v2 - v5) * v6)) / (st.2 18 v1) else st.2 20 v1)) else (if v2 ≤ v5 then (if (st.2 20 v1) < 0 then (v3 + ((v2 - v5) * v6)) / (st.2 18 v1) else (if ((v3 + ((v2 - v5) * v6)) / (st.2 18 v1)) ≤ (st.2 20 v1) then (v3 + ((v2 - v5) * v6)) / (st.2 18 v1) else st.2 20 v1)) else (if v2 ≤ (st.2 22 ((100 * v1) + v7)) then F_X9_feeOf_16 v1 v2 (n) (v3 + ((v2 - v5) * v6)) v2 (st.2 23 ((100 * v1) + v7)) (v7 + 1) st else F_X9_feeOf_16 v1 v2 (n) (v3 + (((st.2 22 ((100 * v1) + v7)) - v5) * v6)) (st.2 22 ((100 * v1) + v7)) (st.2 23 ((100 * v1) + v7)) (v7 + 1) st))

def F_X9_feeOf (p1 p2 : Int) (st : fS) : Int := F_X9_feeOf_16 p1 p2 (Int.toNat ((st.2 21) p1 - (0 : Int)) + 1) 0 0 (st.2 19 p1) 0 st
abbrev rm_X9_feeOf : Room := { frames := 0, cells := 0, slots := 0, locals := 0 }
set_option maxRecDepth 100000 in
set_option maxHeartbeats 8000000 in
theorem v_X9_feeOf_16 {l : Launch} {D : va_G} {cI cJ cZ cB : ClassId} {b : Nat → Nat} {E : State → Prop} (hX : mHyp b E) (v1 v2 : Int) (hv1 : in32 v1) (hv2 : in32 v2) {p : Program} {e : Env} {s : State} {m : MethodId} {args : Array Value} {below : List Frame} {meth : Method} {c : Code} (C : fC p m c cX9_feeOf 9 s args wsX9_feeOf yX9_feeOf.cls D (fTys cI cJ cZ cB) E (mA b)) (hret : meth.sig.returnType = (some .long)) (hlk : meth.locks = false) {post : Int → fS → Prop} : ∀ (n : Nat) (v3 v5 v6 v7 : Int) (st : fS), in64 v3 → in32 v5 → in32 v6 → in32 v7 → (0 ≤ v1 ∧ v1 ≤ 35) → (0 ≤ v2 ∧ v2 ≤ 1000000) → (0 ≤ v7 ∧ v7 ≤ st.2 21 v1) → (0 ≤ v5 ∧ v5 ≤ v2) → (0 ≤ v3 ∧ v3 ≤ v5 * 999999) → (0 ≤ v6 ∧ v6 ≤ 999999) → ((v7 = 0 ∧ v5 = 0) ∨ (0 < v7 ∧ (v5 = v2 ∨ v5 = st.2 22 (100 * v1 + v7 - 1)))) → (0 < st.2 18 v1) → (0 ≤ st.2 21 v1 ∧ st.2 21 v1 ≤ 100) → (∀ i : Int, 0 ≤ i → i < st.2 21 v1 → 0 < st.2 22 (100 * v1 + i) ∧ (0 < i → st.2 22 (100 * v1 + i - 1) < st.2 22 (100 * v1 + i))) → st.2 21 v1 - v7 < n → (∀ z : Int, z = F_X9_feeOf_16 v1 v2 n v3 v5 v6 v7 st → (0 ≤ z ∧ z ≤ 999999000000) → post z st) → fV D (wM cI cJ cZ cB b) mOk (mA b) 9 p l e rm_X9_feeOf s m args below meth c 0 0 (fMQ below (fQl D (wM cI cJ cZ cB b) mOk (mA b) post) args s (mA b)) st 16 [(0, .ref (b 0)), (1, .int (zI v1)), (2, .int (zI v2)), (3, .long (zJ v3)), (5, .int (zI v5)), (6, .int (zI v6)), (7, .int (zI v7))] [] := by
  have hin9 : ∀ w ∈ u_ws RX9 TX9 43, w ∈ wsX9_feeOf := by decide +kernel
  intro n
  induction n with
  | zero =>
    intro v3 v5 v6 v7 st hv3 hv5 hv6 hv7 i0 i1 i2 i3 i4 i5 i6 i7 i8 i9 hm hp
    omega
  | succ n ih =>
    intro v3 v5 v6 v7 st hv3 hv5 hv6 hv7 i0 i1 i2 i3 i4 i5 i6 i7 i8 i9 hm hp
    have hs := i9
    refine f_iload C 7 dX9_feeOf_16 rfl ?_
    refine f_aload_n C 0 dX9_feeOf_18 rfl rfl ?_
    refine f_get C hin9 0 21 rfl rfl (Nat.le_of_ble_eq_true rfl) (by decide +kernel) rfl rfl dX9_feeOf_19 ?_
    refine f_iload_n C 1 dX9_feeOf_22 rfl rfl ?_
    refine f_iald C (f := st.2 21) 17 0 rfl rfl ⟨by omega, by omega⟩ (Nat.le_of_ble_eq_true rfl) dX9_feeOf_23 ?_
    refine f_ok (fun hO1 => ?_)
    have k2 : 0 ≤ st.2 21 v1 ∧ st.2 21 v1 ≤ 100 := hO1.2 21 v1
    refine f_icmp_ge C 104 ⟨by omega, by omega⟩ ⟨by omega, by omega⟩ dX9_feeOf_24 (by decide) (fun c3 => ?_) (fun c3 => ?_)
    · refine f_lload_n C 3 dX9_feeOf_104 rfl rfl ?_
      refine f_iload_n C 2 dX9_feeOf_105 rfl rfl ?_
      refine f_iload C 5 dX9_feeOf_106 rfl ?_
      refine f_isub C dX9_feeOf_108 ?_
      refine f_i2l C ⟨by omega, by omega⟩ dX9_feeOf_109 ?_
      refine f_iload C 6 dX9_feeOf_110 rfl ?_
      refine f_i2l C ⟨by omega, by omega⟩ dX9_feeOf_112 ?_
      refine f_lmul C dX9_feeOf_113 ?_
      have k4 := mulle (v2 - v5) v6 (B := 999999) (by omega) ⟨by omega, by omega⟩
      refine f_ladd C dX9_feeOf_114 ?_
      refine f_lstore_n C 3 (lv' := [(3, .long (zJ (v3 + ((v2 - v5) * v6)))), (0, .ref (b 0)), (1, .int (zI v1)), (2, .int (zI v2)), (5, .int (zI v5)), (6, .int (zI v6)), (7, .int (zI v7))]) dX9_feeOf_115 rfl (Nat.le_of_ble_eq_true rfl) rfl ?_
      refine f_lload_n C 3 dX9_feeOf_116 rfl rfl ?_
      refine f_aload_n C 0 dX9_feeOf_117 rfl rfl ?_
      refine f_get C hin9 0 18 rfl rfl (Nat.le_of_ble_eq_true rfl) (by decide +kernel) rfl rfl dX9_feeOf_118 ?_
      refine f_iload_n C 1 dX9_feeOf_121 rfl rfl ?_
      refine f_iald C (f := st.2 18) 14 0 rfl rfl ⟨by omega, by omega⟩ (Nat.le_of_ble_eq_true rfl) dX9_feeOf_122 ?_
      have k5 : (-1) ≤ st.2 18 v1 ∧ st.2 18 v1 ≤ 999999 := hO1.2 18 v1
      refine f_i2l C ⟨by omega, by omega⟩ dX9_feeOf_123 ?_
      refine f_ldiv C ⟨by omega, by omega⟩ ⟨by omega, by omega⟩ dX9_feeOf_124 ?_
      have k6 := edivb (v3 + ((v2 - v5) * v6)) (st.2 18 v1) (by omega) (by omega)
      refine f_lstore C (lv' := [(7, .long (zJ ((v3 + ((v2 - v5) * v6)) / (st.2 18 v1)))), (3, .long (zJ (v3 + ((v2 - v5) * v6)))), (0, .ref (b 0)), (1, .int (zI v1)), (2, .int (zI v2)), (5, .int (zI v5)), (6, .int (zI v6))]) dX9_feeOf_125 (Nat.le_of_ble_eq_true rfl) rfl ?_
      refine f_aload_n C 0 dX9_feeOf_127 rfl rfl ?_
      refine f_get C hin9 0 20 rfl rfl (Nat.le_of_ble_eq_true rfl) (by decide +kernel) rfl rfl dX9_feeOf_128 ?_
      refine f_iload_n C 1 dX9_feeOf_131 rfl rfl ?_
      refine f_iald C (f := st.2 20) 16 0 rfl rfl ⟨by omega, by omega⟩ (Nat.le_of_ble_eq_true rfl) dX9_feeOf_132 ?_
      have k7 : (-1) ≤ st.2 20 v1 ∧ st.2 20 v1 ≤ 999999 := hO1.2 20 v1
      refine f_if_lt C 159 ⟨by omega, by omega⟩ dX9_feeOf_133 (by decide) (fun c8 => ?_) (fun c8 => ?_)
      · refine f_lload C 7 dX9_feeOf_159 rfl ?_
        exact f_lret C hret hlk dX9_feeOf_161 ⟨by omega, by omega⟩ (hp _ (by rw [F_X9_feeOf_16, if_pos c3, if_pos c8]) (by omega))
      refine f_lload C 7 dX9_feeOf_136 rfl ?_
      refine f_aload_n C 0 dX9_feeOf_138 rfl rfl ?_
      refine f_get C hin9 0 20 rfl rfl (Nat.le_of_ble_eq_true rfl) (by decide +kernel) rfl rfl dX9_feeOf_139 ?_
      refine f_iload_n C 1 dX9_feeOf_142 rfl rfl ?_
      refine f_iald C (f := st.2 20) 16 0 rfl rfl ⟨by omega, by omega⟩ (Nat.le_of_ble_eq_true rfl) dX9_feeOf_143 ?_
      refine f_i2l C ⟨by omega, by omega⟩ dX9_feeOf_144 ?_
      refine f_lc_if_le C 159 ⟨by omega, by omega⟩ ⟨by omega, by omega⟩ dX9_feeOf_145 dX9_feeOf_146 (by decide) (fun c9 => ?_) (fun c9 => ?_)
      · refine f_lload C 7 dX9_feeOf_159 rfl ?_
        exact f_lret C hret hlk dX9_feeOf_161 ⟨by omega, by omega⟩ (hp _ (by rw [F_X9_feeOf_16, if_pos c3, if_neg c8, if_pos c9]) (by omega))
      refine f_aload_n C 0 dX9_feeOf_149 rfl rfl ?_
      refine f_get C hin9 0 20 rfl rfl (Nat.le_of_ble_eq_true rfl) (by decide +kernel) rfl rfl dX9_feeOf_150 ?_
      refine f_iload_n C 1 dX9_feeOf_153 rfl rfl ?_
      refine f_iald C (f := st.2 20) 16 0 rfl rfl ⟨by omega, by omega⟩ (Nat.le_of_ble_eq_true rfl) dX9_feeOf_154 ?_
      refine f_i2l C ⟨by omega, by omega⟩ dX9_feeOf_155 ?_
      refine f_goto C 161 dX9_feeOf_156 (by decide) ?_
      exact f_lret C hret hlk dX9_feeOf_161 ⟨by omega, by omega⟩ (hp _ (by rw [F_X9_feeOf_16, if_pos c3, if_neg c8, if_neg c9]) (by omega))
    refine f_iload C 5 dX9_feeOf_27 rfl ?_
    refine f_iload_n C 2 dX9_feeOf_29 rfl rfl ?_
    refine f_icmp_ge C 104 ⟨by omega, by omega⟩ ⟨by omega, by omega⟩ dX9_feeOf_30 (by decide) (fun c10 => ?_) (fun c10 => ?_)
    · refine f_lload_n C 3 dX9_feeOf_104 rfl rfl ?_
      refine f_iload_n C 2 dX9_feeOf_105 rfl rfl ?_
      refine f_iload C 5 dX9_feeOf_106 rfl ?_
      refine f_isub C dX9_feeOf_108 ?_
      refine f_i2l C ⟨by omega, by omega⟩ dX9_feeOf_109 ?_
      refine f_iload C 6 dX9_feeOf_110 rfl ?_
      refine f_i2l C ⟨by omega, by omega⟩ dX9_feeOf_112 ?_
      refine f_lmul C dX9_feeOf_113 ?_
      have k11 := mulle (v2 - v5) v6 (B := 999999) (by omega) ⟨by omega, by omega⟩
      refine f_ladd C dX9_feeOf_114 ?_
      refine f_lstore_n C 3 (lv' := [(3, .long (zJ (v3 + ((v2 - v5) * v6)))), (0, .ref (b 0)), (1, .int (zI v1)), (2, .int (zI v2)), (5, .int (zI v5)), (6, .int (zI v6)), (7, .int (zI v7))]) dX9_feeOf_115 rfl (Nat.le_of_ble_eq_true rfl) rfl ?_
      refine f_lload_n C 3 dX9_feeOf_116 rfl rfl ?_
      refine f_aload_n C 0 dX9_feeOf_117 rfl rfl ?_
      refine f_get C hin9 0 18 rfl rfl (Nat.le_of_ble_eq_true rfl) (by decide +kernel) rfl rfl dX9_feeOf_118 ?_
      refine f_iload_n C 1 dX9_feeOf_121 rfl rfl ?_
      refine f_iald C (f := st.2 18) 14 0 rfl rfl ⟨by omega, by omega⟩ (Nat.le_of_ble_eq_true rfl) dX9_feeOf_122 ?_
      have k12 : (-1) ≤ st.2 18 v1 ∧ st.2 18 v1 ≤ 999999 := hO1.2 18 v1
      refine f_i2l C ⟨by omega, by omega⟩ dX9_feeOf_123 ?_
      refine f_ldiv C ⟨by omega, by omega⟩ ⟨by omega, by omega⟩ dX9_feeOf_124 ?_
      have k13 := edivb (v3 + ((v2 - v5) * v6)) (st.2 18 v1) (by omega) (by omega)
      refine f_lstore C (lv' := [(7, .long (zJ ((v3 + ((v2 - v5) * v6)) / (st.2 18 v1)))), (3, .long (zJ (v3 + ((v2 - v5) * v6)))), (0, .ref (b 0)), (1, .int (zI v1)), (2, .int (zI v2)), (5, .int (zI v5)), (6, .int (zI v6))]) dX9_feeOf_125 (Nat.le_of_ble_eq_true rfl) rfl ?_
      refine f_aload_n C 0 dX9_feeOf_127 rfl rfl ?_
      refine f_get C hin9 0 20 rfl rfl (Nat.le_of_ble_eq_true rfl) (by decide +kernel) rfl rfl dX9_feeOf_128 ?_
      refine f_iload_n C 1 dX9_feeOf_131 rfl rfl ?_
      refine f_iald C (f := st.2 20) 16 0 rfl rfl ⟨by omega, by omega⟩ (Nat.le_of_ble_eq_true rfl) dX9_feeOf_132 ?_
      have k14 : (-1) ≤ st.2 20 v1 ∧ st.2 20 v1 ≤ 999999 := hO1.2 20 v1
      refine f_if_lt C 159 ⟨by omega, by omega⟩ dX9_feeOf_133 (by decide) (fun c15 => ?_) (fun c15 => ?_)
      · refine f_lload C 7 dX9_feeOf_159 rfl ?_
        exact f_lret C hret hlk dX9_feeOf_161 ⟨by omega, by omega⟩ (hp _ (by rw [F_X9_feeOf_16, if_neg c3, if_pos c10, if_pos c15]) (by omega))
      refine f_lload C 7 dX9_feeOf_136 rfl ?_
      refine f_aload_n C 0 dX9_feeOf_138 rfl rfl ?_
      refine f_get C hin9 0 20 rfl rfl (Nat.le_of_ble_eq_true rfl) (by decide +kernel) rfl rfl dX9_feeOf_139 ?_
      refine f_iload_n C 1 dX9_feeOf_142 rfl rfl ?_
      refine f_iald C (f := st.2 20) 16 0 rfl rfl ⟨by omega, by omega⟩ (Nat.le_of_ble_eq_true rfl) dX9_feeOf_143 ?_
      refine f_i2l C ⟨by omega, by omega⟩ dX9_feeOf_144 ?_
      refine f_lc_if_le C 159 ⟨by omega, by omega⟩ ⟨by omega, by omega⟩ dX9_feeOf_145 dX9_feeOf_146 (by decide) (fun c16 => ?_) (fun c16 => ?_)
      · refine f_lload C 7 dX9_feeOf_159 rfl ?_
        exact f_lret C hret hlk dX9_feeOf_161 ⟨by omega, by omega⟩ (hp _ (by rw [F_X9_feeOf_16, if_neg c3, if_pos c10, if_neg c15, if_pos c16]) (by omega))
      refine f_aload_n C 0 dX9_feeOf_149 rfl rfl ?_
      refine f_get C hin9 0 20 rfl rfl (Nat.le_of_ble_eq_true rfl) (by decide +kernel) rfl rfl dX9_feeOf_150 ?_
      refine f_iload_n C 1 dX9_feeOf_153 rfl rfl ?_
      refine f_iald C (f := st.2 20) 16 0 rfl rfl ⟨by omega, by omega⟩ (Nat.le_of_ble_eq_true rfl) dX9_feeOf_154 ?_
      refine f_i2l C ⟨by omega, by omega⟩ dX9_feeOf_155 ?_
      refine f_goto C 161 dX9_feeOf_156 (by decide) ?_
      exact f_lret C hret hlk dX9_feeOf_161 ⟨by omega, by omega⟩ (hp _ (by rw [F_X9_feeOf_16, if_neg c3, if_pos c10, if_neg c15, if_neg c16]) (by omega))
    have hk := hs v7 (by omega) (by omega)
    refine f_aload_n C 0 dX9_feeOf_33 rfl rfl ?_
    refine f_get C hin9 0 22 rfl rfl (Nat.le_of_ble_eq_true rfl) (by decide +kernel) rfl rfl dX9_feeOf_34 ?_
    refine f_bipush C dX9_feeOf_37 (by decide) ?_
    refine f_iload_n C 1 dX9_feeOf_39 rfl rfl ?_
    refine f_imul C dX9_feeOf_40 ?_
    refine f_iload C 7 dX9_feeOf_41 rfl ?_
    refine f_iadd C dX9_feeOf_43 ?_
    refine f_iald C (f := st.2 22) 18 0 rfl rfl ⟨by omega, by omega⟩ (Nat.le_of_ble_eq_true rfl) dX9_feeOf_44 ?_
    have k17 : 0 ≤ st.2 22 ((100 * v1) + v7) ∧ st.2 22 ((100 * v1) + v7) ≤ 999999 := hO1.2 22 ((100 * v1) + v7)
    refine f_iload_n C 2 dX9_feeOf_45 rfl rfl ?_
    refine f_icmp_ge C 64 ⟨by omega, by omega⟩ ⟨by omega, by omega⟩ dX9_feeOf_46 (by decide) (fun c18 => ?_) (fun c18 => ?_)
    · refine f_iload_n C 2 dX9_feeOf_64 rfl rfl ?_
      refine f_istore C (lv' := [(8, .int (zI v2)), (0, .ref (b 0)), (1, .int (zI v1)), (2, .int (zI v2)), (3, .long (zJ v3)), (5, .int (zI v5)), (6, .int (zI v6)), (7, .int (zI v7))]) dX9_feeOf_65 (Nat.le_of_ble_eq_true rfl) rfl ?_
      refine f_lload_n C 3 dX9_feeOf_67 rfl rfl ?_
      refine f_iload C 8 dX9_feeOf_68 rfl ?_
      refine f_iload C 5 dX9_feeOf_70 rfl ?_
      refine f_isub C dX9_feeOf_72 ?_
      refine f_i2l C ⟨by omega, by omega⟩ dX9_feeOf_73 ?_
      refine f_iload C 6 dX9_feeOf_74 rfl ?_
      refine f_i2l C ⟨by omega, by omega⟩ dX9_feeOf_76 ?_
      refine f_lmul C dX9_feeOf_77 ?_
      have k19 := mulle (v2 - v5) v6 (B := 999999) (by omega) ⟨by omega, by omega⟩
      refine f_ladd C dX9_feeOf_78 ?_
      refine f_lstore_n C 3 (lv' := [(3, .long (zJ (v3 + ((v2 - v5) * v6)))), (8, .int (zI v2)), (0, .ref (b 0)), (1, .int (zI v1)), (2, .int (zI v2)), (5, .int (zI v5)), (6, .int (zI v6)), (7, .int (zI v7))]) dX9_feeOf_79 rfl (Nat.le_of_ble_eq_true rfl) rfl ?_
      refine f_iload C 8 dX9_feeOf_80 rfl ?_
      refine f_istore C (lv' := [(5, .int (zI v2)), (3, .long (zJ (v3 + ((v2 - v5) * v6)))), (8, .int (zI v2)), (0, .ref (b 0)), (1, .int (zI v1)), (2, .int (zI v2)), (6, .int (zI v6)), (7, .int (zI v7))]) dX9_feeOf_82 (Nat.le_of_ble_eq_true rfl) rfl ?_
      refine f_aload_n C 0 dX9_feeOf_84 rfl rfl ?_
      refine f_get C hin9 0 23 rfl rfl (Nat.le_of_ble_eq_true rfl) (by decide +kernel) rfl rfl dX9_feeOf_85 ?_
      refine f_bipush C dX9_feeOf_88 (by decide) ?_
      refine f_iload_n C 1 dX9_feeOf_90 rfl rfl ?_
      refine f_imul C dX9_feeOf_91 ?_
      refine f_iload C 7 dX9_feeOf_92 rfl ?_
      refine f_iadd C dX9_feeOf_94 ?_
      refine f_iald C (f := st.2 23) 19 0 rfl rfl ⟨by omega, by omega⟩ (Nat.le_of_ble_eq_true rfl) dX9_feeOf_95 ?_
      have k20 : 0 ≤ st.2 23 ((100 * v1) + v7) ∧ st.2 23 ((100 * v1) + v7) ≤ 999999 := hO1.2 23 ((100 * v1) + v7)
      refine f_istore C (lv' := [(6, .int (zI (st.2 23 ((100 * v1) + v7)))), (5, .int (zI v2)), (3, .long (zJ (v3 + ((v2 - v5) * v6)))), (8, .int (zI v2)), (0, .ref (b 0)), (1, .int (zI v1)), (2, .int (zI v2)), (7, .int (zI v7))]) dX9_feeOf_96 (Nat.le_of_ble_eq_true rfl) rfl ?_
      refine f_iinc C (lv' := [(7, .int (zI (v7 + 1))), (6, .int (zI (st.2 23 ((100 * v1) + v7)))), (5, .int (zI v2)), (3, .long (zJ (v3 + ((v2 - v5) * v6)))), (8, .int (zI v2)), (0, .ref (b 0)), (1, .int (zI v1)), (2, .int (zI v2))]) 7 dX9_feeOf_98 rfl (Nat.le_of_ble_eq_true rfl) rfl ?_
      refine f_goto C 16 dX9_feeOf_101 (by decide) ?_
      refine f_re (lv' := [(0, .ref (b 0)), (1, .int (zI v1)), (2, .int (zI v2)), (3, .long (zJ (v3 + ((v2 - v5) * v6)))), (5, .int (zI v2)), (6, .int (zI (st.2 23 ((100 * v1) + v7)))), (7, .int (zI (v7 + 1)))]) [5, 6, 7, 3, 2, 1, 0] rfl ?_
      exact ih (v3 + ((v2 - v5) * v6)) v2 (st.2 23 ((100 * v1) + v7)) (v7 + 1) st ⟨by omega, by omega⟩ ⟨by omega, by omega⟩ ⟨by omega, by omega⟩ ⟨by omega, by omega⟩ (show 0 ≤ v1 ∧ v1 ≤ 35 by omega) (show 0 ≤ v2 ∧ v2 ≤ 1000000 by omega) (show 0 ≤ (v7 + 1) ∧ (v7 + 1) ≤ (st.2 21) v1 by omega) (show 0 ≤ v2 ∧ v2 ≤ v2 by omega) (show 0 ≤ (v3 + ((v2 - v5) * v6)) ∧ (v3 + ((v2 - v5) * v6)) ≤ v2 * 999999 by omega) (show 0 ≤ (st.2 23 ((100 * v1) + v7)) ∧ (st.2 23 ((100 * v1) + v7)) ≤ 999999 by omega) (by rw [show 100 * v1 + (v7 + 1) - 1 = 100 * v1 + v7 by omega]; omega) (show 0 < (st.2 18) v1 by omega) (show 0 ≤ (st.2 21) v1 ∧ (st.2 21) v1 ≤ 100 by omega) hs (show (st.2 21) v1 - (v7 + 1) < ((n : Nat) : Int) by omega) (fun z e1 r1 => hp z (by rw [F_X9_feeOf_16, if_neg c3, if_neg c10, if_pos c18]; exact e1) r1)
    refine f_aload_n C 0 dX9_feeOf_49 rfl rfl ?_
    refine f_get C hin9 0 22 rfl rfl (Nat.le_of_ble_eq_true rfl) (by decide +kernel) rfl rfl dX9_feeOf_50 ?_
    refine f_bipush C dX9_feeOf_53 (by decide) ?_
    refine f_iload_n C 1 dX9_feeOf_55 rfl rfl ?_
    refine f_imul C dX9_feeOf_56 ?_
    refine f_iload C 7 dX9_feeOf_57 rfl ?_
    refine f_iadd C dX9_feeOf_59 ?_
    refine f_iald C (f := st.2 22) 18 0 rfl rfl ⟨by omega, by omega⟩ (Nat.le_of_ble_eq_true rfl) dX9_feeOf_60 ?_
    refine f_goto C 65 dX9_feeOf_61 (by decide) ?_
    refine f_istore C (lv' := [(8, .int (zI (st.2 22 ((100 * v1) + v7)))), (0, .ref (b 0)), (1, .int (zI v1)), (2, .int (zI v2)), (3, .long (zJ v3)), (5, .int (zI v5)), (6, .int (zI v6)), (7, .int (zI v7))]) dX9_feeOf_65 (Nat.le_of_ble_eq_true rfl) rfl ?_
    refine f_lload_n C 3 dX9_feeOf_67 rfl rfl ?_
    refine f_iload C 8 dX9_feeOf_68 rfl ?_
    refine f_iload C 5 dX9_feeOf_70 rfl ?_
    refine f_isub C dX9_feeOf_72 ?_
    refine f_i2l C ⟨by omega, by omega⟩ dX9_feeOf_73 ?_
    refine f_iload C 6 dX9_feeOf_74 rfl ?_
    refine f_i2l C ⟨by omega, by omega⟩ dX9_feeOf_76 ?_
    refine f_lmul C dX9_feeOf_77 ?_
    have k21 := mulle ((st.2 22 ((100 * v1) + v7)) - v5) v6 (B := 999999) (by omega) ⟨by omega, by omega⟩
    refine f_ladd C dX9_feeOf_78 ?_
    refine f_lstore_n C 3 (lv' := [(3, .long (zJ (v3 + (((st.2 22 ((100 * v1) + v7)) - v5) * v6)))), (8, .int (zI (st.2 22 ((100 * v1) + v7)))), (0, .ref (b 0)), (1, .int (zI v1)), (2, .int (zI v2)), (5, .int (zI v5)), (6, .int (zI v6)), (7, .int (zI v7))]) dX9_feeOf_79 rfl (Nat.le_of_ble_eq_true rfl) rfl ?_
    refine f_iload C 8 dX9_feeOf_80 rfl ?_
    refine f_istore C (lv' := [(5, .int (zI (st.2 22 ((100 * v1) + v7)))), (3, .long (zJ (v3 + (((st.2 22 ((100 * v1) + v7)) - v5) * v6)))), (8, .int (zI (st.2 22 ((100 * v1) + v7)))), (0, .ref (b 0)), (1, .int (zI v1)), (2, .int (zI v2)), (6, .int (zI v6)), (7, .int (zI v7))]) dX9_feeOf_82 (Nat.le_of_ble_eq_true rfl) rfl ?_
    refine f_aload_n C 0 dX9_feeOf_84 rfl rfl ?_
    refine f_get C hin9 0 23 rfl rfl (Nat.le_of_ble_eq_true rfl) (by decide +kernel) rfl rfl dX9_feeOf_85 ?_
    refine f_bipush C dX9_feeOf_88 (by decide) ?_
    refine f_iload_n C 1 dX9_feeOf_90 rfl rfl ?_
    refine f_imul C dX9_feeOf_91 ?_
    refine f_iload C 7 dX9_feeOf_92 rfl ?_
    refine f_iadd C dX9_feeOf_94 ?_
    refine f_iald C (f := st.2 23) 19 0 rfl rfl ⟨by omega, by omega⟩ (Nat.le_of_ble_eq_true rfl) dX9_feeOf_95 ?_
    have k22 : 0 ≤ st.2 23 ((100 * v1) + v7) ∧ st.2 23 ((100 * v1) + v7) ≤ 999999 := hO1.2 23 ((100 * v1) + v7)
    refine f_istore C (lv' := [(6, .int (zI (st.2 23 ((100 * v1) + v7)))), (5, .int (zI (st.2 22 ((100 * v1) + v7)))), (3, .long (zJ (v3 + (((st.2 22 ((100 * v1) + v7)) - v5) * v6)))), (8, .int (zI (st.2 22 ((100 * v1) + v7)))), (0, .ref (b 0)), (1, .int (zI v1)), (2, .int (zI v2)), (7, .int (zI v7))]) dX9_feeOf_96 (Nat.le_of_ble_eq_true rfl) rfl ?_
    refine f_iinc C (lv' := [(7, .int (zI (v7 + 1))), (6, .int (zI (st.2 23 ((100 * v1) + v7)))), (5, .int (zI (st.2 22 ((100 * v1) + v7)))), (3, .long (zJ (v3 + (((st.2 22 ((100 * v1) + v7)) - v5) * v6)))), (8, .int (zI (st.2 22 ((100 * v1) + v7)))), (0, .ref (b 0)), (1, .int (zI v1)), (2, .int (zI v2))]) 7 dX9_feeOf_98 rfl (Nat.le_of_ble_eq_true rfl) rfl ?_
    refine f_goto C 16 dX9_feeOf_101 (by decide) ?_
    refine f_re (lv' := [(0, .ref (b 0)), (1, .int (zI v1)), (2, .int (zI v2)), (3, .long (zJ (v3 + (((st.2 22 ((100 * v1) + v7)) - v5) * v6)))), (5, .int (zI (st.2 22 ((100 * v1) + v7)))), (6, .int (zI (st.2 23 ((100 * v1) + v7)))), (7, .int (zI (v7 + 1)))]) [5, 6, 7, 3, 2, 1, 0] rfl ?_
    exact ih (v3 + (((st.2 22 ((100 * v1) + v7)) - v5) * v6)) (st.2 22 ((100 * v1) + v7)) (st.2 23 ((100 * v1) + v7)) (v7 + 1) st ⟨by omega, by omega⟩ ⟨by omega, by omega⟩ ⟨by omega, by omega⟩ ⟨by omega, by omega⟩ (show 0 ≤ v1 ∧ v1 ≤ 35 by omega) (show 0 ≤ v2 ∧ v2 ≤ 1000000 by omega) (show 0 ≤ (v7 + 1) ∧ (v7 + 1) ≤ (st.2 21) v1 by omega) (show 0 ≤ (st.2 22 ((100 * v1) + v7)) ∧ (st.2 22 ((100 * v1) + v7)) ≤ v2 by omega) (show 0 ≤ (v3 + (((st.2 22 ((100 * v1) + v7)) - v5) * v6)) ∧ (v3 + (((st.2 22 ((100 * v1) + v7)) - v5) * v6)) ≤ (st.2 22 ((100 * v1) + v7)) * 999999 by omega) (show 0 ≤ (st.2 23 ((100 * v1) + v7)) ∧ (st.2 23 ((100 * v1) + v7)) ≤ 999999 by omega) (by rw [show 100 * v1 + (v7 + 1) - 1 = 100 * v1 + v7 by omega]; omega) (show 0 < (st.2 18) v1 by omega) (show 0 ≤ (st.2 21) v1 ∧ (st.2 21) v1 ≤ 100 by omega) hs (show (st.2 21) v1 - (v7 + 1) < ((n : Nat) : Int) by omega) (fun z e1 r1 => hp z (by rw [F_X9_feeOf_16, if_neg c3, if_neg c10, if_neg c18]; exact e1) r1)
set_option maxRecDepth 100000 in
set_option maxHeartbeats 8000000 in
theorem c_X9_feeOf {l : Launch} {D : va_G} {cI cJ cZ cB : ClassId} {b : Nat → Nat} {E : State → Prop} (hX : mHyp b E) (p1 p2 : Int) (h1 : in32 p1) (h2 : in32 p2) (st : fS) (q1 : 0 ≤ p1 ∧ p1 ≤ 35) (q2 : 0 ≤ p2 ∧ p2 ≤ 1000000) (q3 : 0 ≤ st.2 19 p1) (q4 : 0 < st.2 18 p1) (hs : ∀ i : Int, 0 ≤ i → i < st.2 21 p1 → 0 < st.2 22 (100 * p1 + i) ∧ (0 < i → st.2 22 (100 * p1 + i - 1) < st.2 22 (100 * p1 + i))) : mMl l D cI cJ cZ cB b E yX9_feeOf wsX9_feeOf rm_X9_feeOf [.ref (b 0), .int (zI p1), .int (zI p2)] st (fun z u => z = F_X9_feeOf p1 p2 st ∧ u = st ∧ (0 ≤ z ∧ z ≤ 999999000000)) := by
  refine fB_open (cc := cX9_feeOf) (maxL := 9) (ret := (some .long)) (by decide) rfl (Nat.le_of_ble_eq_true rfl) hX.2 ?_
  intro p e s m below meth c C hret hlk
  have hin9 : ∀ w ∈ u_ws RX9 TX9 43, w ∈ wsX9_feeOf := by decide +kernel
  have hp : ∀ z : Int, z = F_X9_feeOf p1 p2 st → (0 ≤ z ∧ z ≤ 999999000000) → z = F_X9_feeOf p1 p2 st ∧ st = st ∧ (0 ≤ z ∧ z ≤ 999999000000) := fun z h r1 => ⟨h, rfl, r1⟩
  refine f_lconst C (z := 0) dX9_feeOf_0 rfl ?_
  refine f_lstore_n C 3 (lv' := [(3, .long (zJ 0)), (0, .ref (b 0)), (1, .int (zI p1)), (2, .int (zI p2))]) dX9_feeOf_1 rfl (Nat.le_of_ble_eq_true rfl) rfl ?_
  refine f_iconst C dX9_feeOf_2 ?_
  refine f_istore C (lv' := [(5, .int (zI 0)), (3, .long (zJ 0)), (0, .ref (b 0)), (1, .int (zI p1)), (2, .int (zI p2))]) dX9_feeOf_3 (Nat.le_of_ble_eq_true rfl) rfl ?_
  refine f_aload_n C 0 dX9_feeOf_5 rfl rfl ?_
  refine f_get C hin9 0 19 rfl rfl (Nat.le_of_ble_eq_true rfl) (by decide +kernel) rfl rfl dX9_feeOf_6 ?_
  refine f_iload_n C 1 dX9_feeOf_9 rfl rfl ?_
  refine f_iald C (f := st.2 19) 15 0 rfl rfl ⟨by omega, by omega⟩ (Nat.le_of_ble_eq_true rfl) dX9_feeOf_10 ?_
  refine f_ok (fun hO23 => ?_)
  have k24 : (-1) ≤ st.2 19 p1 ∧ st.2 19 p1 ≤ 999999 := hO23.2 19 p1
  refine f_istore C (lv' := [(6, .int (zI (st.2 19 p1))), (5, .int (zI 0)), (3, .long (zJ 0)), (0, .ref (b 0)), (1, .int (zI p1)), (2, .int (zI p2))]) dX9_feeOf_11 (Nat.le_of_ble_eq_true rfl) rfl ?_
  refine f_ok (fun hQ => ?_)
  have k21 : 0 ≤ st.2 21 p1 ∧ st.2 21 p1 ≤ 100 := hQ.2 21 p1
  refine f_iconst C dX9_feeOf_13 ?_
  refine f_istore C (lv' := [(7, .int (zI 0)), (6, .int (zI (st.2 19 p1))), (5, .int (zI 0)), (3, .long (zJ 0)), (0, .ref (b 0)), (1, .int (zI p1)), (2, .int (zI p2))]) dX9_feeOf_14 (Nat.le_of_ble_eq_true rfl) rfl ?_
  refine f_re (lv' := [(0, .ref (b 0)), (1, .int (zI p1)), (2, .int (zI p2)), (3, .long (zJ 0)), (5, .int (zI 0)), (6, .int (zI (st.2 19 p1))), (7, .int (zI 0))]) [4, 5, 6, 3, 2, 1, 0] rfl ?_
  exact v_X9_feeOf_16 hX p1 p2 ⟨by omega, by omega⟩ ⟨by omega, by omega⟩ C hret hlk (Int.toNat ((st.2 21) p1 - (0 : Int)) + 1) 0 0 (st.2 19 p1) 0 st ⟨by omega, by omega⟩ ⟨by omega, by omega⟩ ⟨by omega, by omega⟩ ⟨by omega, by omega⟩ (show 0 ≤ p1 ∧ p1 ≤ 35 by omega) (show 0 ≤ p2 ∧ p2 ≤ 1000000 by omega) (show 0 ≤ (0 : Int) ∧ (0 : Int) ≤ (st.2 21) p1 by omega) (show 0 ≤ (0 : Int) ∧ (0 : Int) ≤ p2 by omega) (show 0 ≤ (0 : Int) ∧ (0 : Int) ≤ (0 : Int) * 999999 by omega) (show 0 ≤ (st.2 19 p1) ∧ (st.2 19 p1) ≤ 999999 by omega) (show ((0 : Int) = 0 ∧ (0 : Int) = 0) ∨ (0 < (0 : Int) ∧ ((0 : Int) = p2 ∨ (0 : Int) = (st.2 22) (100 * p1 + (0 : Int) - 1))) by omega) (show 0 < (st.2 18) p1 by omega) (show 0 ≤ (st.2 21) p1 ∧ (st.2 21) p1 ≤ 100 by omega) hs (show (st.2 21) p1 - (0 : Int) < ((Int.toNat ((st.2 21) p1 - (0 : Int)) + 1 : Nat) : Int) by omega) (fun z e1 r1 => hp z (by rw [F_X9_feeOf]; exact e1) r1)

def F_X9_findLines_8 (v1 v2 v3 : Int) : Nat → Int → fS → fS
  | 0, _, st => st
  | n + 1, v5, st => if (st.1 3) ≤ v5 then st else (if (st.2 4 v5) = v1 then (if ((st.2 6 v5) / 30) = v2 then (if (st.2 8 v5) ≤ v3 then (if (F_X9_isRelieved v5 st) = 0 then (if 0 ≤ (F_X9_editionOf v5 v3 st) then (if (st.2 17 ((6 * (F_X9_editionOf v5 v3 st)) + (st.2 5 v5))) = 0 then F_X9_findLines_8 v1 v2 v3 (n) (v5 + 1) (sN (sR (sR (sR (sR st 32 (f_up (st.2 32) (st.1 31) v5)) 34 (f_up (st.2 34) (st.1 31) (F_X9_editionOf v5 v3 st))) 35 (f_up (st.2 35) (st.1 31) 1)) 33 (f_up (st.2 33) (st.1 31) (-1))) 31 ((st.1 31) + 1)) else (if (st.2 18 ((6 * (F_X9_editionOf v5 v3 st)) + (st.2 5 v5))) = 0 then F_X9_findLines_8 v1 v2 v3 (n) (v5 + 1) (sN (sR (sR (sR (sR st 32 (f_up (st.2 32) (st.1 31) v5)) 34 (f_up (st.2 34) (st.1 31) (F_X9_editionOf v5 v3 st))) 35 (f_up (st.2 35) (st.1 31) 2)) 33 (f_up (st.2 33) (st.1 31) (-1))) 31 ((st.1 31) + 1)) else F_X9_findLines_8 v1 v2 v3 (n) (v5 + 1) (sN (sR (sR (sR (sR st 32 (f_up (st.2 32) (st.1 31) v5)) 34 (f_up (st.2 34) (st.1 31) (F_X9_editionOf v5 v3 st))) 35 (f_up (st.2 35) (st.1 31) 0)) 33 (f_up (st.2 33) (st.1 31) (F_X9_feeOf ((6 * (F_X9_editionOf v5 v3 st)) + (st.2 5 v5)) (st.2 7 v5) (sR (sR (sR st 32 (f_up (st.2 32) (st.1 31) v5)) 34 (f_up (st.2 34) (st.1 31) (F_X9_editionOf v5 v3 st))) 35 (f_up (st.2 35) (st.1 31) 0))))) 31 ((st.1 31) + 1)))) else F_X9_findLines_8 v1 v2 v3 (n) (v5 + 1) (sN (sR (sR (sR (sR st 32 (f_up (st.2 32) (st.1 31) v5)) 34 (f_up (st.2 34) (st.1 31) (F_X9_editionOf v5 v3 st))) 35 (f_up (st.2 35) (st.1 31) 1)) 33 (f_up (st.2 33) (st.1 31) (-1))) 31 ((st.1 31) + 1))) else F_X9_findLines_8 v1 v2 v3 (n) (v5 + 1) (sN (sR (sR (sR (sR st 32 (f_up (st.2 32) (st.1 31) v5)) 34 (f_up (st.2 34) (st.1 31) (-1))) 35 (f_up (st.2 35) (st.1 31) 0)) 33 (f_up (st.2 33) (st.1 31) 0)) 31 ((st.1 31) + 1))) else F_X9_findLines_8 v1 v2 v3 (n) (v5 + 1) st) else F_X9_findLines_8 v1 v2 v3 (n) (v5 + 1) st) else F_X9_findLines_8 v1 v2 v3 (n) (v5 + 1) st)

def F_X9_findLines (p1 p2 p3 : Int) (st : fS) : fS := F_X9_findLines_8 p1 p2 p3 (Int.toNat ((st.1 3) - (0 : Int)) + 1) 0 (sN st 31 0)
abbrev rm_X9_findLines : Room := { frames := 1, cells := 0, slots := 0, locals := 28 }
set_option maxRecDepth 100000 in
set_option maxHeartbeats 8000000 in
theorem v_X9_findLines_8 {l : Launch} {D : va_G} {cI cJ cZ cB : ClassId} {b : Nat → Nat} {E : State → Prop} (hX : mHyp b E) (v1 v2 v3 : Int) (hv1 : in32 v1) (hv2 : in32 v2) (hv3 : in64 v3) {p : Program} {e : Env} {s : State} {m : MethodId} {args : Array Value} {below : List Frame} {meth : Method} {c : Code} (C : fC p m c cX9_findLines 10 s args wsX9_findLines yX9_findLines.cls D (fTys cI cJ cZ cB) E (mA b)) (hret : meth.sig.returnType = none) (hlk : meth.locks = false) {post : fS → Prop} : ∀ (n : Nat) (v5 : Int) (st : fS), in32 v5 → (0 ≤ v5 ∧ v5 ≤ st.1 3) → (st.1 3 ≤ 24) → (0 ≤ st.1 31 ∧ st.1 31 ≤ v5) → (mSteps st) → st.1 3 - v5 < n → (∀ u : fS, u = F_X9_findLines_8 v1 v2 v3 n v5 st → post u) → fV D (wM cI cJ cZ cB b) mOk (mA b) 10 p l e rm_X9_findLines s m args below meth c 0 0 (fMQ below (fQv D (wM cI cJ cZ cB b) mOk (mA b) post) args s (mA b)) st 8 [(0, .ref (b 0)), (1, .int (zI v1)), (2, .int (zI v2)), (3, .long (zJ v3)), (5, .int (zI v5))] [] := by
  have hin9 : ∀ w ∈ u_ws RX9 TX9 43, w ∈ wsX9_findLines := by decide +kernel
  intro n
  induction n with
  | zero =>
    intro v5 st hv5 i0 i1 i2 i3 hm hp
    omega
  | succ n ih =>
    intro v5 st hv5 i0 i1 i2 i3 hm hp
    have hI := i3
    refine f_iload C 5 dX9_findLines_8 rfl ?_
    refine f_aload_n C 0 dX9_findLines_10 rfl rfl ?_
    refine f_ok (fun hO1 => ?_)
    have k2 : 0 ≤ st.1 3 ∧ st.1 3 ≤ 24 := hO1.1 3
    refine f_get C (v := .int (zI (st.1 3))) hin9 0 3 rfl rfl (Nat.le_of_ble_eq_true rfl) (by decide +kernel) rfl rfl dX9_findLines_11 ?_
    refine f_icmp_ge C 244 ⟨by omega, by omega⟩ ⟨by omega, by omega⟩ dX9_findLines_14 (by decide) (fun c3 => ?_) (fun c3 => ?_)
    · exact f_vret C hret hlk dX9_findLines_244 (hp _ (by rw [F_X9_findLines_8, if_pos c3]))
    refine f_aload_n C 0 dX9_findLines_17 rfl rfl ?_
    refine f_get C hin9 0 4 rfl rfl (Nat.le_of_ble_eq_true rfl) (by decide +kernel) rfl rfl dX9_findLines_18 ?_
    refine f_iload C 5 dX9_findLines_21 rfl ?_
    refine f_iald C (f := st.2 4) 3 0 rfl rfl ⟨by omega, by omega⟩ (Nat.le_of_ble_eq_true rfl) dX9_findLines_23 ?_
    have k4 : 0 ≤ st.2 4 v5 ∧ st.2 4 v5 ≤ 3 := hO1.2 4 v5
    refine f_iload_n C 1 dX9_findLines_24 rfl rfl ?_
    refine f_icmp_ne C 238 ⟨by omega, by omega⟩ ⟨by omega, by omega⟩ dX9_findLines_25 (by decide) (fun c5 => ?_) (fun c5 => ?_)
    · refine f_iinc C (lv' := [(5, .int (zI (v5 + 1))), (0, .ref (b 0)), (1, .int (zI v1)), (2, .int (zI v2)), (3, .long (zJ v3))]) 4 dX9_findLines_238 rfl (Nat.le_of_ble_eq_true rfl) rfl ?_
      refine f_goto C 8 dX9_findLines_241 (by decide) ?_
      refine f_re (lv' := [(0, .ref (b 0)), (1, .int (zI v1)), (2, .int (zI v2)), (3, .long (zJ v3)), (5, .int (zI (v5 + 1)))]) [1, 2, 3, 4, 0] rfl ?_
      have k6 : 0 ≤ st.1 31 ∧ st.1 31 ≤ 24 := hO1.1 31
      exact ih (v5 + 1) st ⟨by omega, by omega⟩ (show 0 ≤ (v5 + 1) ∧ (v5 + 1) ≤ (st.1 3) by omega) (show (st.1 3) ≤ 24 by omega) (show 0 ≤ (st.1 31) ∧ (st.1 31) ≤ (v5 + 1) by omega) (mSteps_keep hI rfl rfl rfl rfl rfl rfl) (show (st.1 3) - (v5 + 1) < ((n : Nat) : Int) by omega) (fun u e2 => hp u (by rw [F_X9_findLines_8, if_neg c3, if_neg c5]; exact e2))
    refine f_aload_n C 0 dX9_findLines_28 rfl rfl ?_
    refine f_get C hin9 0 6 rfl rfl (Nat.le_of_ble_eq_true rfl) (by decide +kernel) rfl rfl dX9_findLines_29 ?_
    refine f_iload C 5 dX9_findLines_32 rfl ?_
    refine f_iald C (f := st.2 6) 5 0 rfl rfl ⟨by omega, by omega⟩ (Nat.le_of_ble_eq_true rfl) dX9_findLines_34 ?_
    have k7 : 0 ≤ st.2 6 v5 ∧ st.2 6 v5 ≤ 3599 := hO1.2 6 v5
    refine f_bipush C dX9_findLines_35 (by decide) ?_
    refine f_idiv C ⟨by omega, by omega⟩ ⟨by omega, by omega⟩ dX9_findLines_37 ?_
    refine f_iload_n C 2 dX9_findLines_38 rfl rfl ?_
    refine f_icmp_ne C 238 ⟨by omega, by omega⟩ ⟨by omega, by omega⟩ dX9_findLines_39 (by decide) (fun c8 => ?_) (fun c8 => ?_)
    · refine f_iinc C (lv' := [(5, .int (zI (v5 + 1))), (0, .ref (b 0)), (1, .int (zI v1)), (2, .int (zI v2)), (3, .long (zJ v3))]) 4 dX9_findLines_238 rfl (Nat.le_of_ble_eq_true rfl) rfl ?_
      refine f_goto C 8 dX9_findLines_241 (by decide) ?_
      refine f_re (lv' := [(0, .ref (b 0)), (1, .int (zI v1)), (2, .int (zI v2)), (3, .long (zJ v3)), (5, .int (zI (v5 + 1)))]) [1, 2, 3, 4, 0] rfl ?_
      have k9 : 0 ≤ st.1 31 ∧ st.1 31 ≤ 24 := hO1.1 31
      exact ih (v5 + 1) st ⟨by omega, by omega⟩ (show 0 ≤ (v5 + 1) ∧ (v5 + 1) ≤ (st.1 3) by omega) (show (st.1 3) ≤ 24 by omega) (show 0 ≤ (st.1 31) ∧ (st.1 31) ≤ (v5 + 1) by omega) (mSteps_keep hI rfl rfl rfl rfl rfl rfl) (show (st.1 3) - (v5 + 1) < ((n : Nat) : Int) by omega) (fun u e2 => hp u (by rw [F_X9_findLines_8, if_neg c3, if_pos c5, if_neg c8]; exact e2))
    refine f_aload_n C 0 dX9_findLines_42 rfl rfl ?_
    refine f_get C hin9 0 8 rfl rfl (Nat.le_of_ble_eq_true rfl) (by decide +kernel) rfl rfl dX9_findLines_43 ?_
    refine f_iload C 5 dX9_findLines_46 rfl ?_
    refine f_iald C (f := st.2 8) 7 0 rfl rfl ⟨by omega, by omega⟩ (Nat.le_of_ble_eq_true rfl) dX9_findLines_48 ?_
    have k10 : 0 ≤ st.2 8 v5 ∧ st.2 8 v5 ≤ 3599 := hO1.2 8 v5
    refine f_i2l C ⟨by omega, by omega⟩ dX9_findLines_49 ?_
    refine f_lload_n C 3 dX9_findLines_50 rfl rfl ?_
    refine f_lc_if_le C 58 ⟨by omega, by omega⟩ ⟨by omega, by omega⟩ dX9_findLines_51 dX9_findLines_52 (by decide) (fun c11 => ?_) (fun c11 => ?_)
    · refine f_aload_n C 0 dX9_findLines_58 rfl rfl ?_
      refine f_iload C 5 dX9_findLines_59 rfl ?_
      refine f_calli C (c_X9_isRelieved hX v5 ⟨by omega, by omega⟩ st (show 0 ≤ v5 ∧ v5 ≤ 23 by omega)) (cwV 1 C.1.2.2.2.2 gX9_findLines_X9_isRelieved rfl rfl rfl (by decide +kernel) ⟨Nat.le_of_ble_eq_true rfl, Nat.le_of_ble_eq_true rfl⟩) 0 rfl rfl rfl rfl rfl (Nat.le_of_ble_eq_true rfl) ⟨Nat.zero_le _, Nat.zero_le _⟩ dX9_findLines_61 (fun z u hz12 hu => ?_)
      obtain ⟨qz12, hu, rz12⟩ := hu; replace hu := hu.symm; subst hu; subst qz12
      refine f_istore C (lv' := [(6, .int (zI (F_X9_isRelieved v5 st))), (0, .ref (b 0)), (1, .int (zI v1)), (2, .int (zI v2)), (3, .long (zJ v3)), (5, .int (zI v5))]) dX9_findLines_64 (Nat.le_of_ble_eq_true rfl) rfl ?_
      refine f_iload C 6 dX9_findLines_66 rfl ?_
      refine f_if_eq C 75 ⟨by omega, by omega⟩ dX9_findLines_68 (by decide) (fun c13 => ?_) (fun c13 => ?_)
      · refine f_aload_n C 0 dX9_findLines_75 rfl rfl ?_
        refine f_iload C 5 dX9_findLines_76 rfl ?_
        refine f_lload_n C 3 dX9_findLines_78 rfl rfl ?_
        refine f_calli C (c_X9_editionOf hX v5 v3 ⟨by omega, by omega⟩ ⟨by omega, by omega⟩ st (show 0 ≤ v5 ∧ v5 ≤ 23 by omega)) (cwV 2 C.1.2.2.2.2 gX9_findLines_X9_editionOf rfl rfl rfl (by decide +kernel) ⟨Nat.le_of_ble_eq_true rfl, Nat.le_of_ble_eq_true rfl⟩) 0 rfl rfl rfl rfl rfl (Nat.le_of_ble_eq_true rfl) ⟨Nat.zero_le _, Nat.zero_le _⟩ dX9_findLines_79 (fun z u hz14 hu => ?_)
        obtain ⟨qz14, hu, rz14⟩ := hu; replace hu := hu.symm; subst hu; subst qz14
        refine f_istore C (lv' := [(7, .int (zI (F_X9_editionOf v5 v3 st))), (6, .int (zI (F_X9_isRelieved v5 st))), (0, .ref (b 0)), (1, .int (zI v1)), (2, .int (zI v2)), (3, .long (zJ v3)), (5, .int (zI v5))]) dX9_findLines_82 (Nat.le_of_ble_eq_true rfl) rfl ?_
        refine f_iload C 7 dX9_findLines_84 rfl ?_
        refine f_if_ge C 93 ⟨by omega, by omega⟩ dX9_findLines_86 (by decide) (fun c15 => ?_) (fun c15 => ?_)
        · refine f_bipush C dX9_findLines_93 (by decide) ?_
          refine f_iload C 7 dX9_findLines_95 rfl ?_
          refine f_imul C dX9_findLines_97 ?_
          refine f_aload_n C 0 dX9_findLines_98 rfl rfl ?_
          refine f_get C hin9 0 5 rfl rfl (Nat.le_of_ble_eq_true rfl) (by decide +kernel) rfl rfl dX9_findLines_99 ?_
          refine f_iload C 5 dX9_findLines_102 rfl ?_
          refine f_iald C (f := st.2 5) 4 0 rfl rfl ⟨by omega, by omega⟩ (Nat.le_of_ble_eq_true rfl) dX9_findLines_104 ?_
          have k16 : 0 ≤ st.2 5 v5 ∧ st.2 5 v5 ≤ 5 := hO1.2 5 v5
          refine f_iadd C dX9_findLines_105 ?_
          refine f_istore C (lv' := [(8, .int (zI ((6 * (F_X9_editionOf v5 v3 st)) + (st.2 5 v5)))), (7, .int (zI (F_X9_editionOf v5 v3 st))), (6, .int (zI (F_X9_isRelieved v5 st))), (0, .ref (b 0)), (1, .int (zI v1)), (2, .int (zI v2)), (3, .long (zJ v3)), (5, .int (zI v5))]) dX9_findLines_106 (Nat.le_of_ble_eq_true rfl) rfl ?_
          refine f_iload C 6 dX9_findLines_108 rfl ?_
          refine f_if_eq C 117 ⟨by omega, by omega⟩ dX9_findLines_110 (by decide) (fun c17 => ?_) (fun c17 => absurd c13 c17)
          refine f_iload C 7 dX9_findLines_117 rfl ?_
          refine f_if_lt C 132 ⟨by omega, by omega⟩ dX9_findLines_119 (by decide) (fun c18 => absurd c18 (by omega)) (fun c18 => ?_)
          refine f_aload_n C 0 dX9_findLines_122 rfl rfl ?_
          refine f_get C hin9 0 17 rfl rfl (Nat.le_of_ble_eq_true rfl) (by decide +kernel) rfl rfl dX9_findLines_123 ?_
          refine f_iload C 8 dX9_findLines_126 rfl ?_
          refine f_zald C (f := st.2 17) 13 2 rfl rfl ⟨by omega, by omega⟩ (Nat.le_of_ble_eq_true rfl) dX9_findLines_128 ?_
          have k19 : 0 ≤ st.2 17 ((6 * (F_X9_editionOf v5 v3 st)) + (st.2 5 v5)) ∧ st.2 17 ((6 * (F_X9_editionOf v5 v3 st)) + (st.2 5 v5)) ≤ 1 := hO1.2 17 ((6 * (F_X9_editionOf v5 v3 st)) + (st.2 5 v5))
          refine f_if_ne C 136 ⟨by omega, by omega⟩ dX9_findLines_129 (by decide) (fun c20 => ?_) (fun c20 => ?_)
          · refine f_aload_n C 0 dX9_findLines_136 rfl rfl ?_
            refine f_get C hin9 0 18 rfl rfl (Nat.le_of_ble_eq_true rfl) (by decide +kernel) rfl rfl dX9_findLines_137 ?_
            refine f_iload C 8 dX9_findLines_140 rfl ?_
            refine f_iald C (f := st.2 18) 14 0 rfl rfl ⟨by omega, by omega⟩ (Nat.le_of_ble_eq_true rfl) dX9_findLines_142 ?_
            have k21 : (-1) ≤ st.2 18 ((6 * (F_X9_editionOf v5 v3 st)) + (st.2 5 v5)) ∧ st.2 18 ((6 * (F_X9_editionOf v5 v3 st)) + (st.2 5 v5)) ≤ 999999 := hO1.2 18 ((6 * (F_X9_editionOf v5 v3 st)) + (st.2 5 v5))
            refine f_if_ne C 150 ⟨by omega, by omega⟩ dX9_findLines_143 (by decide) (fun c22 => ?_) (fun c22 => ?_)
            · refine f_iconst C dX9_findLines_150 ?_
              refine f_istore C (lv' := [(9, .int (zI 0)), (8, .int (zI ((6 * (F_X9_editionOf v5 v3 st)) + (st.2 5 v5)))), (7, .int (zI (F_X9_editionOf v5 v3 st))), (6, .int (zI (F_X9_isRelieved v5 st))), (0, .ref (b 0)), (1, .int (zI v1)), (2, .int (zI v2)), (3, .long (zJ v3)), (5, .int (zI v5))]) dX9_findLines_151 (Nat.le_of_ble_eq_true rfl) rfl ?_
              refine f_aload_n C 0 dX9_findLines_153 rfl rfl ?_
              refine f_get C hin9 0 32 rfl rfl (Nat.le_of_ble_eq_true rfl) (by decide +kernel) rfl rfl dX9_findLines_154 ?_
              refine f_aload_n C 0 dX9_findLines_157 rfl rfl ?_
              have k23 : 0 ≤ st.1 31 ∧ st.1 31 ≤ 24 := hO1.1 31
              refine f_get C (v := .int (zI (st.1 31))) hin9 0 31 rfl rfl (Nat.le_of_ble_eq_true rfl) (by decide +kernel) rfl rfl dX9_findLines_158 ?_
              refine f_iload C 5 dX9_findLines_161 rfl ?_
              refine f_iast C (mD hX.1 cI cJ cZ cB) (u := sR st 32 (f_up (st.2 32) (st.1 31) v5)) (f := st.2 32) 26 0 rfl rfl ⟨by omega, by omega⟩ (Nat.le_of_ble_eq_true rfl) rfl (fun h => fOk_up h (r := 32) (show 0 ≤ v5 ∧ v5 ≤ 23 by omega)) dX9_findLines_163 ?_
              refine f_aload_n C 0 dX9_findLines_164 rfl rfl ?_
              refine f_get C hin9 0 34 rfl rfl (Nat.le_of_ble_eq_true rfl) (by decide +kernel) rfl rfl dX9_findLines_165 ?_
              refine f_aload_n C 0 dX9_findLines_168 rfl rfl ?_
              refine f_ok (fun hO24 => ?_)
              have k25 : 0 ≤ st.1 31 ∧ st.1 31 ≤ 24 := hO24.1 31
              refine f_get C (v := .int (zI (st.1 31))) hin9 0 31 rfl rfl (Nat.le_of_ble_eq_true rfl) (by decide +kernel) rfl rfl dX9_findLines_169 ?_
              refine f_iload C 7 dX9_findLines_172 rfl ?_
              refine f_iast C (mD hX.1 cI cJ cZ cB) (u := sR (sR st 32 (f_up (st.2 32) (st.1 31) v5)) 34 (f_up (st.2 34) (st.1 31) (F_X9_editionOf v5 v3 st))) (f := st.2 34) 28 0 rfl rfl ⟨by omega, by omega⟩ (Nat.le_of_ble_eq_true rfl) rfl (fun h => fOk_up h (r := 34) (show (-1) ≤ (F_X9_editionOf v5 v3 st) ∧ (F_X9_editionOf v5 v3 st) ≤ 5 by omega)) dX9_findLines_174 ?_
              refine f_aload_n C 0 dX9_findLines_175 rfl rfl ?_
              refine f_get C hin9 0 35 rfl rfl (Nat.le_of_ble_eq_true rfl) (by decide +kernel) rfl rfl dX9_findLines_176 ?_
              refine f_aload_n C 0 dX9_findLines_179 rfl rfl ?_
              refine f_ok (fun hO26 => ?_)
              have k27 : 0 ≤ st.1 31 ∧ st.1 31 ≤ 24 := hO26.1 31
              refine f_get C (v := .int (zI (st.1 31))) hin9 0 31 rfl rfl (Nat.le_of_ble_eq_true rfl) (by decide +kernel) rfl rfl dX9_findLines_180 ?_
              refine f_iload C 9 dX9_findLines_183 rfl ?_
              refine f_iast C (mD hX.1 cI cJ cZ cB) (u := sR (sR (sR st 32 (f_up (st.2 32) (st.1 31) v5)) 34 (f_up (st.2 34) (st.1 31) (F_X9_editionOf v5 v3 st))) 35 (f_up (st.2 35) (st.1 31) 0)) (f := st.2 35) 29 0 rfl rfl ⟨by omega, by omega⟩ (Nat.le_of_ble_eq_true rfl) rfl (fun h => fOk_up h (r := 35) (show 0 ≤ (0 : Int) ∧ (0 : Int) ≤ 2 by omega)) dX9_findLines_185 ?_
              refine f_aload_n C 0 dX9_findLines_186 rfl rfl ?_
              refine f_get C hin9 0 33 rfl rfl (Nat.le_of_ble_eq_true rfl) (by decide +kernel) rfl rfl dX9_findLines_187 ?_
              refine f_aload_n C 0 dX9_findLines_190 rfl rfl ?_
              refine f_ok (fun hO28 => ?_)
              have k29 : 0 ≤ st.1 31 ∧ st.1 31 ≤ 24 := hO28.1 31
              refine f_get C (v := .int (zI (st.1 31))) hin9 0 31 rfl rfl (Nat.le_of_ble_eq_true rfl) (by decide +kernel) rfl rfl dX9_findLines_191 ?_
              refine f_iload C 9 dX9_findLines_194 rfl ?_
              refine f_if_le C 205 ⟨by decide, by decide⟩ dX9_findLines_196 (by decide) (fun c30 => ?_) (fun c30 => absurd c30 (by decide))
              refine f_iload C 6 dX9_findLines_205 rfl ?_
              refine f_if_eq C 214 ⟨by omega, by omega⟩ dX9_findLines_207 (by decide) (fun c31 => ?_) (fun c31 => absurd c13 c31)
              have hq := hI ((6 * (F_X9_editionOf v5 v3 st)) + (st.2 5 v5)) (by omega) (by omega) (by omega)
              refine f_aload_n C 0 dX9_findLines_214 rfl rfl ?_
              refine f_iload C 8 dX9_findLines_215 rfl ?_
              refine f_aload_n C 0 dX9_findLines_217 rfl rfl ?_
              refine f_get C hin9 0 7 rfl rfl (Nat.le_of_ble_eq_true rfl) (by decide +kernel) rfl rfl dX9_findLines_218 ?_
              refine f_iload C 5 dX9_findLines_221 rfl ?_
              refine f_iald C (f := st.2 7) 6 0 rfl rfl ⟨by omega, by omega⟩ (Nat.le_of_ble_eq_true rfl) dX9_findLines_223 ?_
              have k32 : 0 ≤ st.2 7 v5 ∧ st.2 7 v5 ≤ 1000000 := hO28.2 7 v5
              refine f_calll C (c_X9_feeOf hX ((6 * (F_X9_editionOf v5 v3 st)) + (st.2 5 v5)) (st.2 7 v5) ⟨by omega, by omega⟩ ⟨by omega, by omega⟩ (sR (sR (sR st 32 (f_up (st.2 32) (st.1 31) v5)) 34 (f_up (st.2 34) (st.1 31) (F_X9_editionOf v5 v3 st))) 35 (f_up (st.2 35) (st.1 31) 0)) (show 0 ≤ ((6 * (F_X9_editionOf v5 v3 st)) + (st.2 5 v5)) ∧ ((6 * (F_X9_editionOf v5 v3 st)) + (st.2 5 v5)) ≤ 35 by omega) (show 0 ≤ (st.2 7 v5) ∧ (st.2 7 v5) ≤ 1000000 by omega) (show 0 ≤ (st.2 19) ((6 * (F_X9_editionOf v5 v3 st)) + (st.2 5 v5)) by omega) (show 0 < (st.2 18) ((6 * (F_X9_editionOf v5 v3 st)) + (st.2 5 v5)) by omega) hq.2) (cwV 2 C.1.2.2.2.2 gX9_findLines_X9_feeOf rfl rfl rfl (by decide +kernel) ⟨Nat.le_of_ble_eq_true rfl, Nat.le_of_ble_eq_true rfl⟩) 0 rfl rfl rfl rfl rfl (Nat.le_of_ble_eq_true rfl) ⟨Nat.zero_le _, Nat.zero_le _⟩ dX9_findLines_224 (fun z u hz33 hu => ?_)
              obtain ⟨qz33, hu, rz33⟩ := hu; replace hu := hu.symm; subst hu; subst qz33
              refine f_last C (mD hX.1 cI cJ cZ cB) (u := sR (sR (sR (sR st 32 (f_up (st.2 32) (st.1 31) v5)) 34 (f_up (st.2 34) (st.1 31) (F_X9_editionOf v5 v3 st))) 35 (f_up (st.2 35) (st.1 31) 0)) 33 (f_up (st.2 33) (st.1 31) (F_X9_feeOf ((6 * (F_X9_editionOf v5 v3 st)) + (st.2 5 v5)) (st.2 7 v5) (sR (sR (sR st 32 (f_up (st.2 32) (st.1 31) v5)) 34 (f_up (st.2 34) (st.1 31) (F_X9_editionOf v5 v3 st))) 35 (f_up (st.2 35) (st.1 31) 0))))) (f := st.2 33) 27 1 rfl rfl ⟨by omega, by omega⟩ (Nat.le_of_ble_eq_true rfl) rfl (fun h => fOk_up h (r := 33) (show (-1) ≤ (F_X9_feeOf ((6 * (F_X9_editionOf v5 v3 st)) + (st.2 5 v5)) (st.2 7 v5) (sR (sR (sR st 32 (f_up (st.2 32) (st.1 31) v5)) 34 (f_up (st.2 34) (st.1 31) (F_X9_editionOf v5 v3 st))) 35 (f_up (st.2 35) (st.1 31) 0))) ∧ (F_X9_feeOf ((6 * (F_X9_editionOf v5 v3 st)) + (st.2 5 v5)) (st.2 7 v5) (sR (sR (sR st 32 (f_up (st.2 32) (st.1 31) v5)) 34 (f_up (st.2 34) (st.1 31) (F_X9_editionOf v5 v3 st))) 35 (f_up (st.2 35) (st.1 31) 0))) ≤ 1000000000000 by omega)) dX9_findLines_227 ?_
              refine f_aload_n C 0 dX9_findLines_228 rfl rfl ?_
              refine f_dup C dX9_findLines_229 rfl ?_
              refine f_ok (fun hO34 => ?_)
              have k35 : 0 ≤ st.1 31 ∧ st.1 31 ≤ 24 := hO34.1 31
              refine f_get C (v := .int (zI (st.1 31))) hin9 0 31 rfl rfl (Nat.le_of_ble_eq_true rfl) (by decide +kernel) rfl rfl dX9_findLines_230 ?_
              refine f_iconst C dX9_findLines_233 ?_
              refine f_iadd C dX9_findLines_234 ?_
              refine f_put C (mD hX.1 cI cJ cZ cB) hin9 tyX9 tyX9_ok nmX9 0 31 rfl rfl (Nat.le_of_ble_eq_true rfl) (by decide +kernel) rfl rfl (ty := .int) (by decide +kernel) rfl rfl (Nat.le_of_ble_eq_true rfl) (u := sN (sR (sR (sR (sR st 32 (f_up (st.2 32) (st.1 31) v5)) 34 (f_up (st.2 34) (st.1 31) (F_X9_editionOf v5 v3 st))) 35 (f_up (st.2 35) (st.1 31) 0)) 33 (f_up (st.2 33) (st.1 31) (F_X9_feeOf ((6 * (F_X9_editionOf v5 v3 st)) + (st.2 5 v5)) (st.2 7 v5) (sR (sR (sR st 32 (f_up (st.2 32) (st.1 31) v5)) 34 (f_up (st.2 34) (st.1 31) (F_X9_editionOf v5 v3 st))) 35 (f_up (st.2 35) (st.1 31) 0))))) 31 ((st.1 31) + 1)) rfl (fun h => fOk_N h (show 0 ≤ ((st.1 31) + 1) ∧ ((st.1 31) + 1) ≤ 24 by omega)) dX9_findLines_235 ?_
              refine f_iinc C (lv' := [(5, .int (zI (v5 + 1))), (9, .int (zI 0)), (8, .int (zI ((6 * (F_X9_editionOf v5 v3 st)) + (st.2 5 v5)))), (7, .int (zI (F_X9_editionOf v5 v3 st))), (6, .int (zI (F_X9_isRelieved v5 st))), (0, .ref (b 0)), (1, .int (zI v1)), (2, .int (zI v2)), (3, .long (zJ v3))]) 8 dX9_findLines_238 rfl (Nat.le_of_ble_eq_true rfl) rfl ?_
              refine f_goto C 8 dX9_findLines_241 (by decide) ?_
              refine f_re (lv' := [(0, .ref (b 0)), (1, .int (zI v1)), (2, .int (zI v2)), (3, .long (zJ v3)), (5, .int (zI (v5 + 1)))]) [5, 6, 7, 8, 0] rfl ?_
              refine f_ok (fun hO36 => ?_)
              have k37 : 0 ≤ st.1 3 ∧ st.1 3 ≤ 24 := hO36.1 3
              exact ih (v5 + 1) (sN (sR (sR (sR (sR st 32 (f_up (st.2 32) (st.1 31) v5)) 34 (f_up (st.2 34) (st.1 31) (F_X9_editionOf v5 v3 st))) 35 (f_up (st.2 35) (st.1 31) 0)) 33 (f_up (st.2 33) (st.1 31) (F_X9_feeOf ((6 * (F_X9_editionOf v5 v3 st)) + (st.2 5 v5)) (st.2 7 v5) (sR (sR (sR st 32 (f_up (st.2 32) (st.1 31) v5)) 34 (f_up (st.2 34) (st.1 31) (F_X9_editionOf v5 v3 st))) 35 (f_up (st.2 35) (st.1 31) 0))))) 31 ((st.1 31) + 1)) ⟨by omega, by omega⟩ (show 0 ≤ (v5 + 1) ∧ (v5 + 1) ≤ (st.1 3) by omega) (show (st.1 3) ≤ 24 by omega) (show 0 ≤ ((st.1 31) + 1) ∧ ((st.1 31) + 1) ≤ (v5 + 1) by omega) (mSteps_keep hI rfl rfl rfl rfl rfl rfl) (show (st.1 3) - (v5 + 1) < ((n : Nat) : Int) by omega) (fun u e2 => hp u (by rw [F_X9_findLines_8, if_neg c3, if_pos c5, if_pos c8, if_pos c11, if_pos c13, if_pos c15, if_neg c20, if_neg c22]; exact e2))
            refine f_iconst C dX9_findLines_146 ?_
            refine f_goto C 151 dX9_findLines_147 (by decide) ?_
            refine f_istore C (lv' := [(9, .int (zI 2)), (8, .int (zI ((6 * (F_X9_editionOf v5 v3 st)) + (st.2 5 v5)))), (7, .int (zI (F_X9_editionOf v5 v3 st))), (6, .int (zI (F_X9_isRelieved v5 st))), (0, .ref (b 0)), (1, .int (zI v1)), (2, .int (zI v2)), (3, .long (zJ v3)), (5, .int (zI v5))]) dX9_findLines_151 (Nat.le_of_ble_eq_true rfl) rfl ?_
            refine f_aload_n C 0 dX9_findLines_153 rfl rfl ?_
            refine f_get C hin9 0 32 rfl rfl (Nat.le_of_ble_eq_true rfl) (by decide +kernel) rfl rfl dX9_findLines_154 ?_
            refine f_aload_n C 0 dX9_findLines_157 rfl rfl ?_
            have k38 : 0 ≤ st.1 31 ∧ st.1 31 ≤ 24 := hO1.1 31
            refine f_get C (v := .int (zI (st.1 31))) hin9 0 31 rfl rfl (Nat.le_of_ble_eq_true rfl) (by decide +kernel) rfl rfl dX9_findLines_158 ?_
            refine f_iload C 5 dX9_findLines_161 rfl ?_
            refine f_iast C (mD hX.1 cI cJ cZ cB) (u := sR st 32 (f_up (st.2 32) (st.1 31) v5)) (f := st.2 32) 26 0 rfl rfl ⟨by omega, by omega⟩ (Nat.le_of_ble_eq_true rfl) rfl (fun h => fOk_up h (r := 32) (show 0 ≤ v5 ∧ v5 ≤ 23 by omega)) dX9_findLines_163 ?_
            refine f_aload_n C 0 dX9_findLines_164 rfl rfl ?_
            refine f_get C hin9 0 34 rfl rfl (Nat.le_of_ble_eq_true rfl) (by decide +kernel) rfl rfl dX9_findLines_165 ?_
            refine f_aload_n C 0 dX9_findLines_168 rfl rfl ?_
            refine f_ok (fun hO39 => ?_)
            have k40 : 0 ≤ st.1 31 ∧ st.1 31 ≤ 24 := hO39.1 31
            refine f_get C (v := .int (zI (st.1 31))) hin9 0 31 rfl rfl (Nat.le_of_ble_eq_true rfl) (by decide +kernel) rfl rfl dX9_findLines_169 ?_
            refine f_iload C 7 dX9_findLines_172 rfl ?_
            refine f_iast C (mD hX.1 cI cJ cZ cB) (u := sR (sR st 32 (f_up (st.2 32) (st.1 31) v5)) 34 (f_up (st.2 34) (st.1 31) (F_X9_editionOf v5 v3 st))) (f := st.2 34) 28 0 rfl rfl ⟨by omega, by omega⟩ (Nat.le_of_ble_eq_true rfl) rfl (fun h => fOk_up h (r := 34) (show (-1) ≤ (F_X9_editionOf v5 v3 st) ∧ (F_X9_editionOf v5 v3 st) ≤ 5 by omega)) dX9_findLines_174 ?_
            refine f_aload_n C 0 dX9_findLines_175 rfl rfl ?_
            refine f_get C hin9 0 35 rfl rfl (Nat.le_of_ble_eq_true rfl) (by decide +kernel) rfl rfl dX9_findLines_176 ?_
            refine f_aload_n C 0 dX9_findLines_179 rfl rfl ?_
            refine f_ok (fun hO41 => ?_)
            have k42 : 0 ≤ st.1 31 ∧ st.1 31 ≤ 24 := hO41.1 31
            refine f_get C (v := .int (zI (st.1 31))) hin9 0 31 rfl rfl (Nat.le_of_ble_eq_true rfl) (by decide +kernel) rfl rfl dX9_findLines_180 ?_
            refine f_iload C 9 dX9_findLines_183 rfl ?_
            refine f_iast C (mD hX.1 cI cJ cZ cB) (u := sR (sR (sR st 32 (f_up (st.2 32) (st.1 31) v5)) 34 (f_up (st.2 34) (st.1 31) (F_X9_editionOf v5 v3 st))) 35 (f_up (st.2 35) (st.1 31) 2)) (f := st.2 35) 29 0 rfl rfl ⟨by omega, by omega⟩ (Nat.le_of_ble_eq_true rfl) rfl (fun h => fOk_up h (r := 35) (show 0 ≤ (2 : Int) ∧ (2 : Int) ≤ 2 by omega)) dX9_findLines_185 ?_
            refine f_aload_n C 0 dX9_findLines_186 rfl rfl ?_
            refine f_get C hin9 0 33 rfl rfl (Nat.le_of_ble_eq_true rfl) (by decide +kernel) rfl rfl dX9_findLines_187 ?_
            refine f_aload_n C 0 dX9_findLines_190 rfl rfl ?_
            refine f_ok (fun hO43 => ?_)
            have k44 : 0 ≤ st.1 31 ∧ st.1 31 ≤ 24 := hO43.1 31
            refine f_get C (v := .int (zI (st.1 31))) hin9 0 31 rfl rfl (Nat.le_of_ble_eq_true rfl) (by decide +kernel) rfl rfl dX9_findLines_191 ?_
            refine f_iload C 9 dX9_findLines_194 rfl ?_
            refine f_if_le C 205 ⟨by decide, by decide⟩ dX9_findLines_196 (by decide) (fun c45 => absurd c45 (by decide)) (fun c45 => ?_)
            refine f_ldc2 C (v := (-1)) (z := (-1)) (by decide +kernel) (by decide) dX9_findLines_199 ?_
            refine f_goto C 227 dX9_findLines_202 (by decide) ?_
            refine f_last C (mD hX.1 cI cJ cZ cB) (u := sR (sR (sR (sR st 32 (f_up (st.2 32) (st.1 31) v5)) 34 (f_up (st.2 34) (st.1 31) (F_X9_editionOf v5 v3 st))) 35 (f_up (st.2 35) (st.1 31) 2)) 33 (f_up (st.2 33) (st.1 31) (-1))) (f := st.2 33) 27 1 rfl rfl ⟨by omega, by omega⟩ (Nat.le_of_ble_eq_true rfl) rfl (fun h => fOk_up h (r := 33) (show (-1) ≤ (-1 : Int) ∧ (-1 : Int) ≤ 1000000000000 by omega)) dX9_findLines_227 ?_
            refine f_aload_n C 0 dX9_findLines_228 rfl rfl ?_
            refine f_dup C dX9_findLines_229 rfl ?_
            refine f_ok (fun hO46 => ?_)
            have k47 : 0 ≤ st.1 31 ∧ st.1 31 ≤ 24 := hO46.1 31
            refine f_get C (v := .int (zI (st.1 31))) hin9 0 31 rfl rfl (Nat.le_of_ble_eq_true rfl) (by decide +kernel) rfl rfl dX9_findLines_230 ?_
            refine f_iconst C dX9_findLines_233 ?_
            refine f_iadd C dX9_findLines_234 ?_
            refine f_put C (mD hX.1 cI cJ cZ cB) hin9 tyX9 tyX9_ok nmX9 0 31 rfl rfl (Nat.le_of_ble_eq_true rfl) (by decide +kernel) rfl rfl (ty := .int) (by decide +kernel) rfl rfl (Nat.le_of_ble_eq_true rfl) (u := sN (sR (sR (sR (sR st 32 (f_up (st.2 32) (st.1 31) v5)) 34 (f_up (st.2 34) (st.1 31) (F_X9_editionOf v5 v3 st))) 35 (f_up (st.2 35) (st.1 31) 2)) 33 (f_up (st.2 33) (st.1 31) (-1))) 31 ((st.1 31) + 1)) rfl (fun h => fOk_N h (show 0 ≤ ((st.1 31) + 1) ∧ ((st.1 31) + 1) ≤ 24 by omega)) dX9_findLines_235 ?_
            refine f_iinc C (lv' := [(5, .int (zI (v5 + 1))), (9, .int (zI 2)), (8, .int (zI ((6 * (F_X9_editionOf v5 v3 st)) + (st.2 5 v5)))), (7, .int (zI (F_X9_editionOf v5 v3 st))), (6, .int (zI (F_X9_isRelieved v5 st))), (0, .ref (b 0)), (1, .int (zI v1)), (2, .int (zI v2)), (3, .long (zJ v3))]) 8 dX9_findLines_238 rfl (Nat.le_of_ble_eq_true rfl) rfl ?_
            refine f_goto C 8 dX9_findLines_241 (by decide) ?_
            refine f_re (lv' := [(0, .ref (b 0)), (1, .int (zI v1)), (2, .int (zI v2)), (3, .long (zJ v3)), (5, .int (zI (v5 + 1)))]) [5, 6, 7, 8, 0] rfl ?_
            refine f_ok (fun hO48 => ?_)
            have k49 : 0 ≤ st.1 3 ∧ st.1 3 ≤ 24 := hO48.1 3
            exact ih (v5 + 1) (sN (sR (sR (sR (sR st 32 (f_up (st.2 32) (st.1 31) v5)) 34 (f_up (st.2 34) (st.1 31) (F_X9_editionOf v5 v3 st))) 35 (f_up (st.2 35) (st.1 31) 2)) 33 (f_up (st.2 33) (st.1 31) (-1))) 31 ((st.1 31) + 1)) ⟨by omega, by omega⟩ (show 0 ≤ (v5 + 1) ∧ (v5 + 1) ≤ (st.1 3) by omega) (show (st.1 3) ≤ 24 by omega) (show 0 ≤ ((st.1 31) + 1) ∧ ((st.1 31) + 1) ≤ (v5 + 1) by omega) (mSteps_keep hI rfl rfl rfl rfl rfl rfl) (show (st.1 3) - (v5 + 1) < ((n : Nat) : Int) by omega) (fun u e2 => hp u (by rw [F_X9_findLines_8, if_neg c3, if_pos c5, if_pos c8, if_pos c11, if_pos c13, if_pos c15, if_neg c20, if_pos c22]; exact e2))
          refine f_iconst C dX9_findLines_132 ?_
          refine f_goto C 151 dX9_findLines_133 (by decide) ?_
          refine f_istore C (lv' := [(9, .int (zI 1)), (8, .int (zI ((6 * (F_X9_editionOf v5 v3 st)) + (st.2 5 v5)))), (7, .int (zI (F_X9_editionOf v5 v3 st))), (6, .int (zI (F_X9_isRelieved v5 st))), (0, .ref (b 0)), (1, .int (zI v1)), (2, .int (zI v2)), (3, .long (zJ v3)), (5, .int (zI v5))]) dX9_findLines_151 (Nat.le_of_ble_eq_true rfl) rfl ?_
          refine f_aload_n C 0 dX9_findLines_153 rfl rfl ?_
          refine f_get C hin9 0 32 rfl rfl (Nat.le_of_ble_eq_true rfl) (by decide +kernel) rfl rfl dX9_findLines_154 ?_
          refine f_aload_n C 0 dX9_findLines_157 rfl rfl ?_
          have k50 : 0 ≤ st.1 31 ∧ st.1 31 ≤ 24 := hO1.1 31
          refine f_get C (v := .int (zI (st.1 31))) hin9 0 31 rfl rfl (Nat.le_of_ble_eq_true rfl) (by decide +kernel) rfl rfl dX9_findLines_158 ?_
          refine f_iload C 5 dX9_findLines_161 rfl ?_
          refine f_iast C (mD hX.1 cI cJ cZ cB) (u := sR st 32 (f_up (st.2 32) (st.1 31) v5)) (f := st.2 32) 26 0 rfl rfl ⟨by omega, by omega⟩ (Nat.le_of_ble_eq_true rfl) rfl (fun h => fOk_up h (r := 32) (show 0 ≤ v5 ∧ v5 ≤ 23 by omega)) dX9_findLines_163 ?_
          refine f_aload_n C 0 dX9_findLines_164 rfl rfl ?_
          refine f_get C hin9 0 34 rfl rfl (Nat.le_of_ble_eq_true rfl) (by decide +kernel) rfl rfl dX9_findLines_165 ?_
          refine f_aload_n C 0 dX9_findLines_168 rfl rfl ?_
          refine f_ok (fun hO51 => ?_)
          have k52 : 0 ≤ st.1 31 ∧ st.1 31 ≤ 24 := hO51.1 31
          refine f_get C (v := .int (zI (st.1 31))) hin9 0 31 rfl rfl (Nat.le_of_ble_eq_true rfl) (by decide +kernel) rfl rfl dX9_findLines_169 ?_
          refine f_iload C 7 dX9_findLines_172 rfl ?_
          refine f_iast C (mD hX.1 cI cJ cZ cB) (u := sR (sR st 32 (f_up (st.2 32) (st.1 31) v5)) 34 (f_up (st.2 34) (st.1 31) (F_X9_editionOf v5 v3 st))) (f := st.2 34) 28 0 rfl rfl ⟨by omega, by omega⟩ (Nat.le_of_ble_eq_true rfl) rfl (fun h => fOk_up h (r := 34) (show (-1) ≤ (F_X9_editionOf v5 v3 st) ∧ (F_X9_editionOf v5 v3 st) ≤ 5 by omega)) dX9_findLines_174 ?_
          refine f_aload_n C 0 dX9_findLines_175 rfl rfl ?_
          refine f_get C hin9 0 35 rfl rfl (Nat.le_of_ble_eq_true rfl) (by decide +kernel) rfl rfl dX9_findLines_176 ?_
          refine f_aload_n C 0 dX9_findLines_179 rfl rfl ?_
          refine f_ok (fun hO53 => ?_)
          have k54 : 0 ≤ st.1 31 ∧ st.1 31 ≤ 24 := hO53.1 31
          refine f_get C (v := .int (zI (st.1 31))) hin9 0 31 rfl rfl (Nat.le_of_ble_eq_true rfl) (by decide +kernel) rfl rfl dX9_findLines_180 ?_
          refine f_iload C 9 dX9_findLines_183 rfl ?_
          refine f_iast C (mD hX.1 cI cJ cZ cB) (u := sR (sR (sR st 32 (f_up (st.2 32) (st.1 31) v5)) 34 (f_up (st.2 34) (st.1 31) (F_X9_editionOf v5 v3 st))) 35 (f_up (st.2 35) (st.1 31) 1)) (f := st.2 35) 29 0 rfl rfl ⟨by omega, by omega⟩ (Nat.le_of_ble_eq_true rfl) rfl (fun h => fOk_up h (r := 35) (show 0 ≤ (1 : Int) ∧ (1 : Int) ≤ 2 by omega)) dX9_findLines_185 ?_
          refine f_aload_n C 0 dX9_findLines_186 rfl rfl ?_
          refine f_get C hin9 0 33 rfl rfl (Nat.le_of_ble_eq_true rfl) (by decide +kernel) rfl rfl dX9_findLines_187 ?_
          refine f_aload_n C 0 dX9_findLines_190 rfl rfl ?_
          refine f_ok (fun hO55 => ?_)
          have k56 : 0 ≤ st.1 31 ∧ st.1 31 ≤ 24 := hO55.1 31
          refine f_get C (v := .int (zI (st.1 31))) hin9 0 31 rfl rfl (Nat.le_of_ble_eq_true rfl) (by decide +kernel) rfl rfl dX9_findLines_191 ?_
          refine f_iload C 9 dX9_findLines_194 rfl ?_
          refine f_if_le C 205 ⟨by decide, by decide⟩ dX9_findLines_196 (by decide) (fun c57 => absurd c57 (by decide)) (fun c57 => ?_)
          refine f_ldc2 C (v := (-1)) (z := (-1)) (by decide +kernel) (by decide) dX9_findLines_199 ?_
          refine f_goto C 227 dX9_findLines_202 (by decide) ?_
          refine f_last C (mD hX.1 cI cJ cZ cB) (u := sR (sR (sR (sR st 32 (f_up (st.2 32) (st.1 31) v5)) 34 (f_up (st.2 34) (st.1 31) (F_X9_editionOf v5 v3 st))) 35 (f_up (st.2 35) (st.1 31) 1)) 33 (f_up (st.2 33) (st.1 31) (-1))) (f := st.2 33) 27 1 rfl rfl ⟨by omega, by omega⟩ (Nat.le_of_ble_eq_true rfl) rfl (fun h => fOk_up h (r := 33) (show (-1) ≤ (-1 : Int) ∧ (-1 : Int) ≤ 1000000000000 by omega)) dX9_findLines_227 ?_
          refine f_aload_n C 0 dX9_findLines_228 rfl rfl ?_
          refine f_dup C dX9_findLines_229 rfl ?_
          refine f_ok (fun hO58 => ?_)
          have k59 : 0 ≤ st.1 31 ∧ st.1 31 ≤ 24 := hO58.1 31
          refine f_get C (v := .int (zI (st.1 31))) hin9 0 31 rfl rfl (Nat.le_of_ble_eq_true rfl) (by decide +kernel) rfl rfl dX9_findLines_230 ?_
          refine f_iconst C dX9_findLines_233 ?_
          refine f_iadd C dX9_findLines_234 ?_
          refine f_put C (mD hX.1 cI cJ cZ cB) hin9 tyX9 tyX9_ok nmX9 0 31 rfl rfl (Nat.le_of_ble_eq_true rfl) (by decide +kernel) rfl rfl (ty := .int) (by decide +kernel) rfl rfl (Nat.le_of_ble_eq_true rfl) (u := sN (sR (sR (sR (sR st 32 (f_up (st.2 32) (st.1 31) v5)) 34 (f_up (st.2 34) (st.1 31) (F_X9_editionOf v5 v3 st))) 35 (f_up (st.2 35) (st.1 31) 1)) 33 (f_up (st.2 33) (st.1 31) (-1))) 31 ((st.1 31) + 1)) rfl (fun h => fOk_N h (show 0 ≤ ((st.1 31) + 1) ∧ ((st.1 31) + 1) ≤ 24 by omega)) dX9_findLines_235 ?_
          refine f_iinc C (lv' := [(5, .int (zI (v5 + 1))), (9, .int (zI 1)), (8, .int (zI ((6 * (F_X9_editionOf v5 v3 st)) + (st.2 5 v5)))), (7, .int (zI (F_X9_editionOf v5 v3 st))), (6, .int (zI (F_X9_isRelieved v5 st))), (0, .ref (b 0)), (1, .int (zI v1)), (2, .int (zI v2)), (3, .long (zJ v3))]) 8 dX9_findLines_238 rfl (Nat.le_of_ble_eq_true rfl) rfl ?_
          refine f_goto C 8 dX9_findLines_241 (by decide) ?_
          refine f_re (lv' := [(0, .ref (b 0)), (1, .int (zI v1)), (2, .int (zI v2)), (3, .long (zJ v3)), (5, .int (zI (v5 + 1)))]) [5, 6, 7, 8, 0] rfl ?_
          refine f_ok (fun hO60 => ?_)
          have k61 : 0 ≤ st.1 3 ∧ st.1 3 ≤ 24 := hO60.1 3
          exact ih (v5 + 1) (sN (sR (sR (sR (sR st 32 (f_up (st.2 32) (st.1 31) v5)) 34 (f_up (st.2 34) (st.1 31) (F_X9_editionOf v5 v3 st))) 35 (f_up (st.2 35) (st.1 31) 1)) 33 (f_up (st.2 33) (st.1 31) (-1))) 31 ((st.1 31) + 1)) ⟨by omega, by omega⟩ (show 0 ≤ (v5 + 1) ∧ (v5 + 1) ≤ (st.1 3) by omega) (show (st.1 3) ≤ 24 by omega) (show 0 ≤ ((st.1 31) + 1) ∧ ((st.1 31) + 1) ≤ (v5 + 1) by omega) (mSteps_keep hI rfl rfl rfl rfl rfl rfl) (show (st.1 3) - (v5 + 1) < ((n : Nat) : Int) by omega) (fun u e2 => hp u (by rw [F_X9_findLines_8, if_neg c3, if_pos c5, if_pos c8, if_pos c11, if_pos c13, if_pos c15, if_pos c20]; exact e2))
        refine f_iconst C dX9_findLines_89 ?_
        refine f_goto C 106 dX9_findLines_90 (by decide) ?_
        refine f_istore C (lv' := [(8, .int (zI 0)), (7, .int (zI (F_X9_editionOf v5 v3 st))), (6, .int (zI (F_X9_isRelieved v5 st))), (0, .ref (b 0)), (1, .int (zI v1)), (2, .int (zI v2)), (3, .long (zJ v3)), (5, .int (zI v5))]) dX9_findLines_106 (Nat.le_of_ble_eq_true rfl) rfl ?_
        refine f_iload C 6 dX9_findLines_108 rfl ?_
        refine f_if_eq C 117 ⟨by omega, by omega⟩ dX9_findLines_110 (by decide) (fun c62 => ?_) (fun c62 => absurd c13 c62)
        refine f_iload C 7 dX9_findLines_117 rfl ?_
        refine f_if_lt C 132 ⟨by omega, by omega⟩ dX9_findLines_119 (by decide) (fun c63 => ?_) (fun c63 => absurd c63 (by omega))
        refine f_iconst C dX9_findLines_132 ?_
        refine f_goto C 151 dX9_findLines_133 (by decide) ?_
        refine f_istore C (lv' := [(9, .int (zI 1)), (8, .int (zI 0)), (7, .int (zI (F_X9_editionOf v5 v3 st))), (6, .int (zI (F_X9_isRelieved v5 st))), (0, .ref (b 0)), (1, .int (zI v1)), (2, .int (zI v2)), (3, .long (zJ v3)), (5, .int (zI v5))]) dX9_findLines_151 (Nat.le_of_ble_eq_true rfl) rfl ?_
        refine f_aload_n C 0 dX9_findLines_153 rfl rfl ?_
        refine f_get C hin9 0 32 rfl rfl (Nat.le_of_ble_eq_true rfl) (by decide +kernel) rfl rfl dX9_findLines_154 ?_
        refine f_aload_n C 0 dX9_findLines_157 rfl rfl ?_
        have k64 : 0 ≤ st.1 31 ∧ st.1 31 ≤ 24 := hO1.1 31
        refine f_get C (v := .int (zI (st.1 31))) hin9 0 31 rfl rfl (Nat.le_of_ble_eq_true rfl) (by decide +kernel) rfl rfl dX9_findLines_158 ?_
        refine f_iload C 5 dX9_findLines_161 rfl ?_
        refine f_iast C (mD hX.1 cI cJ cZ cB) (u := sR st 32 (f_up (st.2 32) (st.1 31) v5)) (f := st.2 32) 26 0 rfl rfl ⟨by omega, by omega⟩ (Nat.le_of_ble_eq_true rfl) rfl (fun h => fOk_up h (r := 32) (show 0 ≤ v5 ∧ v5 ≤ 23 by omega)) dX9_findLines_163 ?_
        refine f_aload_n C 0 dX9_findLines_164 rfl rfl ?_
        refine f_get C hin9 0 34 rfl rfl (Nat.le_of_ble_eq_true rfl) (by decide +kernel) rfl rfl dX9_findLines_165 ?_
        refine f_aload_n C 0 dX9_findLines_168 rfl rfl ?_
        refine f_ok (fun hO65 => ?_)
        have k66 : 0 ≤ st.1 31 ∧ st.1 31 ≤ 24 := hO65.1 31
        refine f_get C (v := .int (zI (st.1 31))) hin9 0 31 rfl rfl (Nat.le_of_ble_eq_true rfl) (by decide +kernel) rfl rfl dX9_findLines_169 ?_
        refine f_iload C 7 dX9_findLines_172 rfl ?_
        refine f_iast C (mD hX.1 cI cJ cZ cB) (u := sR (sR st 32 (f_up (st.2 32) (st.1 31) v5)) 34 (f_up (st.2 34) (st.1 31) (F_X9_editionOf v5 v3 st))) (f := st.2 34) 28 0 rfl rfl ⟨by omega, by omega⟩ (Nat.le_of_ble_eq_true rfl) rfl (fun h => fOk_up h (r := 34) (show (-1) ≤ (F_X9_editionOf v5 v3 st) ∧ (F_X9_editionOf v5 v3 st) ≤ 5 by omega)) dX9_findLines_174 ?_
        refine f_aload_n C 0 dX9_findLines_175 rfl rfl ?_
        refine f_get C hin9 0 35 rfl rfl (Nat.le_of_ble_eq_true rfl) (by decide +kernel) rfl rfl dX9_findLines_176 ?_
        refine f_aload_n C 0 dX9_findLines_179 rfl rfl ?_
        refine f_ok (fun hO67 => ?_)
        have k68 : 0 ≤ st.1 31 ∧ st.1 31 ≤ 24 := hO67.1 31
        refine f_get C (v := .int (zI (st.1 31))) hin9 0 31 rfl rfl (Nat.le_of_ble_eq_true rfl) (by decide +kernel) rfl rfl dX9_findLines_180 ?_
        refine f_iload C 9 dX9_findLines_183 rfl ?_
        refine f_iast C (mD hX.1 cI cJ cZ cB) (u := sR (sR (sR st 32 (f_up (st.2 32) (st.1 31) v5)) 34 (f_up (st.2 34) (st.1 31) (F_X9_editionOf v5 v3 st))) 35 (f_up (st.2 35) (st.1 31) 1)) (f := st.2 35) 29 0 rfl rfl ⟨by omega, by omega⟩ (Nat.le_of_ble_eq_true rfl) rfl (fun h => fOk_up h (r := 35) (show 0 ≤ (1 : Int) ∧ (1 : Int) ≤ 2 by omega)) dX9_findLines_185 ?_
        refine f_aload_n C 0 dX9_findLines_186 rfl rfl ?_
        refine f_get C hin9 0 33 rfl rfl (Nat.le_of_ble_eq_true rfl) (by decide +kernel) rfl rfl dX9_findLines_187 ?_
        refine f_aload_n C 0 dX9_findLines_190 rfl rfl ?_
        refine f_ok (fun hO69 => ?_)
        have k70 : 0 ≤ st.1 31 ∧ st.1 31 ≤ 24 := hO69.1 31
        refine f_get C (v := .int (zI (st.1 31))) hin9 0 31 rfl rfl (Nat.le_of_ble_eq_true rfl) (by decide +kernel) rfl rfl dX9_findLines_191 ?_
        refine f_iload C 9 dX9_findLines_194 rfl ?_
        refine f_if_le C 205 ⟨by decide, by decide⟩ dX9_findLines_196 (by decide) (fun c71 => absurd c71 (by decide)) (fun c71 => ?_)
        refine f_ldc2 C (v := (-1)) (z := (-1)) (by decide +kernel) (by decide) dX9_findLines_199 ?_
        refine f_goto C 227 dX9_findLines_202 (by decide) ?_
        refine f_last C (mD hX.1 cI cJ cZ cB) (u := sR (sR (sR (sR st 32 (f_up (st.2 32) (st.1 31) v5)) 34 (f_up (st.2 34) (st.1 31) (F_X9_editionOf v5 v3 st))) 35 (f_up (st.2 35) (st.1 31) 1)) 33 (f_up (st.2 33) (st.1 31) (-1))) (f := st.2 33) 27 1 rfl rfl ⟨by omega, by omega⟩ (Nat.le_of_ble_eq_true rfl) rfl (fun h => fOk_up h (r := 33) (show (-1) ≤ (-1 : Int) ∧ (-1 : Int) ≤ 1000000000000 by omega)) dX9_findLines_227 ?_
        refine f_aload_n C 0 dX9_findLines_228 rfl rfl ?_
        refine f_dup C dX9_findLines_229 rfl ?_
        refine f_ok (fun hO72 => ?_)
        have k73 : 0 ≤ st.1 31 ∧ st.1 31 ≤ 24 := hO72.1 31
        refine f_get C (v := .int (zI (st.1 31))) hin9 0 31 rfl rfl (Nat.le_of_ble_eq_true rfl) (by decide +kernel) rfl rfl dX9_findLines_230 ?_
        refine f_iconst C dX9_findLines_233 ?_
        refine f_iadd C dX9_findLines_234 ?_
        refine f_put C (mD hX.1 cI cJ cZ cB) hin9 tyX9 tyX9_ok nmX9 0 31 rfl rfl (Nat.le_of_ble_eq_true rfl) (by decide +kernel) rfl rfl (ty := .int) (by decide +kernel) rfl rfl (Nat.le_of_ble_eq_true rfl) (u := sN (sR (sR (sR (sR st 32 (f_up (st.2 32) (st.1 31) v5)) 34 (f_up (st.2 34) (st.1 31) (F_X9_editionOf v5 v3 st))) 35 (f_up (st.2 35) (st.1 31) 1)) 33 (f_up (st.2 33) (st.1 31) (-1))) 31 ((st.1 31) + 1)) rfl (fun h => fOk_N h (show 0 ≤ ((st.1 31) + 1) ∧ ((st.1 31) + 1) ≤ 24 by omega)) dX9_findLines_235 ?_
        refine f_iinc C (lv' := [(5, .int (zI (v5 + 1))), (9, .int (zI 1)), (8, .int (zI 0)), (7, .int (zI (F_X9_editionOf v5 v3 st))), (6, .int (zI (F_X9_isRelieved v5 st))), (0, .ref (b 0)), (1, .int (zI v1)), (2, .int (zI v2)), (3, .long (zJ v3))]) 8 dX9_findLines_238 rfl (Nat.le_of_ble_eq_true rfl) rfl ?_
        refine f_goto C 8 dX9_findLines_241 (by decide) ?_
        refine f_re (lv' := [(0, .ref (b 0)), (1, .int (zI v1)), (2, .int (zI v2)), (3, .long (zJ v3)), (5, .int (zI (v5 + 1)))]) [5, 6, 7, 8, 0] rfl ?_
        refine f_ok (fun hO74 => ?_)
        have k75 : 0 ≤ st.1 3 ∧ st.1 3 ≤ 24 := hO74.1 3
        exact ih (v5 + 1) (sN (sR (sR (sR (sR st 32 (f_up (st.2 32) (st.1 31) v5)) 34 (f_up (st.2 34) (st.1 31) (F_X9_editionOf v5 v3 st))) 35 (f_up (st.2 35) (st.1 31) 1)) 33 (f_up (st.2 33) (st.1 31) (-1))) 31 ((st.1 31) + 1)) ⟨by omega, by omega⟩ (show 0 ≤ (v5 + 1) ∧ (v5 + 1) ≤ (st.1 3) by omega) (show (st.1 3) ≤ 24 by omega) (show 0 ≤ ((st.1 31) + 1) ∧ ((st.1 31) + 1) ≤ (v5 + 1) by omega) (mSteps_keep hI rfl rfl rfl rfl rfl rfl) (show (st.1 3) - (v5 + 1) < ((n : Nat) : Int) by omega) (fun u e2 => hp u (by rw [F_X9_findLines_8, if_neg c3, if_pos c5, if_pos c8, if_pos c11, if_pos c13, if_neg c15]; exact e2))
      refine f_iconst C dX9_findLines_71 ?_
      refine f_goto C 82 dX9_findLines_72 (by decide) ?_
      refine f_istore C (lv' := [(7, .int (zI (-1))), (6, .int (zI (F_X9_isRelieved v5 st))), (0, .ref (b 0)), (1, .int (zI v1)), (2, .int (zI v2)), (3, .long (zJ v3)), (5, .int (zI v5))]) dX9_findLines_82 (Nat.le_of_ble_eq_true rfl) rfl ?_
      refine f_iload C 7 dX9_findLines_84 rfl ?_
      refine f_if_ge C 93 ⟨by decide, by decide⟩ dX9_findLines_86 (by decide) (fun c76 => absurd c76 (by decide)) (fun c76 => ?_)
      refine f_iconst C dX9_findLines_89 ?_
      refine f_goto C 106 dX9_findLines_90 (by decide) ?_
      refine f_istore C (lv' := [(8, .int (zI 0)), (7, .int (zI (-1))), (6, .int (zI (F_X9_isRelieved v5 st))), (0, .ref (b 0)), (1, .int (zI v1)), (2, .int (zI v2)), (3, .long (zJ v3)), (5, .int (zI v5))]) dX9_findLines_106 (Nat.le_of_ble_eq_true rfl) rfl ?_
      refine f_iload C 6 dX9_findLines_108 rfl ?_
      refine f_if_eq C 117 ⟨by omega, by omega⟩ dX9_findLines_110 (by decide) (fun c77 => absurd c77 c13) (fun c77 => ?_)
      refine f_iconst C dX9_findLines_113 ?_
      refine f_goto C 151 dX9_findLines_114 (by decide) ?_
      refine f_istore C (lv' := [(9, .int (zI 0)), (8, .int (zI 0)), (7, .int (zI (-1))), (6, .int (zI (F_X9_isRelieved v5 st))), (0, .ref (b 0)), (1, .int (zI v1)), (2, .int (zI v2)), (3, .long (zJ v3)), (5, .int (zI v5))]) dX9_findLines_151 (Nat.le_of_ble_eq_true rfl) rfl ?_
      refine f_aload_n C 0 dX9_findLines_153 rfl rfl ?_
      refine f_get C hin9 0 32 rfl rfl (Nat.le_of_ble_eq_true rfl) (by decide +kernel) rfl rfl dX9_findLines_154 ?_
      refine f_aload_n C 0 dX9_findLines_157 rfl rfl ?_
      have k78 : 0 ≤ st.1 31 ∧ st.1 31 ≤ 24 := hO1.1 31
      refine f_get C (v := .int (zI (st.1 31))) hin9 0 31 rfl rfl (Nat.le_of_ble_eq_true rfl) (by decide +kernel) rfl rfl dX9_findLines_158 ?_
      refine f_iload C 5 dX9_findLines_161 rfl ?_
      refine f_iast C (mD hX.1 cI cJ cZ cB) (u := sR st 32 (f_up (st.2 32) (st.1 31) v5)) (f := st.2 32) 26 0 rfl rfl ⟨by omega, by omega⟩ (Nat.le_of_ble_eq_true rfl) rfl (fun h => fOk_up h (r := 32) (show 0 ≤ v5 ∧ v5 ≤ 23 by omega)) dX9_findLines_163 ?_
      refine f_aload_n C 0 dX9_findLines_164 rfl rfl ?_
      refine f_get C hin9 0 34 rfl rfl (Nat.le_of_ble_eq_true rfl) (by decide +kernel) rfl rfl dX9_findLines_165 ?_
      refine f_aload_n C 0 dX9_findLines_168 rfl rfl ?_
      refine f_ok (fun hO79 => ?_)
      have k80 : 0 ≤ st.1 31 ∧ st.1 31 ≤ 24 := hO79.1 31
      refine f_get C (v := .int (zI (st.1 31))) hin9 0 31 rfl rfl (Nat.le_of_ble_eq_true rfl) (by decide +kernel) rfl rfl dX9_findLines_169 ?_
      refine f_iload C 7 dX9_findLines_172 rfl ?_
      refine f_iast C (mD hX.1 cI cJ cZ cB) (u := sR (sR st 32 (f_up (st.2 32) (st.1 31) v5)) 34 (f_up (st.2 34) (st.1 31) (-1))) (f := st.2 34) 28 0 rfl rfl ⟨by omega, by omega⟩ (Nat.le_of_ble_eq_true rfl) rfl (fun h => fOk_up h (r := 34) (show (-1) ≤ (-1 : Int) ∧ (-1 : Int) ≤ 5 by omega)) dX9_findLines_174 ?_
      refine f_aload_n C 0 dX9_findLines_175 rfl rfl ?_
      refine f_get C hin9 0 35 rfl rfl (Nat.le_of_ble_eq_true rfl) (by decide +kernel) rfl rfl dX9_findLines_176 ?_
      refine f_aload_n C 0 dX9_findLines_179 rfl rfl ?_
      refine f_ok (fun hO81 => ?_)
      have k82 : 0 ≤ st.1 31 ∧ st.1 31 ≤ 24 := hO81.1 31
      refine f_get C (v := .int (zI (st.1 31))) hin9 0 31 rfl rfl (Nat.le_of_ble_eq_true rfl) (by decide +kernel) rfl rfl dX9_findLines_180 ?_
      refine f_iload C 9 dX9_findLines_183 rfl ?_
      refine f_iast C (mD hX.1 cI cJ cZ cB) (u := sR (sR (sR st 32 (f_up (st.2 32) (st.1 31) v5)) 34 (f_up (st.2 34) (st.1 31) (-1))) 35 (f_up (st.2 35) (st.1 31) 0)) (f := st.2 35) 29 0 rfl rfl ⟨by omega, by omega⟩ (Nat.le_of_ble_eq_true rfl) rfl (fun h => fOk_up h (r := 35) (show 0 ≤ (0 : Int) ∧ (0 : Int) ≤ 2 by omega)) dX9_findLines_185 ?_
      refine f_aload_n C 0 dX9_findLines_186 rfl rfl ?_
      refine f_get C hin9 0 33 rfl rfl (Nat.le_of_ble_eq_true rfl) (by decide +kernel) rfl rfl dX9_findLines_187 ?_
      refine f_aload_n C 0 dX9_findLines_190 rfl rfl ?_
      refine f_ok (fun hO83 => ?_)
      have k84 : 0 ≤ st.1 31 ∧ st.1 31 ≤ 24 := hO83.1 31
      refine f_get C (v := .int (zI (st.1 31))) hin9 0 31 rfl rfl (Nat.le_of_ble_eq_true rfl) (by decide +kernel) rfl rfl dX9_findLines_191 ?_
      refine f_iload C 9 dX9_findLines_194 rfl ?_
      refine f_if_le C 205 ⟨by decide, by decide⟩ dX9_findLines_196 (by decide) (fun c85 => ?_) (fun c85 => absurd c85 (by decide))
      refine f_iload C 6 dX9_findLines_205 rfl ?_
      refine f_if_eq C 214 ⟨by omega, by omega⟩ dX9_findLines_207 (by decide) (fun c86 => absurd c86 c13) (fun c86 => ?_)
      refine f_lconst C (z := 0) dX9_findLines_210 rfl ?_
      refine f_goto C 227 dX9_findLines_211 (by decide) ?_
      refine f_last C (mD hX.1 cI cJ cZ cB) (u := sR (sR (sR (sR st 32 (f_up (st.2 32) (st.1 31) v5)) 34 (f_up (st.2 34) (st.1 31) (-1))) 35 (f_up (st.2 35) (st.1 31) 0)) 33 (f_up (st.2 33) (st.1 31) 0)) (f := st.2 33) 27 1 rfl rfl ⟨by omega, by omega⟩ (Nat.le_of_ble_eq_true rfl) rfl (fun h => fOk_up h (r := 33) (show (-1) ≤ (0 : Int) ∧ (0 : Int) ≤ 1000000000000 by omega)) dX9_findLines_227 ?_
      refine f_aload_n C 0 dX9_findLines_228 rfl rfl ?_
      refine f_dup C dX9_findLines_229 rfl ?_
      refine f_ok (fun hO87 => ?_)
      have k88 : 0 ≤ st.1 31 ∧ st.1 31 ≤ 24 := hO87.1 31
      refine f_get C (v := .int (zI (st.1 31))) hin9 0 31 rfl rfl (Nat.le_of_ble_eq_true rfl) (by decide +kernel) rfl rfl dX9_findLines_230 ?_
      refine f_iconst C dX9_findLines_233 ?_
      refine f_iadd C dX9_findLines_234 ?_
      refine f_put C (mD hX.1 cI cJ cZ cB) hin9 tyX9 tyX9_ok nmX9 0 31 rfl rfl (Nat.le_of_ble_eq_true rfl) (by decide +kernel) rfl rfl (ty := .int) (by decide +kernel) rfl rfl (Nat.le_of_ble_eq_true rfl) (u := sN (sR (sR (sR (sR st 32 (f_up (st.2 32) (st.1 31) v5)) 34 (f_up (st.2 34) (st.1 31) (-1))) 35 (f_up (st.2 35) (st.1 31) 0)) 33 (f_up (st.2 33) (st.1 31) 0)) 31 ((st.1 31) + 1)) rfl (fun h => fOk_N h (show 0 ≤ ((st.1 31) + 1) ∧ ((st.1 31) + 1) ≤ 24 by omega)) dX9_findLines_235 ?_
      refine f_iinc C (lv' := [(5, .int (zI (v5 + 1))), (9, .int (zI 0)), (8, .int (zI 0)), (7, .int (zI (-1))), (6, .int (zI (F_X9_isRelieved v5 st))), (0, .ref (b 0)), (1, .int (zI v1)), (2, .int (zI v2)), (3, .long (zJ v3))]) 8 dX9_findLines_238 rfl (Nat.le_of_ble_eq_true rfl) rfl ?_
      refine f_goto C 8 dX9_findLines_241 (by decide) ?_
      refine f_re (lv' := [(0, .ref (b 0)), (1, .int (zI v1)), (2, .int (zI v2)), (3, .long (zJ v3)), (5, .int (zI (v5 + 1)))]) [5, 6, 7, 8, 0] rfl ?_
      refine f_ok (fun hO89 => ?_)
      have k90 : 0 ≤ st.1 3 ∧ st.1 3 ≤ 24 := hO89.1 3
      exact ih (v5 + 1) (sN (sR (sR (sR (sR st 32 (f_up (st.2 32) (st.1 31) v5)) 34 (f_up (st.2 34) (st.1 31) (-1))) 35 (f_up (st.2 35) (st.1 31) 0)) 33 (f_up (st.2 33) (st.1 31) 0)) 31 ((st.1 31) + 1)) ⟨by omega, by omega⟩ (show 0 ≤ (v5 + 1) ∧ (v5 + 1) ≤ (st.1 3) by omega) (show (st.1 3) ≤ 24 by omega) (show 0 ≤ ((st.1 31) + 1) ∧ ((st.1 31) + 1) ≤ (v5 + 1) by omega) (mSteps_keep hI rfl rfl rfl rfl rfl rfl) (show (st.1 3) - (v5 + 1) < ((n : Nat) : Int) by omega) (fun u e2 => hp u (by rw [F_X9_findLines_8, if_neg c3, if_pos c5, if_pos c8, if_pos c11, if_neg c13]; exact e2))
    refine f_goto C 238 dX9_findLines_55 (by decide) ?_
    refine f_iinc C (lv' := [(5, .int (zI (v5 + 1))), (0, .ref (b 0)), (1, .int (zI v1)), (2, .int (zI v2)), (3, .long (zJ v3))]) 4 dX9_findLines_238 rfl (Nat.le_of_ble_eq_true rfl) rfl ?_
    refine f_goto C 8 dX9_findLines_241 (by decide) ?_
    refine f_re (lv' := [(0, .ref (b 0)), (1, .int (zI v1)), (2, .int (zI v2)), (3, .long (zJ v3)), (5, .int (zI (v5 + 1)))]) [1, 2, 3, 4, 0] rfl ?_
    have k91 : 0 ≤ st.1 31 ∧ st.1 31 ≤ 24 := hO1.1 31
    exact ih (v5 + 1) st ⟨by omega, by omega⟩ (show 0 ≤ (v5 + 1) ∧ (v5 + 1) ≤ (st.1 3) by omega) (show (st.1 3) ≤ 24 by omega) (show 0 ≤ (st.1 31) ∧ (st.1 31) ≤ (v5 + 1) by omega) (mSteps_keep hI rfl rfl rfl rfl rfl rfl) (show (st.1 3) - (v5 + 1) < ((n : Nat) : Int) by omega) (fun u e2 => hp u (by rw [F_X9_findLines_8, if_neg c3, if_pos c5, if_pos c8, if_neg c11]; exact e2))
set_option maxRecDepth 100000 in
set_option maxHeartbeats 8000000 in
theorem c_X9_findLines {l : Launch} {D : va_G} {cI cJ cZ cB : ClassId} {b : Nat → Nat} {E : State → Prop} (hX : mHyp b E) (p1 p2 p3 : Int) (h1 : in32 p1) (h2 : in32 p2) (h3 : in64 p3) (st : fS) (hI : mSteps st) : mMv l D cI cJ cZ cB b E yX9_findLines wsX9_findLines rm_X9_findLines [.ref (b 0), .int (zI p1), .int (zI p2), .long (zJ p3)] st (fun u => u = F_X9_findLines p1 p2 p3 st) := by
  refine fB_open (cc := cX9_findLines) (maxL := 10) (ret := none) (by decide) rfl (Nat.le_of_ble_eq_true rfl) hX.2 ?_
  intro p e s m below meth c C hret hlk
  have hin9 : ∀ w ∈ u_ws RX9 TX9 43, w ∈ wsX9_findLines := by decide +kernel
  have hp : ∀ u : fS, u = F_X9_findLines p1 p2 p3 st → u = F_X9_findLines p1 p2 p3 st := fun _ h => h
  refine f_aload_n C 0 dX9_findLines_0 rfl rfl ?_
  refine f_iconst C dX9_findLines_1 ?_
  refine f_put C (mD hX.1 cI cJ cZ cB) hin9 tyX9 tyX9_ok nmX9 0 31 rfl rfl (Nat.le_of_ble_eq_true rfl) (by decide +kernel) rfl rfl (ty := .int) (by decide +kernel) rfl rfl (Nat.le_of_ble_eq_true rfl) (u := sN st 31 0) rfl (fun h => fOk_N h (show 0 ≤ (0 : Int) ∧ (0 : Int) ≤ 24 by omega)) dX9_findLines_2 ?_
  refine f_iconst C dX9_findLines_5 ?_
  refine f_istore C (lv' := [(5, .int (zI 0)), (0, .ref (b 0)), (1, .int (zI p1)), (2, .int (zI p2)), (3, .long (zJ p3))]) dX9_findLines_6 (Nat.le_of_ble_eq_true rfl) rfl ?_
  refine f_re (lv' := [(0, .ref (b 0)), (1, .int (zI p1)), (2, .int (zI p2)), (3, .long (zJ p3)), (5, .int (zI 0))]) [1, 2, 3, 4, 0] rfl ?_
  refine f_ok (fun hO92 => ?_)
  have k93 : 0 ≤ st.1 3 ∧ st.1 3 ≤ 24 := hO92.1 3
  exact v_X9_findLines_8 hX p1 p2 p3 ⟨by omega, by omega⟩ ⟨by omega, by omega⟩ ⟨by omega, by omega⟩ C hret hlk (Int.toNat ((st.1 3) - (0 : Int)) + 1) 0 (sN st 31 0) ⟨by omega, by omega⟩ (show 0 ≤ (0 : Int) ∧ (0 : Int) ≤ (st.1 3) by omega) (show (st.1 3) ≤ 24 by omega) (show 0 ≤ (0 : Int) ∧ (0 : Int) ≤ (0 : Int) by omega) (mSteps_keep hI rfl rfl rfl rfl rfl rfl) (show (st.1 3) - (0 : Int) < ((Int.toNat ((st.1 3) - (0 : Int)) + 1 : Nat) : Int) by omega) (fun u e2 => hp u (by rw [F_X9_findLines]; exact e2))
