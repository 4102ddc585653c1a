/-! ===== PART 41: the reference, words (laid by program) ===== -/
def F_X9_findWords_9 : Nat → Int → Int → fS → fS
  | 0, _, _, st => st
  | n + 1, v1, v2, st => if (st.1 9) ≤ v2 then st else (if (st.2 10 v2) = 32 then F_X9_findWords_9  (n) 0 (v2 + 1) st else (if (st.2 10 v2) = 10 then F_X9_findWords_9  (n) 0 (v2 + 1) st else (if v1 = 0 then F_X9_findWords_9  (n) 1 (v2 + 1) (sR (sN (sR st 12 (f_up (st.2 12) (st.1 11) v2)) 11 ((st.1 11) + 1)) 13 (f_up (st.2 13) (((st.1 11) + 1) - 1) (v2 + 1))) else F_X9_findWords_9  (n) 1 (v2 + 1) (sR st 13 (f_up (st.2 13) ((st.1 11) - 1) (v2 + 1))))))

def F_X9_findWords (st : fS) : fS := F_X9_findWords_9  (Int.toNat ((st.1 9) - (0 : Int)) + 1) 0 0 (sN st 11 0)
abbrev rm_X9_findWords : Room := { frames := 0, cells := 0, slots := 0, locals := 0 }
set_option maxRecDepth 100000 in
set_option maxHeartbeats 8000000 in
theorem v_X9_findWords_9 {l : Launch} {D : va_G} {cI cJ cZ cB : ClassId} {b : Nat → Nat} {E : State → Prop} (hX : mHyp b E)  {p : Program} {e : Env} {s : State} {m : MethodId} {args : Array Value} {below : List Frame} {meth : Method} {c : Code} (C : fC p m c cX9_findWords 4 s args wsX9_findWords yX9_findWords.cls D (fTys cI cJ cZ cB) E (mA b)) (hret : meth.sig.returnType = none) (hlk : meth.locks = false) {post : fS → Prop} : ∀ (n : Nat) (v1 v2 : Int) (st : fS), in32 v1 → in32 v2 → (v1 = 0 ∨ (v1 = 1 ∧ 1 ≤ st.1 11)) → (0 ≤ v2 ∧ v2 ≤ st.1 9) → (0 ≤ st.1 9 ∧ st.1 9 ≤ 600) → (2 * st.1 11 ≤ v2 + v1) → st.1 9 - v2 < n → (∀ u : fS, u = F_X9_findWords_9 n v1 v2 st → post u) → fV D (wM cI cJ cZ cB b) mOk (mA b) 4 p l e rm_X9_findWords s m args below meth c 0 0 (fMQ below (fQv D (wM cI cJ cZ cB b) mOk (mA b) post) args s (mA b)) st 9 [(0, .ref (b 0)), (1, .int (zI v1)), (2, .int (zI v2))] [] := by
  have hin9 : ∀ w ∈ u_ws RX9 TX9 43, w ∈ wsX9_findWords := by decide +kernel
  intro n
  induction n with
  | zero =>
    intro v1 v2 st hv1 hv2 i0 i1 i2 i3 hm hp
    omega
  | succ n ih =>
    intro v1 v2 st hv1 hv2 i0 i1 i2 i3 hm hp
    refine f_iload_n C 2 dX9_findWords_9 rfl rfl ?_
    refine f_aload_n C 0 dX9_findWords_10 rfl rfl ?_
    refine f_ok (fun hO1 => ?_)
    have k2 : 0 ≤ st.1 9 ∧ st.1 9 ≤ 600 := hO1.1 9
    refine f_get C (v := .int (zI (st.1 9))) hin9 0 9 rfl rfl (Nat.le_of_ble_eq_true rfl) (by decide +kernel) rfl rfl dX9_findWords_11 ?_
    refine f_icmp_ge C 107 ⟨by omega, by omega⟩ ⟨by omega, by omega⟩ dX9_findWords_14 (by decide) (fun c3 => ?_) (fun c3 => ?_)
    · exact f_vret C hret hlk dX9_findWords_107 (hp _ (by rw [F_X9_findWords_9, if_pos c3]))
    refine f_aload_n C 0 dX9_findWords_17 rfl rfl ?_
    refine f_get C hin9 0 10 rfl rfl (Nat.le_of_ble_eq_true rfl) (by decide +kernel) rfl rfl dX9_findWords_18 ?_
    refine f_iload_n C 2 dX9_findWords_21 rfl rfl ?_
    refine f_iald C (f := st.2 10) 8 0 rfl rfl ⟨by omega, by omega⟩ (Nat.le_of_ble_eq_true rfl) dX9_findWords_22 ?_
    have k4 : 0 ≤ st.2 10 v2 ∧ st.2 10 v2 ≤ 255 := hO1.2 10 v2
    refine f_bipush C dX9_findWords_23 (by decide) ?_
    refine f_icmp_eq C 39 ⟨by omega, by omega⟩ ⟨by decide, by decide⟩ dX9_findWords_25 (by decide) (fun c5 => ?_) (fun c5 => ?_)
    · refine f_iconst C dX9_findWords_39 ?_
      refine f_goto C 44 dX9_findWords_40 (by decide) ?_
      refine f_istore_n C 3 (lv' := [(3, .int (zI 1)), (0, .ref (b 0)), (1, .int (zI v1)), (2, .int (zI v2))]) dX9_findWords_44 rfl (Nat.le_of_ble_eq_true rfl) rfl ?_
      refine f_iload_n C 3 dX9_findWords_45 rfl rfl ?_
      refine f_if_ne C 73 ⟨by decide, by decide⟩ dX9_findWords_46 (by decide) (fun c6 => ?_) (fun c6 => absurd c6 (by decide))
      refine f_iload_n C 3 dX9_findWords_73 rfl rfl ?_
      refine f_if_ne C 91 ⟨by decide, by decide⟩ dX9_findWords_74 (by decide) (fun c7 => ?_) (fun c7 => absurd c7 (by decide))
      refine f_iload_n C 3 dX9_findWords_91 rfl rfl ?_
      refine f_if_ne C 99 ⟨by decide, by decide⟩ dX9_findWords_92 (by decide) (fun c8 => ?_) (fun c8 => absurd c8 (by decide))
      refine f_iconst C dX9_findWords_99 ?_
      refine f_istore_n C 1 (lv' := [(1, .int (zI 0)), (3, .int (zI 1)), (0, .ref (b 0)), (2, .int (zI v2))]) dX9_findWords_100 rfl (Nat.le_of_ble_eq_true rfl) rfl ?_
      refine f_iinc C (lv' := [(2, .int (zI (v2 + 1))), (1, .int (zI 0)), (3, .int (zI 1)), (0, .ref (b 0))]) 3 dX9_findWords_101 rfl (Nat.le_of_ble_eq_true rfl) rfl ?_
      refine f_goto C 9 dX9_findWords_104 (by decide) ?_
      refine f_re (lv' := [(0, .ref (b 0)), (1, .int (zI 0)), (2, .int (zI (v2 + 1)))]) [3, 1, 0] rfl ?_
      have k9 : 0 ≤ st.1 11 ∧ st.1 11 ≤ 300 := hO1.1 11
      exact ih 0 (v2 + 1) st ⟨by omega, by omega⟩ ⟨by omega, by omega⟩ (show (0 : Int) = 0 ∨ ((0 : Int) = 1 ∧ 1 ≤ (st.1 11)) by omega) (show 0 ≤ (v2 + 1) ∧ (v2 + 1) ≤ (st.1 9) by omega) (show 0 ≤ (st.1 9) ∧ (st.1 9) ≤ 600 by omega) (show 2 * (st.1 11) ≤ (v2 + 1) + (0 : Int) by omega) (show (st.1 9) - (v2 + 1) < ((n : Nat) : Int) by omega) (fun u e2 => hp u (by rw [F_X9_findWords_9, if_neg c3, if_pos c5]; exact e2))
    refine f_aload_n C 0 dX9_findWords_28 rfl rfl ?_
    refine f_get C hin9 0 10 rfl rfl (Nat.le_of_ble_eq_true rfl) (by decide +kernel) rfl rfl dX9_findWords_29 ?_
    refine f_iload_n C 2 dX9_findWords_32 rfl rfl ?_
    refine f_iald C (f := st.2 10) 8 0 rfl rfl ⟨by omega, by omega⟩ (Nat.le_of_ble_eq_true rfl) dX9_findWords_33 ?_
    refine f_bipush C dX9_findWords_34 (by decide) ?_
    refine f_icmp_ne C 43 ⟨by omega, by omega⟩ ⟨by decide, by decide⟩ dX9_findWords_36 (by decide) (fun c10 => ?_) (fun c10 => ?_)
    · refine f_iconst C dX9_findWords_43 ?_
      refine f_istore_n C 3 (lv' := [(3, .int (zI 0)), (0, .ref (b 0)), (1, .int (zI v1)), (2, .int (zI v2))]) dX9_findWords_44 rfl (Nat.le_of_ble_eq_true rfl) rfl ?_
      refine f_iload_n C 3 dX9_findWords_45 rfl rfl ?_
      refine f_if_ne C 73 ⟨by decide, by decide⟩ dX9_findWords_46 (by decide) (fun c11 => absurd c11 (by decide)) (fun c11 => ?_)
      refine f_iload_n C 1 dX9_findWords_49 rfl rfl ?_
      refine f_if_ne C 73 ⟨by omega, by omega⟩ dX9_findWords_50 (by decide) (fun c12 => ?_) (fun c12 => ?_)
      · refine f_iload_n C 3 dX9_findWords_73 rfl rfl ?_
        refine f_if_ne C 91 ⟨by decide, by decide⟩ dX9_findWords_74 (by decide) (fun c13 => absurd c13 (by decide)) (fun c13 => ?_)
        refine f_aload_n C 0 dX9_findWords_77 rfl rfl ?_
        refine f_get C hin9 0 13 rfl rfl (Nat.le_of_ble_eq_true rfl) (by decide +kernel) rfl rfl dX9_findWords_78 ?_
        refine f_aload_n C 0 dX9_findWords_81 rfl rfl ?_
        have k14 : 0 ≤ st.1 11 ∧ st.1 11 ≤ 300 := hO1.1 11
        refine f_get C (v := .int (zI (st.1 11))) hin9 0 11 rfl rfl (Nat.le_of_ble_eq_true rfl) (by decide +kernel) rfl rfl dX9_findWords_82 ?_
        refine f_iconst C dX9_findWords_85 ?_
        refine f_isub C dX9_findWords_86 ?_
        refine f_iload_n C 2 dX9_findWords_87 rfl rfl ?_
        refine f_iconst C dX9_findWords_88 ?_
        refine f_iadd C dX9_findWords_89 ?_
        refine f_iast C (mD hX.1 cI cJ cZ cB) (u := sR st 13 (f_up (st.2 13) ((st.1 11) - 1) (v2 + 1))) (f := st.2 13) 10 0 rfl rfl ⟨by omega, by omega⟩ (Nat.le_of_ble_eq_true rfl) rfl (fun h => fOk_up h (r := 13) (show 0 ≤ (v2 + 1) ∧ (v2 + 1) ≤ 600 by omega)) dX9_findWords_90 ?_
        refine f_iload_n C 3 dX9_findWords_91 rfl rfl ?_
        refine f_if_ne C 99 ⟨by decide, by decide⟩ dX9_findWords_92 (by decide) (fun c15 => absurd c15 (by decide)) (fun c15 => ?_)
        refine f_iconst C dX9_findWords_95 ?_
        refine f_goto C 100 dX9_findWords_96 (by decide) ?_
        refine f_istore_n C 1 (lv' := [(1, .int (zI 1)), (3, .int (zI 0)), (0, .ref (b 0)), (2, .int (zI v2))]) dX9_findWords_100 rfl (Nat.le_of_ble_eq_true rfl) rfl ?_
        refine f_iinc C (lv' := [(2, .int (zI (v2 + 1))), (1, .int (zI 1)), (3, .int (zI 0)), (0, .ref (b 0))]) 3 dX9_findWords_101 rfl (Nat.le_of_ble_eq_true rfl) rfl ?_
        refine f_goto C 9 dX9_findWords_104 (by decide) ?_
        refine f_re (lv' := [(0, .ref (b 0)), (1, .int (zI 1)), (2, .int (zI (v2 + 1)))]) [3, 1, 0] rfl ?_
        refine f_ok (fun hO16 => ?_)
        have k17 : 0 ≤ st.1 11 ∧ st.1 11 ≤ 300 := hO16.1 11
        have k18 : 0 ≤ st.1 9 ∧ st.1 9 ≤ 600 := hO16.1 9
        exact ih 1 (v2 + 1) (sR st 13 (f_up (st.2 13) ((st.1 11) - 1) (v2 + 1))) ⟨by omega, by omega⟩ ⟨by omega, by omega⟩ (show (1 : Int) = 0 ∨ ((1 : Int) = 1 ∧ 1 ≤ (st.1 11)) by omega) (show 0 ≤ (v2 + 1) ∧ (v2 + 1) ≤ (st.1 9) by omega) (show 0 ≤ (st.1 9) ∧ (st.1 9) ≤ 600 by omega) (show 2 * (st.1 11) ≤ (v2 + 1) + (1 : Int) by omega) (show (st.1 9) - (v2 + 1) < ((n : Nat) : Int) by omega) (fun u e2 => hp u (by rw [F_X9_findWords_9, if_neg c3, if_neg c5, if_neg c10, if_neg c12]; exact e2))
      refine f_aload_n C 0 dX9_findWords_53 rfl rfl ?_
      refine f_get C hin9 0 12 rfl rfl (Nat.le_of_ble_eq_true rfl) (by decide +kernel) rfl rfl dX9_findWords_54 ?_
      refine f_aload_n C 0 dX9_findWords_57 rfl rfl ?_
      have k19 : 0 ≤ st.1 11 ∧ st.1 11 ≤ 300 := hO1.1 11
      refine f_get C (v := .int (zI (st.1 11))) hin9 0 11 rfl rfl (Nat.le_of_ble_eq_true rfl) (by decide +kernel) rfl rfl dX9_findWords_58 ?_
      refine f_iload_n C 2 dX9_findWords_61 rfl rfl ?_
      refine f_iast C (mD hX.1 cI cJ cZ cB) (u := sR st 12 (f_up (st.2 12) (st.1 11) v2)) (f := st.2 12) 9 0 rfl rfl ⟨by omega, by omega⟩ (Nat.le_of_ble_eq_true rfl) rfl (fun h => fOk_up h (r := 12) (show 0 ≤ v2 ∧ v2 ≤ 600 by omega)) dX9_findWords_62 ?_
      refine f_aload_n C 0 dX9_findWords_63 rfl rfl ?_
      refine f_dup C dX9_findWords_64 rfl ?_
      refine f_ok (fun hO20 => ?_)
      have k21 : 0 ≤ st.1 11 ∧ st.1 11 ≤ 300 := hO20.1 11
      refine f_get C (v := .int (zI (st.1 11))) hin9 0 11 rfl rfl (Nat.le_of_ble_eq_true rfl) (by decide +kernel) rfl rfl dX9_findWords_65 ?_
      refine f_iconst C dX9_findWords_68 ?_
      refine f_iadd C dX9_findWords_69 ?_
      refine f_put C (mD hX.1 cI cJ cZ cB) hin9 tyX9 tyX9_ok nmX9 0 11 rfl rfl (Nat.le_of_ble_eq_true rfl) (by decide +kernel) rfl rfl (ty := .int) (by decide +kernel) rfl rfl (Nat.le_of_ble_eq_true rfl) (u := sN (sR st 12 (f_up (st.2 12) (st.1 11) v2)) 11 ((st.1 11) + 1)) rfl (fun h => fOk_N h (show 0 ≤ ((st.1 11) + 1) ∧ ((st.1 11) + 1) ≤ 300 by omega)) dX9_findWords_70 ?_
      refine f_iload_n C 3 dX9_findWords_73 rfl rfl ?_
      refine f_if_ne C 91 ⟨by decide, by decide⟩ dX9_findWords_74 (by decide) (fun c22 => absurd c22 (by decide)) (fun c22 => ?_)
      refine f_aload_n C 0 dX9_findWords_77 rfl rfl ?_
      refine f_get C hin9 0 13 rfl rfl (Nat.le_of_ble_eq_true rfl) (by decide +kernel) rfl rfl dX9_findWords_78 ?_
      refine f_aload_n C 0 dX9_findWords_81 rfl rfl ?_
      refine f_get C (v := .int (zI ((st.1 11) + 1))) hin9 0 11 rfl rfl (Nat.le_of_ble_eq_true rfl) (by decide +kernel) rfl rfl dX9_findWords_82 ?_
      refine f_iconst C dX9_findWords_85 ?_
      refine f_isub C dX9_findWords_86 ?_
      refine f_iload_n C 2 dX9_findWords_87 rfl rfl ?_
      refine f_iconst C dX9_findWords_88 ?_
      refine f_iadd C dX9_findWords_89 ?_
      refine f_iast C (mD hX.1 cI cJ cZ cB) (u := sR (sN (sR st 12 (f_up (st.2 12) (st.1 11) v2)) 11 ((st.1 11) + 1)) 13 (f_up (st.2 13) (((st.1 11) + 1) - 1) (v2 + 1))) (f := st.2 13) 10 0 rfl rfl ⟨by omega, by omega⟩ (Nat.le_of_ble_eq_true rfl) rfl (fun h => fOk_up h (r := 13) (show 0 ≤ (v2 + 1) ∧ (v2 + 1) ≤ 600 by omega)) dX9_findWords_90 ?_
      refine f_iload_n C 3 dX9_findWords_91 rfl rfl ?_
      refine f_if_ne C 99 ⟨by decide, by decide⟩ dX9_findWords_92 (by decide) (fun c23 => absurd c23 (by decide)) (fun c23 => ?_)
      refine f_iconst C dX9_findWords_95 ?_
      refine f_goto C 100 dX9_findWords_96 (by decide) ?_
      refine f_istore_n C 1 (lv' := [(1, .int (zI 1)), (3, .int (zI 0)), (0, .ref (b 0)), (2, .int (zI v2))]) dX9_findWords_100 rfl (Nat.le_of_ble_eq_true rfl) rfl ?_
      refine f_iinc C (lv' := [(2, .int (zI (v2 + 1))), (1, .int (zI 1)), (3, .int (zI 0)), (0, .ref (b 0))]) 3 dX9_findWords_101 rfl (Nat.le_of_ble_eq_true rfl) rfl ?_
      refine f_goto C 9 dX9_findWords_104 (by decide) ?_
      refine f_re (lv' := [(0, .ref (b 0)), (1, .int (zI 1)), (2, .int (zI (v2 + 1)))]) [3, 1, 0] rfl ?_
      refine f_ok (fun hO24 => ?_)
      have k25 : 0 ≤ st.1 9 ∧ st.1 9 ≤ 600 := hO24.1 9
      exact ih 1 (v2 + 1) (sR (sN (sR st 12 (f_up (st.2 12) (st.1 11) v2)) 11 ((st.1 11) + 1)) 13 (f_up (st.2 13) (((st.1 11) + 1) - 1) (v2 + 1))) ⟨by omega, by omega⟩ ⟨by omega, by omega⟩ (show (1 : Int) = 0 ∨ ((1 : Int) = 1 ∧ 1 ≤ ((st.1 11) + 1)) by omega) (show 0 ≤ (v2 + 1) ∧ (v2 + 1) ≤ (st.1 9) by omega) (show 0 ≤ (st.1 9) ∧ (st.1 9) ≤ 600 by omega) (show 2 * ((st.1 11) + 1) ≤ (v2 + 1) + (1 : Int) by omega) (show (st.1 9) - (v2 + 1) < ((n : Nat) : Int) by omega) (fun u e2 => hp u (by rw [F_X9_findWords_9, if_neg c3, if_neg c5, if_neg c10, if_pos c12]; exact e2))
    refine f_iconst C dX9_findWords_39 ?_
    refine f_goto C 44 dX9_findWords_40 (by decide) ?_
    refine f_istore_n C 3 (lv' := [(3, .int (zI 1)), (0, .ref (b 0)), (1, .int (zI v1)), (2, .int (zI v2))]) dX9_findWords_44 rfl (Nat.le_of_ble_eq_true rfl) rfl ?_
    refine f_iload_n C 3 dX9_findWords_45 rfl rfl ?_
    refine f_if_ne C 73 ⟨by decide, by decide⟩ dX9_findWords_46 (by decide) (fun c26 => ?_) (fun c26 => absurd c26 (by decide))
    refine f_iload_n C 3 dX9_findWords_73 rfl rfl ?_
    refine f_if_ne C 91 ⟨by decide, by decide⟩ dX9_findWords_74 (by decide) (fun c27 => ?_) (fun c27 => absurd c27 (by decide))
    refine f_iload_n C 3 dX9_findWords_91 rfl rfl ?_
    refine f_if_ne C 99 ⟨by decide, by decide⟩ dX9_findWords_92 (by decide) (fun c28 => ?_) (fun c28 => absurd c28 (by decide))
    refine f_iconst C dX9_findWords_99 ?_
    refine f_istore_n C 1 (lv' := [(1, .int (zI 0)), (3, .int (zI 1)), (0, .ref (b 0)), (2, .int (zI v2))]) dX9_findWords_100 rfl (Nat.le_of_ble_eq_true rfl) rfl ?_
    refine f_iinc C (lv' := [(2, .int (zI (v2 + 1))), (1, .int (zI 0)), (3, .int (zI 1)), (0, .ref (b 0))]) 3 dX9_findWords_101 rfl (Nat.le_of_ble_eq_true rfl) rfl ?_
    refine f_goto C 9 dX9_findWords_104 (by decide) ?_
    refine f_re (lv' := [(0, .ref (b 0)), (1, .int (zI 0)), (2, .int (zI (v2 + 1)))]) [3, 1, 0] rfl ?_
    have k29 : 0 ≤ st.1 11 ∧ st.1 11 ≤ 300 := hO1.1 11
    exact ih 0 (v2 + 1) st ⟨by omega, by omega⟩ ⟨by omega, by omega⟩ (show (0 : Int) = 0 ∨ ((0 : Int) = 1 ∧ 1 ≤ (st.1 11)) by omega) (show 0 ≤ (v2 + 1) ∧ (v2 + 1) ≤ (st.1 9) by omega) (show 0 ≤ (st.1 9) ∧ (st.1 9) ≤ 600 by omega) (show 2 * (st.1 11) ≤ (v2 + 1) + (0 : Int) by omega) (show (st.1 9) - (v2 + 1) < ((n : Nat) : Int) by omega) (fun u e2 => hp u (by rw [F_X9_findWords_9, if_neg c3, if_neg c5, if_pos c10]; exact e2))
set_option maxRecDepth 100000 in
set_option maxHeartbeats 8000000 in
theorem c_X9_findWords {l : Launch} {D : va_G} {cI cJ cZ cB : ClassId} {b : Nat → Nat} {E : State → Prop} (hX : mHyp b E)   (st : fS)  : mMv l D cI cJ cZ cB b E yX9_findWords wsX9_findWords rm_X9_findWords [.ref (b 0)] st (fun u => u = F_X9_findWords st) := by
  refine fB_open (cc := cX9_findWords) (maxL := 4) (ret := none) (by decide) rfl (Nat.le_of_ble_eq_true rfl) hX.2 ?_
  intro p e s m below meth c C hret hlk
  have hin9 : ∀ w ∈ u_ws RX9 TX9 43, w ∈ wsX9_findWords := by decide +kernel
  have hp : ∀ u : fS, u = F_X9_findWords st → u = F_X9_findWords st := fun _ h => h
  refine f_aload_n C 0 dX9_findWords_0 rfl rfl ?_
  refine f_iconst C dX9_findWords_1 ?_
  refine f_put C (mD hX.1 cI cJ cZ cB) hin9 tyX9 tyX9_ok nmX9 0 11 rfl rfl (Nat.le_of_ble_eq_true rfl) (by decide +kernel) rfl rfl (ty := .int) (by decide +kernel) rfl rfl (Nat.le_of_ble_eq_true rfl) (u := sN st 11 0) rfl (fun h => fOk_N h (show 0 ≤ (0 : Int) ∧ (0 : Int) ≤ 300 by omega)) dX9_findWords_2 ?_
  refine f_iconst C dX9_findWords_5 ?_
  refine f_istore_n C 1 (lv' := [(1, .int (zI 0)), (0, .ref (b 0))]) dX9_findWords_6 rfl (Nat.le_of_ble_eq_true rfl) rfl ?_
  refine f_iconst C dX9_findWords_7 ?_
  refine f_istore_n C 2 (lv' := [(2, .int (zI 0)), (1, .int (zI 0)), (0, .ref (b 0))]) dX9_findWords_8 rfl (Nat.le_of_ble_eq_true rfl) rfl ?_
  refine f_re (lv' := [(0, .ref (b 0)), (1, .int (zI 0)), (2, .int (zI 0))]) [2, 1, 0] rfl ?_
  refine f_ok (fun hO30 => ?_)
  have k31 : 0 ≤ st.1 9 ∧ st.1 9 ≤ 600 := hO30.1 9
  exact v_X9_findWords_9 hX   C hret hlk (Int.toNat ((st.1 9) - (0 : Int)) + 1) 0 0 (sN st 11 0) ⟨by omega, by omega⟩ ⟨by omega, by omega⟩ (show (0 : Int) = 0 ∨ ((0 : Int) = 1 ∧ 1 ≤ (0 : Int)) by omega) (show 0 ≤ (0 : Int) ∧ (0 : Int) ≤ (st.1 9) by omega) (show 0 ≤ (st.1 9) ∧ (st.1 9) ≤ 600 by omega) (show 2 * (0 : Int) ≤ (0 : Int) + (0 : Int) by omega) (show (st.1 9) - (0 : Int) < ((Int.toNat ((st.1 9) - (0 : Int)) + 1 : Nat) : Int) by omega) (fun u e2 => hp u (by rw [F_X9_findWords]; exact e2))

def F_X9_is (p1 p2 p3 p4 p5 p6 : Int) (st : fS) : Int := if p1 < (st.1 11) then (if p6 ≤ 0 then (if p5 ≤ 0 then (if ((st.2 13 p1) - (st.2 12 p1)) = 3 then (if (st.2 10 (st.2 12 p1)) = p2 then (if (st.2 10 ((st.2 12 p1) + 1)) = p3 then (if (st.2 10 ((st.2 12 p1) + 2)) = p4 then 1 else 0) else 0) else 0) else 0) else (if ((st.2 13 p1) - (st.2 12 p1)) = 4 then (if (st.2 10 (st.2 12 p1)) = p2 then (if (st.2 10 ((st.2 12 p1) + 1)) = p3 then (if (st.2 10 ((st.2 12 p1) + 2)) = p4 then (if (st.2 10 ((st.2 12 p1) + 3)) = p5 then 1 else 0) else 0) else 0) else 0) else 0)) else (if ((st.2 13 p1) - (st.2 12 p1)) = 5 then (if (st.2 10 (st.2 12 p1)) = p2 then (if (st.2 10 ((st.2 12 p1) + 1)) = p3 then (if (st.2 10 ((st.2 12 p1) + 2)) = p4 then (if (st.2 10 ((st.2 12 p1) + 3)) = p5 then (if (st.2 10 ((st.2 12 p1) + 4)) = p6 then 1 else 0) else 0) else 0) else 0) else 0) else 0)) else 0
abbrev rm_X9_is : Room := { frames := 0, cells := 0, slots := 0, locals := 0 }
set_option maxRecDepth 100000 in
set_option maxHeartbeats 8000000 in
theorem c_X9_is {l : Launch} {D : va_G} {cI cJ cZ cB : ClassId} {b : Nat → Nat} {E : State → Prop} (hX : mHyp b E) (p1 p2 p3 p4 p5 p6 : Int) (h1 : in32 p1) (h2 : in32 p2) (h3 : in32 p3) (h4 : in32 p4) (h5 : in32 p5) (h6 : in32 p6) (st : fS) (q1 : 0 ≤ p1) : mMi l D cI cJ cZ cB b E yX9_is wsX9_is rm_X9_is [.ref (b 0), .int (zI p1), .int (zI p2), .int (zI p3), .int (zI p4), .int (zI p5), .int (zI p6)] st (fun z u => z = F_X9_is p1 p2 p3 p4 p5 p6 st ∧ u = st ∧ ((z = 1 ∧ p1 < st.1 11 ∧ st.1 11 ≤ 300) ∨ z = 0)) := by
  refine fB_open (cc := cX9_is) (maxL := 10) (ret := (some .boolean)) (by decide) rfl (Nat.le_of_ble_eq_true rfl) hX.2 ?_
  intro p e s m below meth c C hret hlk
  have hin9 : ∀ w ∈ u_ws RX9 TX9 43, w ∈ wsX9_is := by decide +kernel
  have hp : ∀ z : Int, z = F_X9_is p1 p2 p3 p4 p5 p6 st → ((z = 1 ∧ p1 < st.1 11 ∧ st.1 11 ≤ 300) ∨ z = 0) → z = F_X9_is p1 p2 p3 p4 p5 p6 st ∧ st = st ∧ ((z = 1 ∧ p1 < st.1 11 ∧ st.1 11 ≤ 300) ∨ z = 0) := fun z h r1 => ⟨h, rfl, r1⟩
  refine f_iload_n C 1 dX9_is_0 rfl rfl ?_
  refine f_aload_n C 0 dX9_is_1 rfl rfl ?_
  refine f_ok (fun hO1 => ?_)
  have k2 : 0 ≤ st.1 11 ∧ st.1 11 ≤ 300 := hO1.1 11
  refine f_get C (v := .int (zI (st.1 11))) hin9 0 11 rfl rfl (Nat.le_of_ble_eq_true rfl) (by decide +kernel) rfl rfl dX9_is_2 ?_
  refine f_icmp_lt C 10 ⟨by omega, by omega⟩ ⟨by omega, by omega⟩ dX9_is_5 (by decide) (fun c3 => ?_) (fun c3 => ?_)
  · refine f_iload C 6 dX9_is_10 rfl ?_
    refine f_if_le C 19 ⟨by omega, by omega⟩ dX9_is_12 (by decide) (fun c4 => ?_) (fun c4 => ?_)
    · refine f_iload C 5 dX9_is_19 rfl ?_
      refine f_if_le C 28 ⟨by omega, by omega⟩ dX9_is_21 (by decide) (fun c5 => ?_) (fun c5 => ?_)
      · refine f_iconst C dX9_is_28 ?_
        refine f_istore C (lv' := [(7, .int (zI 3)), (0, .ref (b 0)), (1, .int (zI p1)), (2, .int (zI p2)), (3, .int (zI p3)), (4, .int (zI p4)), (5, .int (zI p5)), (6, .int (zI p6))]) dX9_is_29 (Nat.le_of_ble_eq_true rfl) rfl ?_
        refine f_aload_n C 0 dX9_is_31 rfl rfl ?_
        refine f_get C hin9 0 12 rfl rfl (Nat.le_of_ble_eq_true rfl) (by decide +kernel) rfl rfl dX9_is_32 ?_
        refine f_iload_n C 1 dX9_is_35 rfl rfl ?_
        refine f_iald C (f := st.2 12) 9 0 rfl rfl ⟨by omega, by omega⟩ (Nat.le_of_ble_eq_true rfl) dX9_is_36 ?_
        have k6 : 0 ≤ st.2 12 p1 ∧ st.2 12 p1 ≤ 600 := hO1.2 12 p1
        refine f_istore C (lv' := [(8, .int (zI (st.2 12 p1))), (7, .int (zI 3)), (0, .ref (b 0)), (1, .int (zI p1)), (2, .int (zI p2)), (3, .int (zI p3)), (4, .int (zI p4)), (5, .int (zI p5)), (6, .int (zI p6))]) dX9_is_37 (Nat.le_of_ble_eq_true rfl) rfl ?_
        refine f_aload_n C 0 dX9_is_39 rfl rfl ?_
        refine f_get C hin9 0 13 rfl rfl (Nat.le_of_ble_eq_true rfl) (by decide +kernel) rfl rfl dX9_is_40 ?_
        refine f_iload_n C 1 dX9_is_43 rfl rfl ?_
        refine f_iald C (f := st.2 13) 10 0 rfl rfl ⟨by omega, by omega⟩ (Nat.le_of_ble_eq_true rfl) dX9_is_44 ?_
        have k7 : 0 ≤ st.2 13 p1 ∧ st.2 13 p1 ≤ 600 := hO1.2 13 p1
        refine f_iload C 8 dX9_is_45 rfl ?_
        refine f_isub C dX9_is_47 ?_
        refine f_iload C 7 dX9_is_48 rfl ?_
        refine f_icmp_eq C 55 ⟨by omega, by omega⟩ ⟨by decide, by decide⟩ dX9_is_50 (by decide) (fun c8 => ?_) (fun c8 => ?_)
        · refine f_aload_n C 0 dX9_is_55 rfl rfl ?_
          refine f_get C hin9 0 10 rfl rfl (Nat.le_of_ble_eq_true rfl) (by decide +kernel) rfl rfl dX9_is_56 ?_
          refine f_iload C 8 dX9_is_59 rfl ?_
          refine f_iald C (f := st.2 10) 8 0 rfl rfl ⟨by omega, by omega⟩ (Nat.le_of_ble_eq_true rfl) dX9_is_61 ?_
          have k9 : 0 ≤ st.2 10 (st.2 12 p1) ∧ st.2 10 (st.2 12 p1) ≤ 255 := hO1.2 10 (st.2 12 p1)
          refine f_iload_n C 2 dX9_is_62 rfl rfl ?_
          refine f_icmp_ne C 97 ⟨by omega, by omega⟩ ⟨by omega, by omega⟩ dX9_is_63 (by decide) (fun c10 => ?_) (fun c10 => ?_)
          · refine f_iconst C dX9_is_97 ?_
            refine f_istore C (lv' := [(9, .int (zI 0)), (8, .int (zI (st.2 12 p1))), (7, .int (zI 3)), (0, .ref (b 0)), (1, .int (zI p1)), (2, .int (zI p2)), (3, .int (zI p3)), (4, .int (zI p4)), (5, .int (zI p5)), (6, .int (zI p6))]) dX9_is_98 (Nat.le_of_ble_eq_true rfl) rfl ?_
            refine f_iload C 9 dX9_is_100 rfl ?_
            refine f_if_eq C 149 ⟨by decide, by decide⟩ dX9_is_102 (by decide) (fun c11 => ?_) (fun c11 => absurd c11 (by decide))
            refine f_iconst C dX9_is_149 ?_
            exact f_zret C hret hlk dX9_is_150 (by decide) (hp _ (by rw [F_X9_is, if_pos c3, if_pos c4, if_pos c5, if_pos c8, if_neg c10]) (by omega))
          refine f_aload_n C 0 dX9_is_66 rfl rfl ?_
          refine f_get C hin9 0 10 rfl rfl (Nat.le_of_ble_eq_true rfl) (by decide +kernel) rfl rfl dX9_is_67 ?_
          refine f_iload C 8 dX9_is_70 rfl ?_
          refine f_iconst C dX9_is_72 ?_
          refine f_iadd C dX9_is_73 ?_
          refine f_iald C (f := st.2 10) 8 0 rfl rfl ⟨by omega, by omega⟩ (Nat.le_of_ble_eq_true rfl) dX9_is_74 ?_
          have k12 : 0 ≤ st.2 10 ((st.2 12 p1) + 1) ∧ st.2 10 ((st.2 12 p1) + 1) ≤ 255 := hO1.2 10 ((st.2 12 p1) + 1)
          refine f_iload_n C 3 dX9_is_75 rfl rfl ?_
          refine f_icmp_ne C 97 ⟨by omega, by omega⟩ ⟨by omega, by omega⟩ dX9_is_76 (by decide) (fun c13 => ?_) (fun c13 => ?_)
          · refine f_iconst C dX9_is_97 ?_
            refine f_istore C (lv' := [(9, .int (zI 0)), (8, .int (zI (st.2 12 p1))), (7, .int (zI 3)), (0, .ref (b 0)), (1, .int (zI p1)), (2, .int (zI p2)), (3, .int (zI p3)), (4, .int (zI p4)), (5, .int (zI p5)), (6, .int (zI p6))]) dX9_is_98 (Nat.le_of_ble_eq_true rfl) rfl ?_
            refine f_iload C 9 dX9_is_100 rfl ?_
            refine f_if_eq C 149 ⟨by decide, by decide⟩ dX9_is_102 (by decide) (fun c14 => ?_) (fun c14 => absurd c14 (by decide))
            refine f_iconst C dX9_is_149 ?_
            exact f_zret C hret hlk dX9_is_150 (by decide) (hp _ (by rw [F_X9_is, if_pos c3, if_pos c4, if_pos c5, if_pos c8, if_pos c10, if_neg c13]) (by omega))
          refine f_aload_n C 0 dX9_is_79 rfl rfl ?_
          refine f_get C hin9 0 10 rfl rfl (Nat.le_of_ble_eq_true rfl) (by decide +kernel) rfl rfl dX9_is_80 ?_
          refine f_iload C 8 dX9_is_83 rfl ?_
          refine f_iconst C dX9_is_85 ?_
          refine f_iadd C dX9_is_86 ?_
          refine f_iald C (f := st.2 10) 8 0 rfl rfl ⟨by omega, by omega⟩ (Nat.le_of_ble_eq_true rfl) dX9_is_87 ?_
          have k15 : 0 ≤ st.2 10 ((st.2 12 p1) + 2) ∧ st.2 10 ((st.2 12 p1) + 2) ≤ 255 := hO1.2 10 ((st.2 12 p1) + 2)
          refine f_iload C 4 dX9_is_88 rfl ?_
          refine f_icmp_ne C 97 ⟨by omega, by omega⟩ ⟨by omega, by omega⟩ dX9_is_90 (by decide) (fun c16 => ?_) (fun c16 => ?_)
          · refine f_iconst C dX9_is_97 ?_
            refine f_istore C (lv' := [(9, .int (zI 0)), (8, .int (zI (st.2 12 p1))), (7, .int (zI 3)), (0, .ref (b 0)), (1, .int (zI p1)), (2, .int (zI p2)), (3, .int (zI p3)), (4, .int (zI p4)), (5, .int (zI p5)), (6, .int (zI p6))]) dX9_is_98 (Nat.le_of_ble_eq_true rfl) rfl ?_
            refine f_iload C 9 dX9_is_100 rfl ?_
            refine f_if_eq C 149 ⟨by decide, by decide⟩ dX9_is_102 (by decide) (fun c17 => ?_) (fun c17 => absurd c17 (by decide))
            refine f_iconst C dX9_is_149 ?_
            exact f_zret C hret hlk dX9_is_150 (by decide) (hp _ (by rw [F_X9_is, if_pos c3, if_pos c4, if_pos c5, if_pos c8, if_pos c10, if_pos c13, if_neg c16]) (by omega))
          refine f_iconst C dX9_is_93 ?_
          refine f_goto C 98 dX9_is_94 (by decide) ?_
          refine f_istore C (lv' := [(9, .int (zI 1)), (8, .int (zI (st.2 12 p1))), (7, .int (zI 3)), (0, .ref (b 0)), (1, .int (zI p1)), (2, .int (zI p2)), (3, .int (zI p3)), (4, .int (zI p4)), (5, .int (zI p5)), (6, .int (zI p6))]) dX9_is_98 (Nat.le_of_ble_eq_true rfl) rfl ?_
          refine f_iload C 9 dX9_is_100 rfl ?_
          refine f_if_eq C 149 ⟨by decide, by decide⟩ dX9_is_102 (by decide) (fun c18 => absurd c18 (by decide)) (fun c18 => ?_)
          refine f_iload C 7 dX9_is_105 rfl ?_
          refine f_iconst C dX9_is_107 ?_
          refine f_icmp_lt C 125 ⟨by decide, by decide⟩ ⟨by decide, by decide⟩ dX9_is_108 (by decide) (fun c19 => ?_) (fun c19 => absurd c19 (by decide))
          refine f_iload C 7 dX9_is_125 rfl ?_
          refine f_iconst C dX9_is_127 ?_
          refine f_icmp_lt C 145 ⟨by decide, by decide⟩ ⟨by decide, by decide⟩ dX9_is_128 (by decide) (fun c20 => ?_) (fun c20 => absurd c20 (by decide))
          refine f_iconst C dX9_is_145 ?_
          refine f_goto C 150 dX9_is_146 (by decide) ?_
          exact f_zret C hret hlk dX9_is_150 (by decide) (hp _ (by rw [F_X9_is, if_pos c3, if_pos c4, if_pos c5, if_pos c8, if_pos c10, if_pos c13, if_pos c16]) (by omega))
        refine f_iconst C dX9_is_53 ?_
        exact f_zret C hret hlk dX9_is_54 (by decide) (hp _ (by rw [F_X9_is, if_pos c3, if_pos c4, if_pos c5, if_neg c8]) (by omega))
      refine f_iconst C dX9_is_24 ?_
      refine f_goto C 29 dX9_is_25 (by decide) ?_
      refine f_istore C (lv' := [(7, .int (zI 4)), (0, .ref (b 0)), (1, .int (zI p1)), (2, .int (zI p2)), (3, .int (zI p3)), (4, .int (zI p4)), (5, .int (zI p5)), (6, .int (zI p6))]) dX9_is_29 (Nat.le_of_ble_eq_true rfl) rfl ?_
      refine f_aload_n C 0 dX9_is_31 rfl rfl ?_
      refine f_get C hin9 0 12 rfl rfl (Nat.le_of_ble_eq_true rfl) (by decide +kernel) rfl rfl dX9_is_32 ?_
      refine f_iload_n C 1 dX9_is_35 rfl rfl ?_
      refine f_iald C (f := st.2 12) 9 0 rfl rfl ⟨by omega, by omega⟩ (Nat.le_of_ble_eq_true rfl) dX9_is_36 ?_
      have k21 : 0 ≤ st.2 12 p1 ∧ st.2 12 p1 ≤ 600 := hO1.2 12 p1
      refine f_istore C (lv' := [(8, .int (zI (st.2 12 p1))), (7, .int (zI 4)), (0, .ref (b 0)), (1, .int (zI p1)), (2, .int (zI p2)), (3, .int (zI p3)), (4, .int (zI p4)), (5, .int (zI p5)), (6, .int (zI p6))]) dX9_is_37 (Nat.le_of_ble_eq_true rfl) rfl ?_
      refine f_aload_n C 0 dX9_is_39 rfl rfl ?_
      refine f_get C hin9 0 13 rfl rfl (Nat.le_of_ble_eq_true rfl) (by decide +kernel) rfl rfl dX9_is_40 ?_
      refine f_iload_n C 1 dX9_is_43 rfl rfl ?_
      refine f_iald C (f := st.2 13) 10 0 rfl rfl ⟨by omega, by omega⟩ (Nat.le_of_ble_eq_true rfl) dX9_is_44 ?_
      have k22 : 0 ≤ st.2 13 p1 ∧ st.2 13 p1 ≤ 600 := hO1.2 13 p1
      refine f_iload C 8 dX9_is_45 rfl ?_
      refine f_isub C dX9_is_47 ?_
      refine f_iload C 7 dX9_is_48 rfl ?_
      refine f_icmp_eq C 55 ⟨by omega, by omega⟩ ⟨by decide, by decide⟩ dX9_is_50 (by decide) (fun c23 => ?_) (fun c23 => ?_)
      · refine f_aload_n C 0 dX9_is_55 rfl rfl ?_
        refine f_get C hin9 0 10 rfl rfl (Nat.le_of_ble_eq_true rfl) (by decide +kernel) rfl rfl dX9_is_56 ?_
        refine f_iload C 8 dX9_is_59 rfl ?_
        refine f_iald C (f := st.2 10) 8 0 rfl rfl ⟨by omega, by omega⟩ (Nat.le_of_ble_eq_true rfl) dX9_is_61 ?_
        have k24 : 0 ≤ st.2 10 (st.2 12 p1) ∧ st.2 10 (st.2 12 p1) ≤ 255 := hO1.2 10 (st.2 12 p1)
        refine f_iload_n C 2 dX9_is_62 rfl rfl ?_
        refine f_icmp_ne C 97 ⟨by omega, by omega⟩ ⟨by omega, by omega⟩ dX9_is_63 (by decide) (fun c25 => ?_) (fun c25 => ?_)
        · refine f_iconst C dX9_is_97 ?_
          refine f_istore C (lv' := [(9, .int (zI 0)), (8, .int (zI (st.2 12 p1))), (7, .int (zI 4)), (0, .ref (b 0)), (1, .int (zI p1)), (2, .int (zI p2)), (3, .int (zI p3)), (4, .int (zI p4)), (5, .int (zI p5)), (6, .int (zI p6))]) dX9_is_98 (Nat.le_of_ble_eq_true rfl) rfl ?_
          refine f_iload C 9 dX9_is_100 rfl ?_
          refine f_if_eq C 149 ⟨by decide, by decide⟩ dX9_is_102 (by decide) (fun c26 => ?_) (fun c26 => absurd c26 (by decide))
          refine f_iconst C dX9_is_149 ?_
          exact f_zret C hret hlk dX9_is_150 (by decide) (hp _ (by rw [F_X9_is, if_pos c3, if_pos c4, if_neg c5, if_pos c23, if_neg c25]) (by omega))
        refine f_aload_n C 0 dX9_is_66 rfl rfl ?_
        refine f_get C hin9 0 10 rfl rfl (Nat.le_of_ble_eq_true rfl) (by decide +kernel) rfl rfl dX9_is_67 ?_
        refine f_iload C 8 dX9_is_70 rfl ?_
        refine f_iconst C dX9_is_72 ?_
        refine f_iadd C dX9_is_73 ?_
        refine f_iald C (f := st.2 10) 8 0 rfl rfl ⟨by omega, by omega⟩ (Nat.le_of_ble_eq_true rfl) dX9_is_74 ?_
        have k27 : 0 ≤ st.2 10 ((st.2 12 p1) + 1) ∧ st.2 10 ((st.2 12 p1) + 1) ≤ 255 := hO1.2 10 ((st.2 12 p1) + 1)
        refine f_iload_n C 3 dX9_is_75 rfl rfl ?_
        refine f_icmp_ne C 97 ⟨by omega, by omega⟩ ⟨by omega, by omega⟩ dX9_is_76 (by decide) (fun c28 => ?_) (fun c28 => ?_)
        · refine f_iconst C dX9_is_97 ?_
          refine f_istore C (lv' := [(9, .int (zI 0)), (8, .int (zI (st.2 12 p1))), (7, .int (zI 4)), (0, .ref (b 0)), (1, .int (zI p1)), (2, .int (zI p2)), (3, .int (zI p3)), (4, .int (zI p4)), (5, .int (zI p5)), (6, .int (zI p6))]) dX9_is_98 (Nat.le_of_ble_eq_true rfl) rfl ?_
          refine f_iload C 9 dX9_is_100 rfl ?_
          refine f_if_eq C 149 ⟨by decide, by decide⟩ dX9_is_102 (by decide) (fun c29 => ?_) (fun c29 => absurd c29 (by decide))
          refine f_iconst C dX9_is_149 ?_
          exact f_zret C hret hlk dX9_is_150 (by decide) (hp _ (by rw [F_X9_is, if_pos c3, if_pos c4, if_neg c5, if_pos c23, if_pos c25, if_neg c28]) (by omega))
        refine f_aload_n C 0 dX9_is_79 rfl rfl ?_
        refine f_get C hin9 0 10 rfl rfl (Nat.le_of_ble_eq_true rfl) (by decide +kernel) rfl rfl dX9_is_80 ?_
        refine f_iload C 8 dX9_is_83 rfl ?_
        refine f_iconst C dX9_is_85 ?_
        refine f_iadd C dX9_is_86 ?_
        refine f_iald C (f := st.2 10) 8 0 rfl rfl ⟨by omega, by omega⟩ (Nat.le_of_ble_eq_true rfl) dX9_is_87 ?_
        have k30 : 0 ≤ st.2 10 ((st.2 12 p1) + 2) ∧ st.2 10 ((st.2 12 p1) + 2) ≤ 255 := hO1.2 10 ((st.2 12 p1) + 2)
        refine f_iload C 4 dX9_is_88 rfl ?_
        refine f_icmp_ne C 97 ⟨by omega, by omega⟩ ⟨by omega, by omega⟩ dX9_is_90 (by decide) (fun c31 => ?_) (fun c31 => ?_)
        · refine f_iconst C dX9_is_97 ?_
          refine f_istore C (lv' := [(9, .int (zI 0)), (8, .int (zI (st.2 12 p1))), (7, .int (zI 4)), (0, .ref (b 0)), (1, .int (zI p1)), (2, .int (zI p2)), (3, .int (zI p3)), (4, .int (zI p4)), (5, .int (zI p5)), (6, .int (zI p6))]) dX9_is_98 (Nat.le_of_ble_eq_true rfl) rfl ?_
          refine f_iload C 9 dX9_is_100 rfl ?_
          refine f_if_eq C 149 ⟨by decide, by decide⟩ dX9_is_102 (by decide) (fun c32 => ?_) (fun c32 => absurd c32 (by decide))
          refine f_iconst C dX9_is_149 ?_
          exact f_zret C hret hlk dX9_is_150 (by decide) (hp _ (by rw [F_X9_is, if_pos c3, if_pos c4, if_neg c5, if_pos c23, if_pos c25, if_pos c28, if_neg c31]) (by omega))
        refine f_iconst C dX9_is_93 ?_
        refine f_goto C 98 dX9_is_94 (by decide) ?_
        refine f_istore C (lv' := [(9, .int (zI 1)), (8, .int (zI (st.2 12 p1))), (7, .int (zI 4)), (0, .ref (b 0)), (1, .int (zI p1)), (2, .int (zI p2)), (3, .int (zI p3)), (4, .int (zI p4)), (5, .int (zI p5)), (6, .int (zI p6))]) dX9_is_98 (Nat.le_of_ble_eq_true rfl) rfl ?_
        refine f_iload C 9 dX9_is_100 rfl ?_
        refine f_if_eq C 149 ⟨by decide, by decide⟩ dX9_is_102 (by decide) (fun c33 => absurd c33 (by decide)) (fun c33 => ?_)
        refine f_iload C 7 dX9_is_105 rfl ?_
        refine f_iconst C dX9_is_107 ?_
        refine f_icmp_lt C 125 ⟨by decide, by decide⟩ ⟨by decide, by decide⟩ dX9_is_108 (by decide) (fun c34 => absurd c34 (by decide)) (fun c34 => ?_)
        refine f_aload_n C 0 dX9_is_111 rfl rfl ?_
        refine f_get C hin9 0 10 rfl rfl (Nat.le_of_ble_eq_true rfl) (by decide +kernel) rfl rfl dX9_is_112 ?_
        refine f_iload C 8 dX9_is_115 rfl ?_
        refine f_iconst C dX9_is_117 ?_
        refine f_iadd C dX9_is_118 ?_
        refine f_iald C (f := st.2 10) 8 0 rfl rfl ⟨by omega, by omega⟩ (Nat.le_of_ble_eq_true rfl) dX9_is_119 ?_
        have k35 : 0 ≤ st.2 10 ((st.2 12 p1) + 3) ∧ st.2 10 ((st.2 12 p1) + 3) ≤ 255 := hO1.2 10 ((st.2 12 p1) + 3)
        refine f_iload C 5 dX9_is_120 rfl ?_
        refine f_icmp_ne C 149 ⟨by omega, by omega⟩ ⟨by omega, by omega⟩ dX9_is_122 (by decide) (fun c36 => ?_) (fun c36 => ?_)
        · refine f_iconst C dX9_is_149 ?_
          exact f_zret C hret hlk dX9_is_150 (by decide) (hp _ (by rw [F_X9_is, if_pos c3, if_pos c4, if_neg c5, if_pos c23, if_pos c25, if_pos c28, if_pos c31, if_neg c36]) (by omega))
        refine f_iload C 7 dX9_is_125 rfl ?_
        refine f_iconst C dX9_is_127 ?_
        refine f_icmp_lt C 145 ⟨by decide, by decide⟩ ⟨by decide, by decide⟩ dX9_is_128 (by decide) (fun c37 => ?_) (fun c37 => absurd c37 (by decide))
        refine f_iconst C dX9_is_145 ?_
        refine f_goto C 150 dX9_is_146 (by decide) ?_
        exact f_zret C hret hlk dX9_is_150 (by decide) (hp _ (by rw [F_X9_is, if_pos c3, if_pos c4, if_neg c5, if_pos c23, if_pos c25, if_pos c28, if_pos c31, if_pos c36]) (by omega))
      refine f_iconst C dX9_is_53 ?_
      exact f_zret C hret hlk dX9_is_54 (by decide) (hp _ (by rw [F_X9_is, if_pos c3, if_pos c4, if_neg c5, if_neg c23]) (by omega))
    refine f_iconst C dX9_is_15 ?_
    refine f_goto C 29 dX9_is_16 (by decide) ?_
    refine f_istore C (lv' := [(7, .int (zI 5)), (0, .ref (b 0)), (1, .int (zI p1)), (2, .int (zI p2)), (3, .int (zI p3)), (4, .int (zI p4)), (5, .int (zI p5)), (6, .int (zI p6))]) dX9_is_29 (Nat.le_of_ble_eq_true rfl) rfl ?_
    refine f_aload_n C 0 dX9_is_31 rfl rfl ?_
    refine f_get C hin9 0 12 rfl rfl (Nat.le_of_ble_eq_true rfl) (by decide +kernel) rfl rfl dX9_is_32 ?_
    refine f_iload_n C 1 dX9_is_35 rfl rfl ?_
    refine f_iald C (f := st.2 12) 9 0 rfl rfl ⟨by omega, by omega⟩ (Nat.le_of_ble_eq_true rfl) dX9_is_36 ?_
    have k38 : 0 ≤ st.2 12 p1 ∧ st.2 12 p1 ≤ 600 := hO1.2 12 p1
    refine f_istore C (lv' := [(8, .int (zI (st.2 12 p1))), (7, .int (zI 5)), (0, .ref (b 0)), (1, .int (zI p1)), (2, .int (zI p2)), (3, .int (zI p3)), (4, .int (zI p4)), (5, .int (zI p5)), (6, .int (zI p6))]) dX9_is_37 (Nat.le_of_ble_eq_true rfl) rfl ?_
    refine f_aload_n C 0 dX9_is_39 rfl rfl ?_
    refine f_get C hin9 0 13 rfl rfl (Nat.le_of_ble_eq_true rfl) (by decide +kernel) rfl rfl dX9_is_40 ?_
    refine f_iload_n C 1 dX9_is_43 rfl rfl ?_
    refine f_iald C (f := st.2 13) 10 0 rfl rfl ⟨by omega, by omega⟩ (Nat.le_of_ble_eq_true rfl) dX9_is_44 ?_
    have k39 : 0 ≤ st.2 13 p1 ∧ st.2 13 p1 ≤ 600 := hO1.2 13 p1
    refine f_iload C 8 dX9_is_45 rfl ?_
    refine f_isub C dX9_is_47 ?_
    refine f_iload C 7 dX9_is_48 rfl ?_
    refine f_icmp_eq C 55 ⟨by omega, by omega⟩ ⟨by decide, by decide⟩ dX9_is_50 (by decide) (fun c40 => ?_) (fun c40 => ?_)
    · refine f_aload_n C 0 dX9_is_55 rfl rfl ?_
      refine f_get C hin9 0 10 rfl rfl (Nat.le_of_ble_eq_true rfl) (by decide +kernel) rfl rfl dX9_is_56 ?_
      refine f_iload C 8 dX9_is_59 rfl ?_
      refine f_iald C (f := st.2 10) 8 0 rfl rfl ⟨by omega, by omega⟩ (Nat.le_of_ble_eq_true rfl) dX9_is_61 ?_
      have k41 : 0 ≤ st.2 10 (st.2 12 p1) ∧ st.2 10 (st.2 12 p1) ≤ 255 := hO1.2 10 (st.2 12 p1)
      refine f_iload_n C 2 dX9_is_62 rfl rfl ?_
      refine f_icmp_ne C 97 ⟨by omega, by omega⟩ ⟨by omega, by omega⟩ dX9_is_63 (by decide) (fun c42 => ?_) (fun c42 => ?_)
      · refine f_iconst C dX9_is_97 ?_
        refine f_istore C (lv' := [(9, .int (zI 0)), (8, .int (zI (st.2 12 p1))), (7, .int (zI 5)), (0, .ref (b 0)), (1, .int (zI p1)), (2, .int (zI p2)), (3, .int (zI p3)), (4, .int (zI p4)), (5, .int (zI p5)), (6, .int (zI p6))]) dX9_is_98 (Nat.le_of_ble_eq_true rfl) rfl ?_
        refine f_iload C 9 dX9_is_100 rfl ?_
        refine f_if_eq C 149 ⟨by decide, by decide⟩ dX9_is_102 (by decide) (fun c43 => ?_) (fun c43 => absurd c43 (by decide))
        refine f_iconst C dX9_is_149 ?_
        exact f_zret C hret hlk dX9_is_150 (by decide) (hp _ (by rw [F_X9_is, if_pos c3, if_neg c4, if_pos c40, if_neg c42]) (by omega))
      refine f_aload_n C 0 dX9_is_66 rfl rfl ?_
      refine f_get C hin9 0 10 rfl rfl (Nat.le_of_ble_eq_true rfl) (by decide +kernel) rfl rfl dX9_is_67 ?_
      refine f_iload C 8 dX9_is_70 rfl ?_
      refine f_iconst C dX9_is_72 ?_
      refine f_iadd C dX9_is_73 ?_
      refine f_iald C (f := st.2 10) 8 0 rfl rfl ⟨by omega, by omega⟩ (Nat.le_of_ble_eq_true rfl) dX9_is_74 ?_
      have k44 : 0 ≤ st.2 10 ((st.2 12 p1) + 1) ∧ st.2 10 ((st.2 12 p1) + 1) ≤ 255 := hO1.2 10 ((st.2 12 p1) + 1)
      refine f_iload_n C 3 dX9_is_75 rfl rfl ?_
      refine f_icmp_ne C 97 ⟨by omega, by omega⟩ ⟨by omega, by omega⟩ dX9_is_76 (by decide) (fun c45 => ?_) (fun c45 => ?_)
      · refine f_iconst C dX9_is_97 ?_
        refine f_istore C (lv' := [(9, .int (zI 0)), (8, .int (zI (st.2 12 p1))), (7, .int (zI 5)), (0, .ref (b 0)), (1, .int (zI p1)), (2, .int (zI p2)), (3, .int (zI p3)), (4, .int (zI p4)), (5, .int (zI p5)), (6, .int (zI p6))]) dX9_is_98 (Nat.le_of_ble_eq_true rfl) rfl ?_
        refine f_iload C 9 dX9_is_100 rfl ?_
        refine f_if_eq C 149 ⟨by decide, by decide⟩ dX9_is_102 (by decide) (fun c46 => ?_) (fun c46 => absurd c46 (by decide))
        refine f_iconst C dX9_is_149 ?_
        exact f_zret C hret hlk dX9_is_150 (by decide) (hp _ (by rw [F_X9_is, if_pos c3, if_neg c4, if_pos c40, if_pos c42, if_neg c45]) (by omega))
      refine f_aload_n C 0 dX9_is_79 rfl rfl ?_
      refine f_get C hin9 0 10 rfl rfl (Nat.le_of_ble_eq_true rfl) (by decide +kernel) rfl rfl dX9_is_80 ?_
      refine f_iload C 8 dX9_is_83 rfl ?_
      refine f_iconst C dX9_is_85 ?_
      refine f_iadd C dX9_is_86 ?_
      refine f_iald C (f := st.2 10) 8 0 rfl rfl ⟨by omega, by omega⟩ (Nat.le_of_ble_eq_true rfl) dX9_is_87 ?_
      have k47 : 0 ≤ st.2 10 ((st.2 12 p1) + 2) ∧ st.2 10 ((st.2 12 p1) + 2) ≤ 255 := hO1.2 10 ((st.2 12 p1) + 2)
      refine f_iload C 4 dX9_is_88 rfl ?_
      refine f_icmp_ne C 97 ⟨by omega, by omega⟩ ⟨by omega, by omega⟩ dX9_is_90 (by decide) (fun c48 => ?_) (fun c48 => ?_)
      · refine f_iconst C dX9_is_97 ?_
        refine f_istore C (lv' := [(9, .int (zI 0)), (8, .int (zI (st.2 12 p1))), (7, .int (zI 5)), (0, .ref (b 0)), (1, .int (zI p1)), (2, .int (zI p2)), (3, .int (zI p3)), (4, .int (zI p4)), (5, .int (zI p5)), (6, .int (zI p6))]) dX9_is_98 (Nat.le_of_ble_eq_true rfl) rfl ?_
        refine f_iload C 9 dX9_is_100 rfl ?_
        refine f_if_eq C 149 ⟨by decide, by decide⟩ dX9_is_102 (by decide) (fun c49 => ?_) (fun c49 => absurd c49 (by decide))
        refine f_iconst C dX9_is_149 ?_
        exact f_zret C hret hlk dX9_is_150 (by decide) (hp _ (by rw [F_X9_is, if_pos c3, if_neg c4, if_pos c40, if_pos c42, if_pos c45, if_neg c48]) (by omega))
      refine f_iconst C dX9_is_93 ?_
      refine f_goto C 98 dX9_is_94 (by decide) ?_
      refine f_istore C (lv' := [(9, .int (zI 1)), (8, .int (zI (st.2 12 p1))), (7, .int (zI 5)), (0, .ref (b 0)), (1, .int (zI p1)), (2, .int (zI p2)), (3, .int (zI p3)), (4, .int (zI p4)), (5, .int (zI p5)), (6, .int (zI p6))]) dX9_is_98 (Nat.le_of_ble_eq_true rfl) rfl ?_
      refine f_iload C 9 dX9_is_100 rfl ?_
      refine f_if_eq C 149 ⟨by decide, by decide⟩ dX9_is_102 (by decide) (fun c50 => absurd c50 (by decide)) (fun c50 => ?_)
      refine f_iload C 7 dX9_is_105 rfl ?_
      refine f_iconst C dX9_is_107 ?_
      refine f_icmp_lt C 125 ⟨by decide, by decide⟩ ⟨by decide, by decide⟩ dX9_is_108 (by decide) (fun c51 => absurd c51 (by decide)) (fun c51 => ?_)
      refine f_aload_n C 0 dX9_is_111 rfl rfl ?_
      refine f_get C hin9 0 10 rfl rfl (Nat.le_of_ble_eq_true rfl) (by decide +kernel) rfl rfl dX9_is_112 ?_
      refine f_iload C 8 dX9_is_115 rfl ?_
      refine f_iconst C dX9_is_117 ?_
      refine f_iadd C dX9_is_118 ?_
      refine f_iald C (f := st.2 10) 8 0 rfl rfl ⟨by omega, by omega⟩ (Nat.le_of_ble_eq_true rfl) dX9_is_119 ?_
      have k52 : 0 ≤ st.2 10 ((st.2 12 p1) + 3) ∧ st.2 10 ((st.2 12 p1) + 3) ≤ 255 := hO1.2 10 ((st.2 12 p1) + 3)
      refine f_iload C 5 dX9_is_120 rfl ?_
      refine f_icmp_ne C 149 ⟨by omega, by omega⟩ ⟨by omega, by omega⟩ dX9_is_122 (by decide) (fun c53 => ?_) (fun c53 => ?_)
      · refine f_iconst C dX9_is_149 ?_
        exact f_zret C hret hlk dX9_is_150 (by decide) (hp _ (by rw [F_X9_is, if_pos c3, if_neg c4, if_pos c40, if_pos c42, if_pos c45, if_pos c48, if_neg c53]) (by omega))
      refine f_iload C 7 dX9_is_125 rfl ?_
      refine f_iconst C dX9_is_127 ?_
      refine f_icmp_lt C 145 ⟨by decide, by decide⟩ ⟨by decide, by decide⟩ dX9_is_128 (by decide) (fun c54 => absurd c54 (by decide)) (fun c54 => ?_)
      refine f_aload_n C 0 dX9_is_131 rfl rfl ?_
      refine f_get C hin9 0 10 rfl rfl (Nat.le_of_ble_eq_true rfl) (by decide +kernel) rfl rfl dX9_is_132 ?_
      refine f_iload C 8 dX9_is_135 rfl ?_
      refine f_iconst C dX9_is_137 ?_
      refine f_iadd C dX9_is_138 ?_
      refine f_iald C (f := st.2 10) 8 0 rfl rfl ⟨by omega, by omega⟩ (Nat.le_of_ble_eq_true rfl) dX9_is_139 ?_
      have k55 : 0 ≤ st.2 10 ((st.2 12 p1) + 4) ∧ st.2 10 ((st.2 12 p1) + 4) ≤ 255 := hO1.2 10 ((st.2 12 p1) + 4)
      refine f_iload C 6 dX9_is_140 rfl ?_
      refine f_icmp_ne C 149 ⟨by omega, by omega⟩ ⟨by omega, by omega⟩ dX9_is_142 (by decide) (fun c56 => ?_) (fun c56 => ?_)
      · refine f_iconst C dX9_is_149 ?_
        exact f_zret C hret hlk dX9_is_150 (by decide) (hp _ (by rw [F_X9_is, if_pos c3, if_neg c4, if_pos c40, if_pos c42, if_pos c45, if_pos c48, if_pos c53, if_neg c56]) (by omega))
      refine f_iconst C dX9_is_145 ?_
      refine f_goto C 150 dX9_is_146 (by decide) ?_
      exact f_zret C hret hlk dX9_is_150 (by decide) (hp _ (by rw [F_X9_is, if_pos c3, if_neg c4, if_pos c40, if_pos c42, if_pos c45, if_pos c48, if_pos c53, if_pos c56]) (by omega))
    refine f_iconst C dX9_is_53 ?_
    exact f_zret C hret hlk dX9_is_54 (by decide) (hp _ (by rw [F_X9_is, if_pos c3, if_neg c4, if_neg c40]) (by omega))
  refine f_iconst C dX9_is_8 ?_
  exact f_zret C hret hlk dX9_is_9 (by decide) (hp _ (by rw [F_X9_is, if_neg c3]) (by omega))

def F_X9_isKindWord (p1 : Int) (st : fS) : Int := F_X9_is p1 107 105 110 100 0 st
abbrev rm_X9_isKindWord : Room := { frames := 1, cells := 0, slots := 0, locals := 29 }
set_option maxRecDepth 100000 in
set_option maxHeartbeats 8000000 in
theorem c_X9_isKindWord {l : Launch} {D : va_G} {cI cJ cZ cB : ClassId} {b : Nat → Nat} {E : State → Prop} (hX : mHyp b E) (p1 : Int) (h1 : in32 p1) (st : fS) (q1 : 0 ≤ p1) : mMi l D cI cJ cZ cB b E yX9_isKindWord wsX9_isKindWord rm_X9_isKindWord [.ref (b 0), .int (zI p1)] st (fun z u => z = F_X9_isKindWord p1 st ∧ u = st ∧ ((z = 1 ∧ p1 < st.1 11 ∧ st.1 11 ≤ 300) ∨ z = 0)) := by
  refine fB_open (cc := cX9_isKindWord) (maxL := 2) (ret := (some .boolean)) (by decide) rfl (Nat.le_of_ble_eq_true rfl) hX.2 ?_
  intro p e s m below meth c C hret hlk
  have hp : ∀ z : Int, z = F_X9_isKindWord p1 st → ((z = 1 ∧ p1 < st.1 11 ∧ st.1 11 ≤ 300) ∨ z = 0) → z = F_X9_isKindWord p1 st ∧ st = st ∧ ((z = 1 ∧ p1 < st.1 11 ∧ st.1 11 ≤ 300) ∨ z = 0) := fun z h r1 => ⟨h, rfl, r1⟩
  refine f_aload_n C 0 dX9_isKindWord_0 rfl rfl ?_
  refine f_iload_n C 1 dX9_isKindWord_1 rfl rfl ?_
  refine f_bipush C dX9_isKindWord_2 (by decide) ?_
  refine f_bipush C dX9_isKindWord_4 (by decide) ?_
  refine f_bipush C dX9_isKindWord_6 (by decide) ?_
  refine f_bipush C dX9_isKindWord_8 (by decide) ?_
  refine f_iconst C dX9_isKindWord_10 ?_
  refine f_calli C (c_X9_is hX p1 107 105 110 100 0 ⟨by omega, by omega⟩ ⟨by decide, by decide⟩ ⟨by decide, by decide⟩ ⟨by decide, by decide⟩ ⟨by decide, by decide⟩ ⟨by decide, by decide⟩ st (show 0 ≤ p1 by omega)) (cwV 6 C.1.2.2.2.2 gX9_isKindWord_X9_is rfl rfl rfl (by decide +kernel) ⟨Nat.le_of_ble_eq_true rfl, Nat.le_of_ble_eq_true rfl⟩) 0 rfl rfl rfl rfl rfl (Nat.le_of_ble_eq_true rfl) ⟨Nat.zero_le _, Nat.zero_le _⟩ dX9_isKindWord_11 (fun z u hz1 hu => ?_)
  obtain ⟨qz1, hu, rz1⟩ := hu; replace hu := hu.symm; subst hu; subst qz1
  exact f_zret C hret hlk dX9_isKindWord_14 (by omega) (hp _ (by rw [F_X9_isKindWord]) (by omega))

def F_X9_isPer (p1 : Int) (st : fS) : Int := F_X9_is p1 112 101 114 0 0 st
abbrev rm_X9_isPer : Room := { frames := 1, cells := 0, slots := 0, locals := 29 }
set_option maxRecDepth 100000 in
set_option maxHeartbeats 8000000 in
theorem c_X9_isPer {l : Launch} {D : va_G} {cI cJ cZ cB : ClassId} {b : Nat → Nat} {E : State → Prop} (hX : mHyp b E) (p1 : Int) (h1 : in32 p1) (st : fS) (q1 : 0 ≤ p1) : mMi l D cI cJ cZ cB b E yX9_isPer wsX9_isPer rm_X9_isPer [.ref (b 0), .int (zI p1)] st (fun z u => z = F_X9_isPer p1 st ∧ u = st ∧ ((z = 1 ∧ p1 < st.1 11 ∧ st.1 11 ≤ 300) ∨ z = 0)) := by
  refine fB_open (cc := cX9_isPer) (maxL := 2) (ret := (some .boolean)) (by decide) rfl (Nat.le_of_ble_eq_true rfl) hX.2 ?_
  intro p e s m below meth c C hret hlk
  have hp : ∀ z : Int, z = F_X9_isPer p1 st → ((z = 1 ∧ p1 < st.1 11 ∧ st.1 11 ≤ 300) ∨ z = 0) → z = F_X9_isPer p1 st ∧ st = st ∧ ((z = 1 ∧ p1 < st.1 11 ∧ st.1 11 ≤ 300) ∨ z = 0) := fun z h r1 => ⟨h, rfl, r1⟩
  refine f_aload_n C 0 dX9_isPer_0 rfl rfl ?_
  refine f_iload_n C 1 dX9_isPer_1 rfl rfl ?_
  refine f_bipush C dX9_isPer_2 (by decide) ?_
  refine f_bipush C dX9_isPer_4 (by decide) ?_
  refine f_bipush C dX9_isPer_6 (by decide) ?_
  refine f_iconst C dX9_isPer_8 ?_
  refine f_iconst C dX9_isPer_9 ?_
  refine f_calli C (c_X9_is hX p1 112 101 114 0 0 ⟨by omega, by omega⟩ ⟨by decide, by decide⟩ ⟨by decide, by decide⟩ ⟨by decide, by decide⟩ ⟨by decide, by decide⟩ ⟨by decide, by decide⟩ st (show 0 ≤ p1 by omega)) (cwV 6 C.1.2.2.2.2 gX9_isPer_X9_is rfl rfl rfl (by decide +kernel) ⟨Nat.le_of_ble_eq_true rfl, Nat.le_of_ble_eq_true rfl⟩) 0 rfl rfl rfl rfl rfl (Nat.le_of_ble_eq_true rfl) ⟨Nat.zero_le _, Nat.zero_le _⟩ dX9_isPer_10 (fun z u hz1 hu => ?_)
  obtain ⟨qz1, hu, rz1⟩ := hu; replace hu := hu.symm; subst hu; subst qz1
  exact f_zret C hret hlk dX9_isPer_13 (by omega) (hp _ (by rw [F_X9_isPer]) (by omega))

def F_X9_isPrice (p1 : Int) (st : fS) : Int := F_X9_is p1 112 114 105 99 101 st
abbrev rm_X9_isPrice : Room := { frames := 1, cells := 0, slots := 0, locals := 29 }
set_option maxRecDepth 100000 in
set_option maxHeartbeats 8000000 in
theorem c_X9_isPrice {l : Launch} {D : va_G} {cI cJ cZ cB : ClassId} {b : Nat → Nat} {E : State → Prop} (hX : mHyp b E) (p1 : Int) (h1 : in32 p1) (st : fS) (q1 : 0 ≤ p1) : mMi l D cI cJ cZ cB b E yX9_isPrice wsX9_isPrice rm_X9_isPrice [.ref (b 0), .int (zI p1)] st (fun z u => z = F_X9_isPrice p1 st ∧ u = st ∧ ((z = 1 ∧ p1 < st.1 11 ∧ st.1 11 ≤ 300) ∨ z = 0)) := by
  refine fB_open (cc := cX9_isPrice) (maxL := 2) (ret := (some .boolean)) (by decide) rfl (Nat.le_of_ble_eq_true rfl) hX.2 ?_
  intro p e s m below meth c C hret hlk
  have hp : ∀ z : Int, z = F_X9_isPrice p1 st → ((z = 1 ∧ p1 < st.1 11 ∧ st.1 11 ≤ 300) ∨ z = 0) → z = F_X9_isPrice p1 st ∧ st = st ∧ ((z = 1 ∧ p1 < st.1 11 ∧ st.1 11 ≤ 300) ∨ z = 0) := fun z h r1 => ⟨h, rfl, r1⟩
  refine f_aload_n C 0 dX9_isPrice_0 rfl rfl ?_
  refine f_iload_n C 1 dX9_isPrice_1 rfl rfl ?_
  refine f_bipush C dX9_isPrice_2 (by decide) ?_
  refine f_bipush C dX9_isPrice_4 (by decide) ?_
  refine f_bipush C dX9_isPrice_6 (by decide) ?_
  refine f_bipush C dX9_isPrice_8 (by decide) ?_
  refine f_bipush C dX9_isPrice_10 (by decide) ?_
  refine f_calli C (c_X9_is hX p1 112 114 105 99 101 ⟨by omega, by omega⟩ ⟨by decide, by decide⟩ ⟨by decide, by decide⟩ ⟨by decide, by decide⟩ ⟨by decide, by decide⟩ ⟨by decide, by decide⟩ st (show 0 ≤ p1 by omega)) (cwV 6 C.1.2.2.2.2 gX9_isPrice_X9_is rfl rfl rfl (by decide +kernel) ⟨Nat.le_of_ble_eq_true rfl, Nat.le_of_ble_eq_true rfl⟩) 0 rfl rfl rfl rfl rfl (Nat.le_of_ble_eq_true rfl) ⟨Nat.zero_le _, Nat.zero_le _⟩ dX9_isPrice_12 (fun z u hz1 hu => ?_)
  obtain ⟨qz1, hu, rz1⟩ := hu; replace hu := hu.symm; subst hu; subst qz1
  exact f_zret C hret hlk dX9_isPrice_15 (by omega) (hp _ (by rw [F_X9_isPrice]) (by omega))

def F_X9_isStep (p1 : Int) (st : fS) : Int := F_X9_is p1 115 116 101 112 0 st
abbrev rm_X9_isStep : Room := { frames := 1, cells := 0, slots := 0, locals := 29 }
set_option maxRecDepth 100000 in
set_option maxHeartbeats 8000000 in
theorem c_X9_isStep {l : Launch} {D : va_G} {cI cJ cZ cB : ClassId} {b : Nat → Nat} {E : State → Prop} (hX : mHyp b E) (p1 : Int) (h1 : in32 p1) (st : fS) (q1 : 0 ≤ p1) : mMi l D cI cJ cZ cB b E yX9_isStep wsX9_isStep rm_X9_isStep [.ref (b 0), .int (zI p1)] st (fun z u => z = F_X9_isStep p1 st ∧ u = st ∧ ((z = 1 ∧ p1 < st.1 11 ∧ st.1 11 ≤ 300) ∨ z = 0)) := by
  refine fB_open (cc := cX9_isStep) (maxL := 2) (ret := (some .boolean)) (by decide) rfl (Nat.le_of_ble_eq_true rfl) hX.2 ?_
  intro p e s m below meth c C hret hlk
  have hp : ∀ z : Int, z = F_X9_isStep p1 st → ((z = 1 ∧ p1 < st.1 11 ∧ st.1 11 ≤ 300) ∨ z = 0) → z = F_X9_isStep p1 st ∧ st = st ∧ ((z = 1 ∧ p1 < st.1 11 ∧ st.1 11 ≤ 300) ∨ z = 0) := fun z h r1 => ⟨h, rfl, r1⟩
  refine f_aload_n C 0 dX9_isStep_0 rfl rfl ?_
  refine f_iload_n C 1 dX9_isStep_1 rfl rfl ?_
  refine f_bipush C dX9_isStep_2 (by decide) ?_
  refine f_bipush C dX9_isStep_4 (by decide) ?_
  refine f_bipush C dX9_isStep_6 (by decide) ?_
  refine f_bipush C dX9_isStep_8 (by decide) ?_
  refine f_iconst C dX9_isStep_10 ?_
  refine f_calli C (c_X9_is hX p1 115 116 101 112 0 ⟨by omega, by omega⟩ ⟨by decide, by decide⟩ ⟨by decide, by decide⟩ ⟨by decide, by decide⟩ ⟨by decide, by decide⟩ ⟨by decide, by decide⟩ st (show 0 ≤ p1 by omega)) (cwV 6 C.1.2.2.2.2 gX9_isStep_X9_is rfl rfl rfl (by decide +kernel) ⟨Nat.le_of_ble_eq_true rfl, Nat.le_of_ble_eq_true rfl⟩) 0 rfl rfl rfl rfl rfl (Nat.le_of_ble_eq_true rfl) ⟨Nat.zero_le _, Nat.zero_le _⟩ dX9_isStep_11 (fun z u hz1 hu => ?_)
  obtain ⟨qz1, hu, rz1⟩ := hu; replace hu := hu.symm; subst hu; subst qz1
  exact f_zret C hret hlk dX9_isStep_14 (by omega) (hp _ (by rw [F_X9_isStep]) (by omega))

def F_X9_isCap (p1 : Int) (st : fS) : Int := F_X9_is p1 99 97 112 0 0 st
abbrev rm_X9_isCap : Room := { frames := 1, cells := 0, slots := 0, locals := 29 }
set_option maxRecDepth 100000 in
set_option maxHeartbeats 8000000 in
theorem c_X9_isCap {l : Launch} {D : va_G} {cI cJ cZ cB : ClassId} {b : Nat → Nat} {E : State → Prop} (hX : mHyp b E) (p1 : Int) (h1 : in32 p1) (st : fS) (q1 : 0 ≤ p1) : mMi l D cI cJ cZ cB b E yX9_isCap wsX9_isCap rm_X9_isCap [.ref (b 0), .int (zI p1)] st (fun z u => z = F_X9_isCap p1 st ∧ u = st ∧ ((z = 1 ∧ p1 < st.1 11 ∧ st.1 11 ≤ 300) ∨ z = 0)) := by
  refine fB_open (cc := cX9_isCap) (maxL := 2) (ret := (some .boolean)) (by decide) rfl (Nat.le_of_ble_eq_true rfl) hX.2 ?_
  intro p e s m below meth c C hret hlk
  have hp : ∀ z : Int, z = F_X9_isCap p1 st → ((z = 1 ∧ p1 < st.1 11 ∧ st.1 11 ≤ 300) ∨ z = 0) → z = F_X9_isCap p1 st ∧ st = st ∧ ((z = 1 ∧ p1 < st.1 11 ∧ st.1 11 ≤ 300) ∨ z = 0) := fun z h r1 => ⟨h, rfl, r1⟩
  refine f_aload_n C 0 dX9_isCap_0 rfl rfl ?_
  refine f_iload_n C 1 dX9_isCap_1 rfl rfl ?_
  refine f_bipush C dX9_isCap_2 (by decide) ?_
  refine f_bipush C dX9_isCap_4 (by decide) ?_
  refine f_bipush C dX9_isCap_6 (by decide) ?_
  refine f_iconst C dX9_isCap_8 ?_
  refine f_iconst C dX9_isCap_9 ?_
  refine f_calli C (c_X9_is hX p1 99 97 112 0 0 ⟨by omega, by omega⟩ ⟨by decide, by decide⟩ ⟨by decide, by decide⟩ ⟨by decide, by decide⟩ ⟨by decide, by decide⟩ ⟨by decide, by decide⟩ st (show 0 ≤ p1 by omega)) (cwV 6 C.1.2.2.2.2 gX9_isCap_X9_is rfl rfl rfl (by decide +kernel) ⟨Nat.le_of_ble_eq_true rfl, Nat.le_of_ble_eq_true rfl⟩) 0 rfl rfl rfl rfl rfl (Nat.le_of_ble_eq_true rfl) ⟨Nat.zero_le _, Nat.zero_le _⟩ dX9_isCap_10 (fun z u hz1 hu => ?_)
  obtain ⟨qz1, hu, rz1⟩ := hu; replace hu := hu.symm; subst hu; subst qz1
  exact f_zret C hret hlk dX9_isCap_13 (by omega) (hp _ (by rw [F_X9_isCap]) (by omega))

def F_X9_number_37 (v1 : Int) : Nat → Int → Int → fS → Int
  | 0, _, _, _ => 0
  | n + 1, v2, v3, st => if (st.2 13 v1) ≤ v3 then v2 else (if (st.2 10 v3) < 48 then (-1) else (if (st.2 10 v3) ≤ 57 then F_X9_number_37 v1 (n) (((10 * v2) + (st.2 10 v3)) - 48) (v3 + 1) st else (-1)))

def F_X9_number (p1 : Int) (st : fS) : Int := if (st.1 11) ≤ p1 then (-1) else (if ((st.2 13 p1) - (st.2 12 p1)) ≤ 6 then F_X9_number_37 p1 (Int.toNat (606 - (st.2 12 p1)) + 1) 0 (st.2 12 p1) st else (-1))
abbrev rm_X9_number : Room := { frames := 0, cells := 0, slots := 0, locals := 0 }
set_option maxRecDepth 100000 in
set_option maxHeartbeats 8000000 in
theorem v_X9_number_37 {l : Launch} {D : va_G} {cI cJ cZ cB : ClassId} {b : Nat → Nat} {E : State → Prop} (hX : mHyp b E) (v1 : Int) (hv1 : in32 v1) {p : Program} {e : Env} {s : State} {m : MethodId} {args : Array Value} {below : List Frame} {meth : Method} {c : Code} (C : fC p m c cX9_number 4 s args wsX9_number yX9_number.cls D (fTys cI cJ cZ cB) E (mA b)) (hret : meth.sig.returnType = (some .int)) (hlk : meth.locks = false) {post : Int → fS → Prop} : ∀ (n : Nat) (v2 v3 : Int) (st : fS), in32 v2 → in32 v3 → (0 ≤ v2) → ((v3 = st.2 12 v1 ∧ v2 ≤ 0) ∨ (v3 = st.2 12 v1 + 1 ∧ v2 ≤ 9) ∨ (v3 = st.2 12 v1 + 2 ∧ v2 ≤ 99) ∨ (v3 = st.2 12 v1 + 3 ∧ v2 ≤ 999) ∨ (v3 = st.2 12 v1 + 4 ∧ v2 ≤ 9999) ∨ (v3 = st.2 12 v1 + 5 ∧ v2 ≤ 99999) ∨ (v3 = st.2 12 v1 + 6 ∧ v2 ≤ 999999)) → (st.2 13 v1 - st.2 12 v1 ≤ 6) → (0 ≤ st.2 12 v1 ∧ st.2 12 v1 ≤ 600 ∧ st.2 13 v1 ≤ 600) → (0 ≤ v1 ∧ v1 < st.1 11 ∧ st.1 11 ≤ 300) → 606 - v3 < n → (∀ z : Int, z = F_X9_number_37 v1 n v2 v3 st → (-1 ≤ z ∧ z ≤ 999999 ∧ (z = -1 ∨ (v1 < st.1 11 ∧ st.1 11 ≤ 300))) → post z st) → fV D (wM cI cJ cZ cB b) mOk (mA b) 4 p l e rm_X9_number s m args below meth c 0 0 (fMQ below (fQi D (wM cI cJ cZ cB b) mOk (mA b) post) args s (mA b)) st 37 [(0, .ref (b 0)), (1, .int (zI v1)), (2, .int (zI v2)), (3, .int (zI v3))] [] := by
  have hin9 : ∀ w ∈ u_ws RX9 TX9 43, w ∈ wsX9_number := by decide +kernel
  intro n
  induction n with
  | zero =>
    intro v2 v3 st hv2 hv3 i0 i1 i2 i3 i4 hm hp
    omega
  | succ n ih =>
    intro v2 v3 st hv2 hv3 i0 i1 i2 i3 i4 hm hp
    refine f_iload_n C 3 dX9_number_37 rfl rfl ?_
    refine f_aload_n C 0 dX9_number_38 rfl rfl ?_
    refine f_get C hin9 0 13 rfl rfl (Nat.le_of_ble_eq_true rfl) (by decide +kernel) rfl rfl dX9_number_39 ?_
    refine f_iload_n C 1 dX9_number_42 rfl rfl ?_
    refine f_iald C (f := st.2 13) 10 0 rfl rfl ⟨by omega, by omega⟩ (Nat.le_of_ble_eq_true rfl) dX9_number_43 ?_
    refine f_ok (fun hO1 => ?_)
    have k2 : 0 ≤ st.2 13 v1 ∧ st.2 13 v1 ≤ 600 := hO1.2 13 v1
    refine f_icmp_ge C 92 ⟨by omega, by omega⟩ ⟨by omega, by omega⟩ dX9_number_44 (by decide) (fun c3 => ?_) (fun c3 => ?_)
    · refine f_iload_n C 2 dX9_number_92 rfl rfl ?_
      exact f_iret C hret hlk dX9_number_93 ⟨by omega, by omega⟩ (hp _ (by rw [F_X9_number_37, if_pos c3]) (by omega))
    refine f_aload_n C 0 dX9_number_47 rfl rfl ?_
    refine f_get C hin9 0 10 rfl rfl (Nat.le_of_ble_eq_true rfl) (by decide +kernel) rfl rfl dX9_number_48 ?_
    refine f_iload_n C 3 dX9_number_51 rfl rfl ?_
    refine f_iald C (f := st.2 10) 8 0 rfl rfl ⟨by omega, by omega⟩ (Nat.le_of_ble_eq_true rfl) dX9_number_52 ?_
    have k4 : 0 ≤ st.2 10 v3 ∧ st.2 10 v3 ≤ 255 := hO1.2 10 v3
    refine f_bipush C dX9_number_53 (by decide) ?_
    refine f_icmp_lt C 69 ⟨by omega, by omega⟩ ⟨by decide, by decide⟩ dX9_number_55 (by decide) (fun c5 => ?_) (fun c5 => ?_)
    · refine f_iconst C dX9_number_69 ?_
      exact f_iret C hret hlk dX9_number_70 ⟨by decide, by decide⟩ (hp _ (by rw [F_X9_number_37, if_neg c3, if_pos c5]) (by omega))
    refine f_aload_n C 0 dX9_number_58 rfl rfl ?_
    refine f_get C hin9 0 10 rfl rfl (Nat.le_of_ble_eq_true rfl) (by decide +kernel) rfl rfl dX9_number_59 ?_
    refine f_iload_n C 3 dX9_number_62 rfl rfl ?_
    refine f_iald C (f := st.2 10) 8 0 rfl rfl ⟨by omega, by omega⟩ (Nat.le_of_ble_eq_true rfl) dX9_number_63 ?_
    refine f_bipush C dX9_number_64 (by decide) ?_
    refine f_icmp_le C 71 ⟨by omega, by omega⟩ ⟨by decide, by decide⟩ dX9_number_66 (by decide) (fun c6 => ?_) (fun c6 => ?_)
    · refine f_bipush C dX9_number_71 (by decide) ?_
      refine f_iload_n C 2 dX9_number_73 rfl rfl ?_
      refine f_imul C dX9_number_74 ?_
      refine f_aload_n C 0 dX9_number_75 rfl rfl ?_
      refine f_get C hin9 0 10 rfl rfl (Nat.le_of_ble_eq_true rfl) (by decide +kernel) rfl rfl dX9_number_76 ?_
      refine f_iload_n C 3 dX9_number_79 rfl rfl ?_
      refine f_iald C (f := st.2 10) 8 0 rfl rfl ⟨by omega, by omega⟩ (Nat.le_of_ble_eq_true rfl) dX9_number_80 ?_
      refine f_iadd C dX9_number_81 ?_
      refine f_bipush C dX9_number_82 (by decide) ?_
      refine f_isub C dX9_number_84 ?_
      refine f_istore_n C 2 (lv' := [(2, .int (zI (((10 * v2) + (st.2 10 v3)) - 48))), (0, .ref (b 0)), (1, .int (zI v1)), (3, .int (zI v3))]) dX9_number_85 rfl (Nat.le_of_ble_eq_true rfl) rfl ?_
      refine f_iinc C (lv' := [(3, .int (zI (v3 + 1))), (2, .int (zI (((10 * v2) + (st.2 10 v3)) - 48))), (0, .ref (b 0)), (1, .int (zI v1))]) 3 dX9_number_86 rfl (Nat.le_of_ble_eq_true rfl) rfl ?_
      refine f_goto C 37 dX9_number_89 (by decide) ?_
      refine f_re (lv' := [(0, .ref (b 0)), (1, .int (zI v1)), (2, .int (zI (((10 * v2) + (st.2 10 v3)) - 48))), (3, .int (zI (v3 + 1)))]) [2, 3, 1, 0] rfl ?_
      have k7 : 0 ≤ st.1 11 ∧ st.1 11 ≤ 300 := hO1.1 11
      exact ih (((10 * v2) + (st.2 10 v3)) - 48) (v3 + 1) st ⟨by omega, by omega⟩ ⟨by omega, by omega⟩ (show 0 ≤ (((10 * v2) + (st.2 10 v3)) - 48) by omega) (show ((v3 + 1) = (st.2 12) v1 ∧ (((10 * v2) + (st.2 10 v3)) - 48) ≤ 0) ∨ ((v3 + 1) = (st.2 12) v1 + 1 ∧ (((10 * v2) + (st.2 10 v3)) - 48) ≤ 9) ∨ ((v3 + 1) = (st.2 12) v1 + 2 ∧ (((10 * v2) + (st.2 10 v3)) - 48) ≤ 99) ∨ ((v3 + 1) = (st.2 12) v1 + 3 ∧ (((10 * v2) + (st.2 10 v3)) - 48) ≤ 999) ∨ ((v3 + 1) = (st.2 12) v1 + 4 ∧ (((10 * v2) + (st.2 10 v3)) - 48) ≤ 9999) ∨ ((v3 + 1) = (st.2 12) v1 + 5 ∧ (((10 * v2) + (st.2 10 v3)) - 48) ≤ 99999) ∨ ((v3 + 1) = (st.2 12) v1 + 6 ∧ (((10 * v2) + (st.2 10 v3)) - 48) ≤ 999999) by omega) (show (st.2 13) v1 - (st.2 12) v1 ≤ 6 by omega) (show 0 ≤ (st.2 12) v1 ∧ (st.2 12) v1 ≤ 600 ∧ (st.2 13) v1 ≤ 600 by omega) (show 0 ≤ v1 ∧ v1 < (st.1 11) ∧ (st.1 11) ≤ 300 by omega) (show 606 - (v3 + 1) < ((n : Nat) : Int) by omega) (fun z e1 r1 => hp z (by rw [F_X9_number_37, if_neg c3, if_neg c5, if_pos c6]; exact e1) r1)
    refine f_iconst C dX9_number_69 ?_
    exact f_iret C hret hlk dX9_number_70 ⟨by decide, by decide⟩ (hp _ (by rw [F_X9_number_37, if_neg c3, if_neg c5, if_neg c6]) (by omega))
set_option maxRecDepth 100000 in
set_option maxHeartbeats 8000000 in
theorem c_X9_number {l : Launch} {D : va_G} {cI cJ cZ cB : ClassId} {b : Nat → Nat} {E : State → Prop} (hX : mHyp b E) (p1 : Int) (h1 : in32 p1) (st : fS) (q1 : 0 ≤ p1) : mMi l D cI cJ cZ cB b E yX9_number wsX9_number rm_X9_number [.ref (b 0), .int (zI p1)] st (fun z u => z = F_X9_number p1 st ∧ u = st ∧ (-1 ≤ z ∧ z ≤ 999999 ∧ (z = -1 ∨ (p1 < st.1 11 ∧ st.1 11 ≤ 300)))) := by
  refine fB_open (cc := cX9_number) (maxL := 4) (ret := (some .int)) (by decide) rfl (Nat.le_of_ble_eq_true rfl) hX.2 ?_
  intro p e s m below meth c C hret hlk
  have hin9 : ∀ w ∈ u_ws RX9 TX9 43, w ∈ wsX9_number := by decide +kernel
  have hp : ∀ z : Int, z = F_X9_number p1 st → (-1 ≤ z ∧ z ≤ 999999 ∧ (z = -1 ∨ (p1 < st.1 11 ∧ st.1 11 ≤ 300))) → z = F_X9_number p1 st ∧ st = st ∧ (-1 ≤ z ∧ z ≤ 999999 ∧ (z = -1 ∨ (p1 < st.1 11 ∧ st.1 11 ≤ 300))) := fun z h r1 => ⟨h, rfl, r1⟩
  refine f_iload_n C 1 dX9_number_0 rfl rfl ?_
  refine f_aload_n C 0 dX9_number_1 rfl rfl ?_
  refine f_ok (fun hO8 => ?_)
  have k9 : 0 ≤ st.1 11 ∧ st.1 11 ≤ 300 := hO8.1 11
  refine f_get C (v := .int (zI (st.1 11))) hin9 0 11 rfl rfl (Nat.le_of_ble_eq_true rfl) (by decide +kernel) rfl rfl dX9_number_2 ?_
  refine f_icmp_ge C 26 ⟨by omega, by omega⟩ ⟨by omega, by omega⟩ dX9_number_5 (by decide) (fun c10 => ?_) (fun c10 => ?_)
  · refine f_iconst C dX9_number_26 ?_
    exact f_iret C hret hlk dX9_number_27 ⟨by decide, by decide⟩ (hp _ (by rw [F_X9_number, if_pos c10]) (by omega))
  refine f_aload_n C 0 dX9_number_8 rfl rfl ?_
  refine f_get C hin9 0 13 rfl rfl (Nat.le_of_ble_eq_true rfl) (by decide +kernel) rfl rfl dX9_number_9 ?_
  refine f_iload_n C 1 dX9_number_12 rfl rfl ?_
  refine f_iald C (f := st.2 13) 10 0 rfl rfl ⟨by omega, by omega⟩ (Nat.le_of_ble_eq_true rfl) dX9_number_13 ?_
  have k11 : 0 ≤ st.2 13 p1 ∧ st.2 13 p1 ≤ 600 := hO8.2 13 p1
  refine f_aload_n C 0 dX9_number_14 rfl rfl ?_
  refine f_get C hin9 0 12 rfl rfl (Nat.le_of_ble_eq_true rfl) (by decide +kernel) rfl rfl dX9_number_15 ?_
  refine f_iload_n C 1 dX9_number_18 rfl rfl ?_
  refine f_iald C (f := st.2 12) 9 0 rfl rfl ⟨by omega, by omega⟩ (Nat.le_of_ble_eq_true rfl) dX9_number_19 ?_
  have k12 : 0 ≤ st.2 12 p1 ∧ st.2 12 p1 ≤ 600 := hO8.2 12 p1
  refine f_isub C dX9_number_20 ?_
  refine f_bipush C dX9_number_21 (by decide) ?_
  refine f_icmp_le C 28 ⟨by omega, by omega⟩ ⟨by decide, by decide⟩ dX9_number_23 (by decide) (fun c13 => ?_) (fun c13 => ?_)
  · refine f_iconst C dX9_number_28 ?_
    refine f_istore_n C 2 (lv' := [(2, .int (zI 0)), (0, .ref (b 0)), (1, .int (zI p1))]) dX9_number_29 rfl (Nat.le_of_ble_eq_true rfl) rfl ?_
    refine f_aload_n C 0 dX9_number_30 rfl rfl ?_
    refine f_get C hin9 0 12 rfl rfl (Nat.le_of_ble_eq_true rfl) (by decide +kernel) rfl rfl dX9_number_31 ?_
    refine f_iload_n C 1 dX9_number_34 rfl rfl ?_
    refine f_iald C (f := st.2 12) 9 0 rfl rfl ⟨by omega, by omega⟩ (Nat.le_of_ble_eq_true rfl) dX9_number_35 ?_
    refine f_istore_n C 3 (lv' := [(3, .int (zI (st.2 12 p1))), (2, .int (zI 0)), (0, .ref (b 0)), (1, .int (zI p1))]) dX9_number_36 rfl (Nat.le_of_ble_eq_true rfl) rfl ?_
    refine f_re (lv' := [(0, .ref (b 0)), (1, .int (zI p1)), (2, .int (zI 0)), (3, .int (zI (st.2 12 p1)))]) [2, 3, 1, 0] rfl ?_
    exact v_X9_number_37 hX p1 ⟨by omega, by omega⟩ C hret hlk (Int.toNat (606 - (st.2 12 p1)) + 1) 0 (st.2 12 p1) st ⟨by omega, by omega⟩ ⟨by omega, by omega⟩ (show 0 ≤ (0 : Int) by omega) (show ((st.2 12 p1) = (st.2 12) p1 ∧ (0 : Int) ≤ 0) ∨ ((st.2 12 p1) = (st.2 12) p1 + 1 ∧ (0 : Int) ≤ 9) ∨ ((st.2 12 p1) = (st.2 12) p1 + 2 ∧ (0 : Int) ≤ 99) ∨ ((st.2 12 p1) = (st.2 12) p1 + 3 ∧ (0 : Int) ≤ 999) ∨ ((st.2 12 p1) = (st.2 12) p1 + 4 ∧ (0 : Int) ≤ 9999) ∨ ((st.2 12 p1) = (st.2 12) p1 + 5 ∧ (0 : Int) ≤ 99999) ∨ ((st.2 12 p1) = (st.2 12) p1 + 6 ∧ (0 : Int) ≤ 999999) by omega) (show (st.2 13) p1 - (st.2 12) p1 ≤ 6 by omega) (show 0 ≤ (st.2 12) p1 ∧ (st.2 12) p1 ≤ 600 ∧ (st.2 13) p1 ≤ 600 by omega) (show 0 ≤ p1 ∧ p1 < (st.1 11) ∧ (st.1 11) ≤ 300 by omega) (show 606 - (st.2 12 p1) < ((Int.toNat (606 - (st.2 12 p1)) + 1 : Nat) : Int) by omega) (fun z e1 r1 => hp z (by rw [F_X9_number, if_neg c10, if_pos c13]; exact e1) r1)
  refine f_iconst C dX9_number_26 ?_
  exact f_iret C hret hlk dX9_number_27 ⟨by decide, by decide⟩ (hp _ (by rw [F_X9_number, if_neg c10, if_neg c13]) (by omega))
