/-! ===== PART 87: the loop of the law (laid by program) ===== -/
set_option maxRecDepth 100000 in
set_option maxHeartbeats 16000000 in
theorem law_loop {l : Launch} {D : va_G} {cI cJ cZ cB : ClassId} {a b : Nat → Nat} {A : Nat → Prop} {E : State → Prop} {adK adV : Nat → Nat} {fv : Option Nat} {p : Program} {e : Env} {R : Room} {s : State} {m : MethodId} {args : Array Value} {below : List Frame} {meth : Method} {c : Code} {cells slots : Nat} {Q : State → Prop} {q0 L : Nat} {xs : Nat → Int32} (G : lG a b A E adK adV fv) (C : fC p m c cL_law 4 s args wsL_law RL D (fTys cI cJ cZ cB) E A) (hX : va_X q0 L xs s s.heap) (hbl : q0 < s.heap.size) (hbA : ¬ A q0) (hL : (L : Int) ≤ 2147483648) (hR : 13 ≤ R.frames ∧ 504 ≤ R.locals) (hcs : cells ≤ R.cells ∧ slots ≤ R.slots) (hL2 : (L : Int) ≤ 4608) (kend : ∀ (i : Int) (x m0 : fS), fV (σ := fS × fS) D (wL cI cJ cZ cB a b) okL A 4 p l e R s m args below meth c cells slots Q (x, m0) 1127 [(0, .ref q0), (1, .ref (a 0)), (2, .ref (b 0)), (3, .int (zI i))] []) : ∀ (n : Nat) (i : Int) (x m0 : fS), 0 ≤ i → i ≤ L → L - i < n → Rel x m0 → fV (σ := fS × fS) D (wL cI cJ cZ cB a b) okL A 4 p l e R s m args below meth c cells slots Q (x, m0) 18 [(0, .ref q0), (1, .ref (a 0)), (2, .ref (b 0)), (3, .int (zI i))] [] := by
  intro n
  induction n with
  | zero => intro i x m0 h0 h1 h2 hRel; omega
  | succ n ih =>
    intro i x m0 h0 h1 h2 hRel
    refine f_iload_n C 3 dL_law_18 rfl rfl ?_
    refine f_aload_n C 0 dL_law_19 rfl rfl ?_
    refine f_slen C hX hbl hbA dL_law_20 ?_
    refine f_bipush C dL_law_21 (by decide) ?_
    refine f_isub C dL_law_23 ?_
    refine f_icmp_gt C 1127 ⟨by omega, by omega⟩ ⟨by omega, by omega⟩ dL_law_24 (by decide) (fun _ => kend i x m0) (fun c1 => ?_)
    refine f_aload_n C 0 dL_law_27 rfl rfl ?_
    refine f_iload_n C 3 dL_law_28 rfl rfl ?_
    refine f_sld C hX hbl hbA ⟨by omega, by omega⟩ hL dL_law_29 ?_
    refine f_bipush C dL_law_30 (by decide) ?_
    refine f_iand C dL_law_32 ?_
    have hi9 : 0 ≤ i ∧ i + 9 ≤ L := ⟨h0, by omega⟩
    have next : ∀ x1 m1 : fS, Rel x1 m1 → fV (σ := fS × fS) D (wL cI cJ cZ cB a b) okL A 4 p l e R s m args below meth c cells slots Q (x1, m1) 1121 [(0, .ref q0), (1, .ref (a 0)), (2, .ref (b 0)), (3, .int (zI i))] [] := by
      intro x1 m1 hR1
      refine f_iinc C (lv' := [(3, .int (zI (i + 9))), (0, .ref q0), (1, .ref (a 0)), (2, .ref (b 0))]) 3 dL_law_1121 rfl (Nat.le_of_ble_eq_true rfl) rfl ?_
      refine f_goto C 18 dL_law_1124 (by decide) ?_
      refine f_re (lv' := [(0, .ref q0), (1, .ref (a 0)), (2, .ref (b 0)), (3, .int (zI (i + 9)))]) [1, 2, 3, 0] rfl ?_
      exact ih (i + 9) x1 m1 (by omega) (by omega) (by omega) hR1
    have hv : in32 (andI (sc xs i) 31) := zI_bb _
    generalize andI (sc xs i) 31 = v at hv ⊢
    by_cases c2 : v < 0 ∨ 16 < v
    · exact f_tabOutE C 1121 hv dL_law_33 c2 (by decide) (next x m0 hRel)
    obtain ⟨k, hk, hk2⟩ : ∃ k : Nat, v = k ∧ k < 17 := ⟨v.toNat, by omega, by omega⟩
    subst hk
    match k, hk2 with
    | 0, _ => exact f_tabInE C 116 hv dL_law_33 (by decide) (by decide) (off := 83) rfl (by decide) (lawc_house G C hX hbl hbA hL hR hcs hi9 hRel next)
    | 1, _ => exact f_tabInE C 139 hv dL_law_33 (by decide) (by decide) (off := 106) rfl (by decide) (lawc_fact G C hX hbl hbA hL hR hcs hi9 hRel next)
    | 2, _ => exact f_tabInE C 298 hv dL_law_33 (by decide) (by decide) (off := 265) rfl (by decide) (lawc_unit G C hX hbl hbA hL hR hcs hi9 hRel next)
    | 3, _ => exact f_tabInE C 321 hv dL_law_33 (by decide) (by decide) (off := 288) rfl (by decide) (lawc_read G C hX hbl hbA hL hR hcs hi9 hRel next)
    | 4, _ => exact f_tabInE C 414 hv dL_law_33 (by decide) (by decide) (off := 381) rfl (by decide) (lawc_edition G C hX hbl hbA hL hR hcs hi9 hRel next)
    | 5, _ => exact f_tabInE C 447 hv dL_law_33 (by decide) (by decide) (off := 414) rfl (by decide) (lawc_cap G C hX hbl hbA hL hR hcs hi9 hRel next)
    | 6, _ => exact f_tabInE C 510 hv dL_law_33 (by decide) (by decide) (off := 477) rfl (by decide) (lawc_relief G C hX hbl hbA hL hR hcs hi9 hRel next)
    | 7, _ => exact f_tabInE C 625 hv dL_law_33 (by decide) (by decide) (off := 592) rfl (by decide) (lawc_weight G C hX hbl hbA hL hR hcs hi9 hRel next)
    | 8, _ => exact f_tabInE C 668 hv dL_law_33 (by decide) (by decide) (off := 635) rfl (by decide) (lawc_bill G C hX hbl hbA hL hR hcs hi9 hRel next)
    | 9, _ => exact f_tabInE C 742 hv dL_law_33 (by decide) (by decide) (off := 709) rfl (by decide) (lawc_walk G C hX hbl hbA hL hR hcs hi9 hRel next)
    | 10, _ => exact f_tabInE C 815 hv dL_law_33 (by decide) (by decide) (off := 782) rfl (by decide) (lawc_line G C hX hbl hbA hL hR hcs hi9 hRel next)
    | 11, _ => exact f_tabInE C 849 hv dL_law_33 (by decide) (by decide) (off := 816) rfl (by decide) (lawc_open G C hX hbl hbA hL hR hcs hi9 hRel next)
    | 12, _ => exact f_tabInE C 872 hv dL_law_33 (by decide) (by decide) (off := 839) rfl (by decide) (lawc_write G C hX hbl hbA hL hR hcs hi9 hRel next)
    | 13, _ => exact f_tabInE C 895 hv dL_law_33 (by decide) (by decide) (off := 862) rfl (by decide) (lawc_flat G C hX hbl hbA hL hR hcs hi9 hRel next)
    | 14, _ => exact f_tabInE C 979 hv dL_law_33 (by decide) (by decide) (off := 946) rfl (by decide) (lawc_issue G C hX hbl hbA hL hR hcs hi9 hRel next)
    | 15, _ => exact f_tabInE C 1053 hv dL_law_33 (by decide) (by decide) (off := 1020) rfl (by decide) (lawc_issued G C hX hbl hbA hL hR hcs hi9 hRel next)
    | 16, _ => exact f_tabInE C 1087 hv dL_law_33 (by decide) (by decide) (off := 1054) rfl (by decide) (lawc_reverse G C hX hbl hbA hL hR hcs hi9 hRel next)
    | k + 17, h => omega
