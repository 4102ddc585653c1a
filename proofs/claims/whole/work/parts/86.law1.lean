/-! ===== PART 86.1: the law's cases (laid by program) ===== -/
set_option maxRecDepth 100000 in
set_option maxHeartbeats 16000000 in
theorem lawc_relief {l : Launch} {D : va_G} {cI cJ cZ cB : ClassId} {a b : Nat → Nat} {A : Nat → Prop} {E : State → Prop} {adK adV : Nat → Nat} {fv : Option Nat} {p : Program} {e : Env} {R : Room} {s : State} {m : MethodId} {args : Array Value} {below : List Frame} {meth : Method} {c : Code} {cells slots : Nat} {Q : State → Prop} {q0 L : Nat} {xs : Nat → Int32} (G : lG a b A E adK adV fv) (C : fC p m c cL_law 4 s args wsL_law RL D (fTys cI cJ cZ cB) E A) (hX : va_X q0 L xs s s.heap) (hbl : q0 < s.heap.size) (hbA : ¬ A q0) (hL : (L : Int) ≤ 2147483648) (hR : 13 ≤ R.frames ∧ 504 ≤ R.locals) (hcs : cells ≤ R.cells ∧ slots ≤ R.slots) {i : Int} (hi : 0 ≤ i ∧ i + 9 ≤ L) {x m0 : fS} (hRel : Rel x m0) (kk : ∀ x1 m1 : fS, Rel x1 m1 → fV (σ := fS × fS) D (wL cI cJ cZ cB a b) okL A 4 p l e R s m args below meth c cells slots Q (x1, m1) 1121 [(0, .ref q0), (1, .ref (a 0)), (2, .ref (b 0)), (3, .int (zI i))] []) : fV (σ := fS × fS) D (wL cI cJ cZ cB a b) okL A 4 p l e R s m args below meth c cells slots Q (x, m0) 510 [(0, .ref q0), (1, .ref (a 0)), (2, .ref (b 0)), (3, .int (zI i))] [] := by
  refine f_ok (fun hO => ?_)
  refine f_aload_n C 1 dL_law_510 rfl rfl ?_
  refine f_aload_n C 0 dL_law_511 rfl rfl ?_
  refine f_iload_n C 3 dL_law_512 rfl rfl ?_
  refine f_iconst C dL_law_513 ?_
  refine f_iadd C dL_law_514 ?_
  refine f_sld C hX hbl hbA ⟨by omega, by omega⟩ hL dL_law_515 ?_
  refine f_aload_n C 0 dL_law_516 rfl rfl ?_
  refine f_iload_n C 3 dL_law_517 rfl rfl ?_
  refine f_iconst C dL_law_518 ?_
  refine f_iadd C dL_law_519 ?_
  refine f_sld C hX hbl hbA ⟨by omega, by omega⟩ hL dL_law_520 ?_
  refine f_aload_n C 0 dL_law_521 rfl rfl ?_
  refine f_iload_n C 3 dL_law_522 rfl rfl ?_
  refine f_iconst C dL_law_523 ?_
  refine f_iadd C dL_law_524 ?_
  refine f_sld C hX hbl hbA ⟨by omega, by omega⟩ hL dL_law_525 ?_
  refine f_i2l C (sc_in xs _) dL_law_526 ?_
  refine f_bipush C dL_law_527 (by decide) ?_
  refine f_lshl C dL_law_529 ?_
  refine f_aload_n C 0 dL_law_530 rfl rfl ?_
  refine f_iload_n C 3 dL_law_531 rfl rfl ?_
  refine f_iconst C dL_law_532 ?_
  refine f_iadd C dL_law_533 ?_
  refine f_sld C hX hbl hbA ⟨by omega, by omega⟩ hL dL_law_534 ?_
  refine f_i2l C (sc_in xs _) dL_law_535 ?_
  refine f_ldc2 C (v := 4294967295) (z := 4294967295) (by decide +kernel) (by decide) dL_law_536 ?_
  refine f_land C dL_law_539 ?_
  refine f_lor C dL_law_540 ?_
  refine f_aload_n C 0 dL_law_541 rfl rfl ?_
  refine f_iload_n C 3 dL_law_542 rfl rfl ?_
  refine f_iconst C dL_law_543 ?_
  refine f_iadd C dL_law_544 ?_
  refine f_sld C hX hbl hbA ⟨by omega, by omega⟩ hL dL_law_545 ?_
  refine f_i2l C (sc_in xs _) dL_law_546 ?_
  refine f_bipush C dL_law_547 (by decide) ?_
  refine f_lshl C dL_law_549 ?_
  refine f_aload_n C 0 dL_law_550 rfl rfl ?_
  refine f_iload_n C 3 dL_law_551 rfl rfl ?_
  refine f_bipush C dL_law_552 (by decide) ?_
  refine f_iadd C dL_law_554 ?_
  refine f_sld C hX hbl hbA ⟨by omega, by omega⟩ hL dL_law_555 ?_
  refine f_i2l C (sc_in xs _) dL_law_556 ?_
  refine f_ldc2 C (v := 4294967295) (z := 4294967295) (by decide +kernel) (by decide) dL_law_557 ?_
  refine f_land C dL_law_560 ?_
  refine f_lor C dL_law_561 ?_
  refine lx_ci G C (c_X8_relief ⟨G.1, xE_st _ _ _ _⟩ (sc xs (i + 1)) (sc xs (i + 2)) (lorJ (shlJ (sc xs (i + 3))) (landJ (sc xs (i + 4)) 4294967295)) (lorJ (shlJ (sc xs (i + 5))) (landJ (sc xs (i + 6)) 4294967295)) (sc_in xs _) (sc_in xs _) (zJ_b _) (zJ_b _) x ) (cwV 4 C.1.2.2.2.2 gL_law_X8_relief rfl rfl rfl (by decide +kernel) ⟨by show 2 + 1 ≤ R.frames; omega, by show 8 + (7 + 11) + 49 ≤ R.locals; omega⟩) rfl rfl (Nat.le_of_ble_eq_true rfl) hcs dL_law_562 (fun z1 u1 hz1 hu1 => ?_)
  obtain ⟨ez1, eu1, _⟩ := hu1
  refine f_aload_n C 2 dL_law_565 rfl rfl ?_
  refine f_aload_n C 0 dL_law_566 rfl rfl ?_
  refine f_iload_n C 3 dL_law_567 rfl rfl ?_
  refine f_iconst C dL_law_568 ?_
  refine f_iadd C dL_law_569 ?_
  refine f_sld C hX hbl hbA ⟨by omega, by omega⟩ hL dL_law_570 ?_
  refine f_aload_n C 0 dL_law_571 rfl rfl ?_
  refine f_iload_n C 3 dL_law_572 rfl rfl ?_
  refine f_iconst C dL_law_573 ?_
  refine f_iadd C dL_law_574 ?_
  refine f_sld C hX hbl hbA ⟨by omega, by omega⟩ hL dL_law_575 ?_
  refine f_aload_n C 0 dL_law_576 rfl rfl ?_
  refine f_iload_n C 3 dL_law_577 rfl rfl ?_
  refine f_iconst C dL_law_578 ?_
  refine f_iadd C dL_law_579 ?_
  refine f_sld C hX hbl hbA ⟨by omega, by omega⟩ hL dL_law_580 ?_
  refine f_i2l C (sc_in xs _) dL_law_581 ?_
  refine f_bipush C dL_law_582 (by decide) ?_
  refine f_lshl C dL_law_584 ?_
  refine f_aload_n C 0 dL_law_585 rfl rfl ?_
  refine f_iload_n C 3 dL_law_586 rfl rfl ?_
  refine f_iconst C dL_law_587 ?_
  refine f_iadd C dL_law_588 ?_
  refine f_sld C hX hbl hbA ⟨by omega, by omega⟩ hL dL_law_589 ?_
  refine f_i2l C (sc_in xs _) dL_law_590 ?_
  refine f_ldc2 C (v := 4294967295) (z := 4294967295) (by decide +kernel) (by decide) dL_law_591 ?_
  refine f_land C dL_law_594 ?_
  refine f_lor C dL_law_595 ?_
  refine f_aload_n C 0 dL_law_596 rfl rfl ?_
  refine f_iload_n C 3 dL_law_597 rfl rfl ?_
  refine f_iconst C dL_law_598 ?_
  refine f_iadd C dL_law_599 ?_
  refine f_sld C hX hbl hbA ⟨by omega, by omega⟩ hL dL_law_600 ?_
  refine f_i2l C (sc_in xs _) dL_law_601 ?_
  refine f_bipush C dL_law_602 (by decide) ?_
  refine f_lshl C dL_law_604 ?_
  refine f_aload_n C 0 dL_law_605 rfl rfl ?_
  refine f_iload_n C 3 dL_law_606 rfl rfl ?_
  refine f_bipush C dL_law_607 (by decide) ?_
  refine f_iadd C dL_law_609 ?_
  refine f_sld C hX hbl hbA ⟨by omega, by omega⟩ hL dL_law_610 ?_
  refine f_i2l C (sc_in xs _) dL_law_611 ?_
  refine f_ldc2 C (v := 4294967295) (z := 4294967295) (by decide +kernel) (by decide) dL_law_612 ?_
  refine f_land C dL_law_615 ?_
  refine f_lor C dL_law_616 ?_
  refine lm_ci G C (c_X9_relief ⟨G.2.1, fSt_T _⟩ (sc xs (i + 1)) (sc xs (i + 2)) (lorJ (shlJ (sc xs (i + 3))) (landJ (sc xs (i + 4)) 4294967295)) (lorJ (shlJ (sc xs (i + 5))) (landJ (sc xs (i + 6)) 4294967295)) (sc_in xs _) (sc_in xs _) (zJ_b _) (zJ_b _) m0 ) (cwV 4 C.1.2.2.2.2 gL_law_X9_relief rfl rfl rfl (by decide +kernel) ⟨by show 1 + 1 ≤ R.frames; omega, by show 8 + (7 + 11) + 21 ≤ R.locals; omega⟩) rfl rfl (Nat.le_of_ble_eq_true rfl) hcs dL_law_617 (fun z2 u2 hz2 hu2 => ?_)
  obtain ⟨ez2, eu2, _⟩ := hu2
  have q := q_relief hRel hO.1 hO.2 (sc xs (i + 1)) (sc xs (i + 2)) (lorJ (shlJ (sc xs (i + 3))) (landJ (sc xs (i + 4)) 4294967295)) (lorJ (shlJ (sc xs (i + 5))) (landJ (sc xs (i + 6)) 4294967295))
  refine f_icmp_eq C 1121 hz1 hz2 dL_law_620 (by decide) (fun _ => ?_) (fun hne => absurd (by rw [ez1, ez2]; exact q.1) hne)
  rw [eu1, eu2]
  exact kk _ _ q.2
set_option maxRecDepth 100000 in
set_option maxHeartbeats 16000000 in
theorem lawc_weight {l : Launch} {D : va_G} {cI cJ cZ cB : ClassId} {a b : Nat → Nat} {A : Nat → Prop} {E : State → Prop} {adK adV : Nat → Nat} {fv : Option Nat} {p : Program} {e : Env} {R : Room} {s : State} {m : MethodId} {args : Array Value} {below : List Frame} {meth : Method} {c : Code} {cells slots : Nat} {Q : State → Prop} {q0 L : Nat} {xs : Nat → Int32} (G : lG a b A E adK adV fv) (C : fC p m c cL_law 4 s args wsL_law RL D (fTys cI cJ cZ cB) E A) (hX : va_X q0 L xs s s.heap) (hbl : q0 < s.heap.size) (hbA : ¬ A q0) (hL : (L : Int) ≤ 2147483648) (hR : 13 ≤ R.frames ∧ 504 ≤ R.locals) (hcs : cells ≤ R.cells ∧ slots ≤ R.slots) {i : Int} (hi : 0 ≤ i ∧ i + 9 ≤ L) {x m0 : fS} (hRel : Rel x m0) (kk : ∀ x1 m1 : fS, Rel x1 m1 → fV (σ := fS × fS) D (wL cI cJ cZ cB a b) okL A 4 p l e R s m args below meth c cells slots Q (x1, m1) 1121 [(0, .ref q0), (1, .ref (a 0)), (2, .ref (b 0)), (3, .int (zI i))] []) : fV (σ := fS × fS) D (wL cI cJ cZ cB a b) okL A 4 p l e R s m args below meth c cells slots Q (x, m0) 625 [(0, .ref q0), (1, .ref (a 0)), (2, .ref (b 0)), (3, .int (zI i))] [] := by
  refine f_ok (fun hO => ?_)
  refine f_aload_n C 1 dL_law_625 rfl rfl ?_
  refine f_aload_n C 0 dL_law_626 rfl rfl ?_
  refine f_iload_n C 3 dL_law_627 rfl rfl ?_
  refine f_iconst C dL_law_628 ?_
  refine f_iadd C dL_law_629 ?_
  refine f_sld C hX hbl hbA ⟨by omega, by omega⟩ hL dL_law_630 ?_
  refine f_aload_n C 0 dL_law_631 rfl rfl ?_
  refine f_iload_n C 3 dL_law_632 rfl rfl ?_
  refine f_iconst C dL_law_633 ?_
  refine f_iadd C dL_law_634 ?_
  refine f_sld C hX hbl hbA ⟨by omega, by omega⟩ hL dL_law_635 ?_
  refine f_aload_n C 0 dL_law_636 rfl rfl ?_
  refine f_iload_n C 3 dL_law_637 rfl rfl ?_
  refine f_iconst C dL_law_638 ?_
  refine f_iadd C dL_law_639 ?_
  refine f_sld C hX hbl hbA ⟨by omega, by omega⟩ hL dL_law_640 ?_
  refine lx_ci G C (c_X8_weight ⟨G.1, xE_st _ _ _ _⟩ (sc xs (i + 1)) (sc xs (i + 2)) (sc xs (i + 3)) (sc_in xs _) (sc_in xs _) (sc_in xs _) x ) (cwV 3 C.1.2.2.2.2 gL_law_X8_weight rfl rfl rfl (by decide +kernel) ⟨by show 2 + 1 ≤ R.frames; omega, by show 8 + (4 + 11) + 46 ≤ R.locals; omega⟩) rfl rfl (Nat.le_of_ble_eq_true rfl) hcs dL_law_641 (fun z1 u1 hz1 hu1 => ?_)
  obtain ⟨ez1, eu1, _⟩ := hu1
  refine f_aload_n C 2 dL_law_644 rfl rfl ?_
  refine f_aload_n C 0 dL_law_645 rfl rfl ?_
  refine f_iload_n C 3 dL_law_646 rfl rfl ?_
  refine f_iconst C dL_law_647 ?_
  refine f_iadd C dL_law_648 ?_
  refine f_sld C hX hbl hbA ⟨by omega, by omega⟩ hL dL_law_649 ?_
  refine f_aload_n C 0 dL_law_650 rfl rfl ?_
  refine f_iload_n C 3 dL_law_651 rfl rfl ?_
  refine f_iconst C dL_law_652 ?_
  refine f_iadd C dL_law_653 ?_
  refine f_sld C hX hbl hbA ⟨by omega, by omega⟩ hL dL_law_654 ?_
  refine f_aload_n C 0 dL_law_655 rfl rfl ?_
  refine f_iload_n C 3 dL_law_656 rfl rfl ?_
  refine f_iconst C dL_law_657 ?_
  refine f_iadd C dL_law_658 ?_
  refine f_sld C hX hbl hbA ⟨by omega, by omega⟩ hL dL_law_659 ?_
  refine lm_ci G C (c_X9_weight ⟨G.2.1, fSt_T _⟩ (sc xs (i + 1)) (sc xs (i + 2)) (sc xs (i + 3)) (sc_in xs _) (sc_in xs _) (sc_in xs _) m0 ) (cwV 3 C.1.2.2.2.2 gL_law_X9_weight rfl rfl rfl (by decide +kernel) ⟨by show 2 + 1 ≤ R.frames; omega, by show 8 + (4 + 11) + 43 ≤ R.locals; omega⟩) rfl rfl (Nat.le_of_ble_eq_true rfl) hcs dL_law_660 (fun z2 u2 hz2 hu2 => ?_)
  obtain ⟨ez2, eu2, _⟩ := hu2
  have q := q_weight hRel hO.1 hO.2 (sc xs (i + 1)) (sc xs (i + 2)) (sc xs (i + 3))
  refine f_icmp_eq C 1121 hz1 hz2 dL_law_663 (by decide) (fun _ => ?_) (fun hne => absurd (by rw [ez1, ez2]; exact q.1) hne)
  rw [eu1, eu2]
  exact kk _ _ q.2
set_option maxRecDepth 100000 in
set_option maxHeartbeats 16000000 in
theorem lawc_bill {l : Launch} {D : va_G} {cI cJ cZ cB : ClassId} {a b : Nat → Nat} {A : Nat → Prop} {E : State → Prop} {adK adV : Nat → Nat} {fv : Option Nat} {p : Program} {e : Env} {R : Room} {s : State} {m : MethodId} {args : Array Value} {below : List Frame} {meth : Method} {c : Code} {cells slots : Nat} {Q : State → Prop} {q0 L : Nat} {xs : Nat → Int32} (G : lG a b A E adK adV fv) (C : fC p m c cL_law 4 s args wsL_law RL D (fTys cI cJ cZ cB) E A) (hX : va_X q0 L xs s s.heap) (hbl : q0 < s.heap.size) (hbA : ¬ A q0) (hL : (L : Int) ≤ 2147483648) (hR : 13 ≤ R.frames ∧ 504 ≤ R.locals) (hcs : cells ≤ R.cells ∧ slots ≤ R.slots) {i : Int} (hi : 0 ≤ i ∧ i + 9 ≤ L) {x m0 : fS} (hRel : Rel x m0) (kk : ∀ x1 m1 : fS, Rel x1 m1 → fV (σ := fS × fS) D (wL cI cJ cZ cB a b) okL A 4 p l e R s m args below meth c cells slots Q (x1, m1) 1121 [(0, .ref q0), (1, .ref (a 0)), (2, .ref (b 0)), (3, .int (zI i))] []) : fV (σ := fS × fS) D (wL cI cJ cZ cB a b) okL A 4 p l e R s m args below meth c cells slots Q (x, m0) 668 [(0, .ref q0), (1, .ref (a 0)), (2, .ref (b 0)), (3, .int (zI i))] [] := by
  refine f_ok (fun hO => ?_)
  refine f_aload_n C 1 dL_law_668 rfl rfl ?_
  refine f_aload_n C 0 dL_law_669 rfl rfl ?_
  refine f_iload_n C 3 dL_law_670 rfl rfl ?_
  refine f_iconst C dL_law_671 ?_
  refine f_iadd C dL_law_672 ?_
  refine f_sld C hX hbl hbA ⟨by omega, by omega⟩ hL dL_law_673 ?_
  refine f_aload_n C 0 dL_law_674 rfl rfl ?_
  refine f_iload_n C 3 dL_law_675 rfl rfl ?_
  refine f_iconst C dL_law_676 ?_
  refine f_iadd C dL_law_677 ?_
  refine f_sld C hX hbl hbA ⟨by omega, by omega⟩ hL dL_law_678 ?_
  refine f_aload_n C 0 dL_law_679 rfl rfl ?_
  refine f_iload_n C 3 dL_law_680 rfl rfl ?_
  refine f_iconst C dL_law_681 ?_
  refine f_iadd C dL_law_682 ?_
  refine f_sld C hX hbl hbA ⟨by omega, by omega⟩ hL dL_law_683 ?_
  refine f_i2l C (sc_in xs _) dL_law_684 ?_
  refine f_bipush C dL_law_685 (by decide) ?_
  refine f_lshl C dL_law_687 ?_
  refine f_aload_n C 0 dL_law_688 rfl rfl ?_
  refine f_iload_n C 3 dL_law_689 rfl rfl ?_
  refine f_iconst C dL_law_690 ?_
  refine f_iadd C dL_law_691 ?_
  refine f_sld C hX hbl hbA ⟨by omega, by omega⟩ hL dL_law_692 ?_
  refine f_i2l C (sc_in xs _) dL_law_693 ?_
  refine f_ldc2 C (v := 4294967295) (z := 4294967295) (by decide +kernel) (by decide) dL_law_694 ?_
  refine f_land C dL_law_697 ?_
  refine f_lor C dL_law_698 ?_
  refine lx_cl G C (c_X8_bill ⟨G.1, xE_st _ _ _ _⟩ (sc xs (i + 1)) (sc xs (i + 2)) (lorJ (shlJ (sc xs (i + 3))) (landJ (sc xs (i + 4)) 4294967295)) (sc_in xs _) (sc_in xs _) (zJ_b _) x hRel.2.2.2.2.2.2.2.2.2.1) (cwV 3 C.1.2.2.2.2 gL_law_X8_bill rfl rfl rfl (by decide +kernel) ⟨by show 5 + 1 ≤ R.frames; omega, by show 8 + (5 + 11) + 140 ≤ R.locals; omega⟩) rfl rfl (Nat.le_of_ble_eq_true rfl) hcs dL_law_699 (fun z1 u1 hz1 hu1 => ?_)
  obtain ⟨ez1, eu1, _⟩ := hu1
  refine f_aload_n C 2 dL_law_702 rfl rfl ?_
  refine f_aload_n C 0 dL_law_703 rfl rfl ?_
  refine f_iload_n C 3 dL_law_704 rfl rfl ?_
  refine f_iconst C dL_law_705 ?_
  refine f_iadd C dL_law_706 ?_
  refine f_sld C hX hbl hbA ⟨by omega, by omega⟩ hL dL_law_707 ?_
  refine f_aload_n C 0 dL_law_708 rfl rfl ?_
  refine f_iload_n C 3 dL_law_709 rfl rfl ?_
  refine f_iconst C dL_law_710 ?_
  refine f_iadd C dL_law_711 ?_
  refine f_sld C hX hbl hbA ⟨by omega, by omega⟩ hL dL_law_712 ?_
  refine f_aload_n C 0 dL_law_713 rfl rfl ?_
  refine f_iload_n C 3 dL_law_714 rfl rfl ?_
  refine f_iconst C dL_law_715 ?_
  refine f_iadd C dL_law_716 ?_
  refine f_sld C hX hbl hbA ⟨by omega, by omega⟩ hL dL_law_717 ?_
  refine f_i2l C (sc_in xs _) dL_law_718 ?_
  refine f_bipush C dL_law_719 (by decide) ?_
  refine f_lshl C dL_law_721 ?_
  refine f_aload_n C 0 dL_law_722 rfl rfl ?_
  refine f_iload_n C 3 dL_law_723 rfl rfl ?_
  refine f_iconst C dL_law_724 ?_
  refine f_iadd C dL_law_725 ?_
  refine f_sld C hX hbl hbA ⟨by omega, by omega⟩ hL dL_law_726 ?_
  refine f_i2l C (sc_in xs _) dL_law_727 ?_
  refine f_ldc2 C (v := 4294967295) (z := 4294967295) (by decide +kernel) (by decide) dL_law_728 ?_
  refine f_land C dL_law_731 ?_
  refine f_lor C dL_law_732 ?_
  refine lm_cl G C (c_X9_bill ⟨G.2.1, fSt_T _⟩ (sc xs (i + 1)) (sc xs (i + 2)) (lorJ (shlJ (sc xs (i + 3))) (landJ (sc xs (i + 4)) 4294967295)) (sc_in xs _) (sc_in xs _) (zJ_b _) m0 hRel.2.2.2.2.2.2.2.2.2.2.1) (cwV 3 C.1.2.2.2.2 gL_law_X9_bill rfl rfl rfl (by decide +kernel) ⟨by show 2 + 1 ≤ R.frames; omega, by show 8 + (8 + 11) + 57 ≤ R.locals; omega⟩) rfl rfl (Nat.le_of_ble_eq_true rfl) hcs dL_law_733 (fun z2 u2 hz2 hu2 => ?_)
  obtain ⟨ez2, eu2, _⟩ := hu2
  have q := q_bill hRel hO.1 hO.2 (sc xs (i + 1)) (sc xs (i + 2)) (lorJ (shlJ (sc xs (i + 3))) (landJ (sc xs (i + 4)) 4294967295))
  refine f_lc_if_eq C 1121 hz1 hz2 dL_law_736 dL_law_737 (by decide) (fun _ => ?_) (fun hne => absurd (by rw [ez1, ez2]; exact q.1) hne)
  rw [eu1, eu2]
  exact kk _ _ q.2
set_option maxRecDepth 100000 in
set_option maxHeartbeats 16000000 in
theorem lawc_walk {l : Launch} {D : va_G} {cI cJ cZ cB : ClassId} {a b : Nat → Nat} {A : Nat → Prop} {E : State → Prop} {adK adV : Nat → Nat} {fv : Option Nat} {p : Program} {e : Env} {R : Room} {s : State} {m : MethodId} {args : Array Value} {below : List Frame} {meth : Method} {c : Code} {cells slots : Nat} {Q : State → Prop} {q0 L : Nat} {xs : Nat → Int32} (G : lG a b A E adK adV fv) (C : fC p m c cL_law 4 s args wsL_law RL D (fTys cI cJ cZ cB) E A) (hX : va_X q0 L xs s s.heap) (hbl : q0 < s.heap.size) (hbA : ¬ A q0) (hL : (L : Int) ≤ 2147483648) (hR : 13 ≤ R.frames ∧ 504 ≤ R.locals) (hcs : cells ≤ R.cells ∧ slots ≤ R.slots) {i : Int} (hi : 0 ≤ i ∧ i + 9 ≤ L) {x m0 : fS} (hRel : Rel x m0) (kk : ∀ x1 m1 : fS, Rel x1 m1 → fV (σ := fS × fS) D (wL cI cJ cZ cB a b) okL A 4 p l e R s m args below meth c cells slots Q (x1, m1) 1121 [(0, .ref q0), (1, .ref (a 0)), (2, .ref (b 0)), (3, .int (zI i))] []) : fV (σ := fS × fS) D (wL cI cJ cZ cB a b) okL A 4 p l e R s m args below meth c cells slots Q (x, m0) 742 [(0, .ref q0), (1, .ref (a 0)), (2, .ref (b 0)), (3, .int (zI i))] [] := by
  refine f_ok (fun hO => ?_)
  refine f_aload_n C 1 dL_law_742 rfl rfl ?_
  refine f_aload_n C 0 dL_law_743 rfl rfl ?_
  refine f_iload_n C 3 dL_law_744 rfl rfl ?_
  refine f_iconst C dL_law_745 ?_
  refine f_iadd C dL_law_746 ?_
  refine f_sld C hX hbl hbA ⟨by omega, by omega⟩ hL dL_law_747 ?_
  refine f_aload_n C 0 dL_law_748 rfl rfl ?_
  refine f_iload_n C 3 dL_law_749 rfl rfl ?_
  refine f_iconst C dL_law_750 ?_
  refine f_iadd C dL_law_751 ?_
  refine f_sld C hX hbl hbA ⟨by omega, by omega⟩ hL dL_law_752 ?_
  refine f_aload_n C 0 dL_law_753 rfl rfl ?_
  refine f_iload_n C 3 dL_law_754 rfl rfl ?_
  refine f_iconst C dL_law_755 ?_
  refine f_iadd C dL_law_756 ?_
  refine f_sld C hX hbl hbA ⟨by omega, by omega⟩ hL dL_law_757 ?_
  refine f_i2l C (sc_in xs _) dL_law_758 ?_
  refine f_bipush C dL_law_759 (by decide) ?_
  refine f_lshl C dL_law_761 ?_
  refine f_aload_n C 0 dL_law_762 rfl rfl ?_
  refine f_iload_n C 3 dL_law_763 rfl rfl ?_
  refine f_iconst C dL_law_764 ?_
  refine f_iadd C dL_law_765 ?_
  refine f_sld C hX hbl hbA ⟨by omega, by omega⟩ hL dL_law_766 ?_
  refine f_i2l C (sc_in xs _) dL_law_767 ?_
  refine f_ldc2 C (v := 4294967295) (z := 4294967295) (by decide +kernel) (by decide) dL_law_768 ?_
  refine f_land C dL_law_771 ?_
  refine f_lor C dL_law_772 ?_
  refine lx_ci G C (c_X8_walk ⟨G.1, xE_st _ _ _ _⟩ (sc xs (i + 1)) (sc xs (i + 2)) (lorJ (shlJ (sc xs (i + 3))) (landJ (sc xs (i + 4)) 4294967295)) (sc_in xs _) (sc_in xs _) (zJ_b _) x hRel.2.2.2.2.2.2.2.2.2.1) (cwV 3 C.1.2.2.2.2 gL_law_X8_walk rfl rfl rfl (by decide +kernel) ⟨by show 5 + 1 ≤ R.frames; omega, by show 8 + (6 + 11) + 137 ≤ R.locals; omega⟩) rfl rfl (Nat.le_of_ble_eq_true rfl) hcs dL_law_773 (fun z1 u1 hz1 hu1 => ?_)
  obtain ⟨ez1, eu1, _⟩ := hu1
  refine f_aload_n C 2 dL_law_776 rfl rfl ?_
  refine f_aload_n C 0 dL_law_777 rfl rfl ?_
  refine f_iload_n C 3 dL_law_778 rfl rfl ?_
  refine f_iconst C dL_law_779 ?_
  refine f_iadd C dL_law_780 ?_
  refine f_sld C hX hbl hbA ⟨by omega, by omega⟩ hL dL_law_781 ?_
  refine f_aload_n C 0 dL_law_782 rfl rfl ?_
  refine f_iload_n C 3 dL_law_783 rfl rfl ?_
  refine f_iconst C dL_law_784 ?_
  refine f_iadd C dL_law_785 ?_
  refine f_sld C hX hbl hbA ⟨by omega, by omega⟩ hL dL_law_786 ?_
  refine f_aload_n C 0 dL_law_787 rfl rfl ?_
  refine f_iload_n C 3 dL_law_788 rfl rfl ?_
  refine f_iconst C dL_law_789 ?_
  refine f_iadd C dL_law_790 ?_
  refine f_sld C hX hbl hbA ⟨by omega, by omega⟩ hL dL_law_791 ?_
  refine f_i2l C (sc_in xs _) dL_law_792 ?_
  refine f_bipush C dL_law_793 (by decide) ?_
  refine f_lshl C dL_law_795 ?_
  refine f_aload_n C 0 dL_law_796 rfl rfl ?_
  refine f_iload_n C 3 dL_law_797 rfl rfl ?_
  refine f_iconst C dL_law_798 ?_
  refine f_iadd C dL_law_799 ?_
  refine f_sld C hX hbl hbA ⟨by omega, by omega⟩ hL dL_law_800 ?_
  refine f_i2l C (sc_in xs _) dL_law_801 ?_
  refine f_ldc2 C (v := 4294967295) (z := 4294967295) (by decide +kernel) (by decide) dL_law_802 ?_
  refine f_land C dL_law_805 ?_
  refine f_lor C dL_law_806 ?_
  refine lm_ci G C (c_X9_walk ⟨G.2.1, fSt_T _⟩ (sc xs (i + 1)) (sc xs (i + 2)) (lorJ (shlJ (sc xs (i + 3))) (landJ (sc xs (i + 4)) 4294967295)) (sc_in xs _) (sc_in xs _) (zJ_b _) m0 hRel.2.2.2.2.2.2.2.2.2.2.1) (cwV 3 C.1.2.2.2.2 gL_law_X9_walk rfl rfl rfl (by decide +kernel) ⟨by show 2 + 1 ≤ R.frames; omega, by show 8 + (7 + 11) + 57 ≤ R.locals; omega⟩) rfl rfl (Nat.le_of_ble_eq_true rfl) hcs dL_law_807 (fun z2 u2 hz2 hu2 => ?_)
  obtain ⟨ez2, eu2⟩ := hu2
  have q := q_walk hRel hO.1 hO.2 (sc xs (i + 1)) (sc xs (i + 2)) (lorJ (shlJ (sc xs (i + 3))) (landJ (sc xs (i + 4)) 4294967295))
  refine f_icmp_eq C 1121 hz1 hz2 dL_law_810 (by decide) (fun _ => ?_) (fun hne => absurd (by rw [ez1, ez2]; exact q.1) hne)
  rw [eu1, eu2]
  exact kk _ _ q.2
set_option maxRecDepth 100000 in
set_option maxHeartbeats 16000000 in
theorem lawc_line {l : Launch} {D : va_G} {cI cJ cZ cB : ClassId} {a b : Nat → Nat} {A : Nat → Prop} {E : State → Prop} {adK adV : Nat → Nat} {fv : Option Nat} {p : Program} {e : Env} {R : Room} {s : State} {m : MethodId} {args : Array Value} {below : List Frame} {meth : Method} {c : Code} {cells slots : Nat} {Q : State → Prop} {q0 L : Nat} {xs : Nat → Int32} (G : lG a b A E adK adV fv) (C : fC p m c cL_law 4 s args wsL_law RL D (fTys cI cJ cZ cB) E A) (hX : va_X q0 L xs s s.heap) (hbl : q0 < s.heap.size) (hbA : ¬ A q0) (hL : (L : Int) ≤ 2147483648) (hR : 13 ≤ R.frames ∧ 504 ≤ R.locals) (hcs : cells ≤ R.cells ∧ slots ≤ R.slots) {i : Int} (hi : 0 ≤ i ∧ i + 9 ≤ L) {x m0 : fS} (hRel : Rel x m0) (kk : ∀ x1 m1 : fS, Rel x1 m1 → fV (σ := fS × fS) D (wL cI cJ cZ cB a b) okL A 4 p l e R s m args below meth c cells slots Q (x1, m1) 1121 [(0, .ref q0), (1, .ref (a 0)), (2, .ref (b 0)), (3, .int (zI i))] []) : fV (σ := fS × fS) D (wL cI cJ cZ cB a b) okL A 4 p l e R s m args below meth c cells slots Q (x, m0) 815 [(0, .ref q0), (1, .ref (a 0)), (2, .ref (b 0)), (3, .int (zI i))] [] := by
  refine f_ok (fun hO => ?_)
  refine f_aload_n C 1 dL_law_815 rfl rfl ?_
  refine f_aload_n C 0 dL_law_816 rfl rfl ?_
  refine f_iload_n C 3 dL_law_817 rfl rfl ?_
  refine f_iconst C dL_law_818 ?_
  refine f_iadd C dL_law_819 ?_
  refine f_sld C hX hbl hbA ⟨by omega, by omega⟩ hL dL_law_820 ?_
  refine f_aload_n C 0 dL_law_821 rfl rfl ?_
  refine f_iload_n C 3 dL_law_822 rfl rfl ?_
  refine f_iconst C dL_law_823 ?_
  refine f_iadd C dL_law_824 ?_
  refine f_sld C hX hbl hbA ⟨by omega, by omega⟩ hL dL_law_825 ?_
  refine lx_cl G C (c_X8_line ⟨G.1, xE_st _ _ _ _⟩ (sc xs (i + 1)) (sc xs (i + 2)) (sc_in xs _) (sc_in xs _) x ) (cwV 2 C.1.2.2.2.2 gL_law_X8_line rfl rfl rfl (by decide +kernel) ⟨by show 2 + 1 ≤ R.frames; omega, by show 8 + (3 + 11) + 42 ≤ R.locals; omega⟩) rfl rfl (Nat.le_of_ble_eq_true rfl) hcs dL_law_826 (fun z1 u1 hz1 hu1 => ?_)
  obtain ⟨ez1, eu1⟩ := hu1
  refine f_aload_n C 2 dL_law_829 rfl rfl ?_
  refine f_aload_n C 0 dL_law_830 rfl rfl ?_
  refine f_iload_n C 3 dL_law_831 rfl rfl ?_
  refine f_iconst C dL_law_832 ?_
  refine f_iadd C dL_law_833 ?_
  refine f_sld C hX hbl hbA ⟨by omega, by omega⟩ hL dL_law_834 ?_
  refine f_aload_n C 0 dL_law_835 rfl rfl ?_
  refine f_iload_n C 3 dL_law_836 rfl rfl ?_
  refine f_iconst C dL_law_837 ?_
  refine f_iadd C dL_law_838 ?_
  refine f_sld C hX hbl hbA ⟨by omega, by omega⟩ hL dL_law_839 ?_
  refine lm_cl G C (c_X9_line ⟨G.2.1, fSt_T _⟩ (sc xs (i + 1)) (sc xs (i + 2)) (sc_in xs _) (sc_in xs _) m0 ) (cwV 2 C.1.2.2.2.2 gL_law_X9_line rfl rfl rfl (by decide +kernel) ⟨by show 0 + 1 ≤ R.frames; omega, by show 8 + (3 + 11) + 0 ≤ R.locals; omega⟩) rfl rfl (Nat.le_of_ble_eq_true rfl) hcs dL_law_840 (fun z2 u2 hz2 hu2 => ?_)
  obtain ⟨ez2, eu2⟩ := hu2
  have q := q_line hRel hO.2 (sc xs (i + 1)) (sc xs (i + 2))
  refine f_lc_if_eq C 1121 hz1 hz2 dL_law_843 dL_law_844 (by decide) (fun _ => ?_) (fun hne => absurd (by rw [ez1, ez2]; exact q) hne)
  rw [eu1, eu2]
  exact kk _ _ hRel
set_option maxRecDepth 100000 in
set_option maxHeartbeats 16000000 in
theorem lawc_open {l : Launch} {D : va_G} {cI cJ cZ cB : ClassId} {a b : Nat → Nat} {A : Nat → Prop} {E : State → Prop} {adK adV : Nat → Nat} {fv : Option Nat} {p : Program} {e : Env} {R : Room} {s : State} {m : MethodId} {args : Array Value} {below : List Frame} {meth : Method} {c : Code} {cells slots : Nat} {Q : State → Prop} {q0 L : Nat} {xs : Nat → Int32} (G : lG a b A E adK adV fv) (C : fC p m c cL_law 4 s args wsL_law RL D (fTys cI cJ cZ cB) E A) (hX : va_X q0 L xs s s.heap) (hbl : q0 < s.heap.size) (hbA : ¬ A q0) (hL : (L : Int) ≤ 2147483648) (hR : 13 ≤ R.frames ∧ 504 ≤ R.locals) (hcs : cells ≤ R.cells ∧ slots ≤ R.slots) {i : Int} (hi : 0 ≤ i ∧ i + 9 ≤ L) {x m0 : fS} (hRel : Rel x m0) (kk : ∀ x1 m1 : fS, Rel x1 m1 → fV (σ := fS × fS) D (wL cI cJ cZ cB a b) okL A 4 p l e R s m args below meth c cells slots Q (x1, m1) 1121 [(0, .ref q0), (1, .ref (a 0)), (2, .ref (b 0)), (3, .int (zI i))] []) : fV (σ := fS × fS) D (wL cI cJ cZ cB a b) okL A 4 p l e R s m args below meth c cells slots Q (x, m0) 849 [(0, .ref q0), (1, .ref (a 0)), (2, .ref (b 0)), (3, .int (zI i))] [] := by
  refine f_ok (fun hO => ?_)
  refine f_aload_n C 1 dL_law_849 rfl rfl ?_
  refine f_aload_n C 0 dL_law_850 rfl rfl ?_
  refine f_iload_n C 3 dL_law_851 rfl rfl ?_
  refine f_iconst C dL_law_852 ?_
  refine f_iadd C dL_law_853 ?_
  refine f_sld C hX hbl hbA ⟨by omega, by omega⟩ hL dL_law_854 ?_
  refine lx_ci G C (c_X8_open ⟨G.1, xE_st _ _ _ _⟩ (sc xs (i + 1)) (sc_in xs _) x ) (cwV 1 C.1.2.2.2.2 gL_law_X8_open rfl rfl rfl (by decide +kernel) ⟨by show 2 + 1 ≤ R.frames; omega, by show 8 + (2 + 11) + 44 ≤ R.locals; omega⟩) rfl rfl (Nat.le_of_ble_eq_true rfl) hcs dL_law_855 (fun z1 u1 hz1 hu1 => ?_)
  obtain ⟨ez1, eu1⟩ := hu1
  refine f_aload_n C 2 dL_law_858 rfl rfl ?_
  refine f_aload_n C 0 dL_law_859 rfl rfl ?_
  refine f_iload_n C 3 dL_law_860 rfl rfl ?_
  refine f_iconst C dL_law_861 ?_
  refine f_iadd C dL_law_862 ?_
  refine f_sld C hX hbl hbA ⟨by omega, by omega⟩ hL dL_law_863 ?_
  refine lm_ci G C (c_X9_open ⟨G.2.1, fSt_T _⟩ (sc xs (i + 1)) (sc_in xs _) m0 ) (cwV 1 C.1.2.2.2.2 gL_law_X9_open rfl rfl rfl (by decide +kernel) ⟨by show 0 + 1 ≤ R.frames; omega, by show 8 + (4 + 11) + 0 ≤ R.locals; omega⟩) rfl rfl (Nat.le_of_ble_eq_true rfl) hcs dL_law_864 (fun z2 u2 hz2 hu2 => ?_)
  obtain ⟨ez2, eu2⟩ := hu2
  have q := q_open hRel hO.2 (sc xs (i + 1))
  refine f_icmp_eq C 1121 hz1 hz2 dL_law_867 (by decide) (fun _ => ?_) (fun hne => absurd (by rw [ez1, ez2]; exact q) hne)
  rw [eu1, eu2]
  exact kk _ _ hRel
