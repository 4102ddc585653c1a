/-! ===== PART 92: the law from its entry ===== -/
def eL (adK adV : Nat → Nat) (fv : Option Nat) (A : Nat → Prop) : State → Prop := fun U => xE adK adV fv A U ∧ xN U
theorem eL_st (adK adV : Nat → Nat) (fv : Option Nat) (A : Nat → Prop) : fSt A (eL adK adV fv A) := ⟨fun s U hW hz hq h => ⟨(xE_st adK adV fv A).1 s U hW hz hq h.1, (xN_st A).1 s U hW hz hq h.2⟩, fun U g mk a h => ⟨(xE_st adK adV fv A).2 U g mk a h.1, (xN_st A).2 U g mk a h.2⟩⟩
theorem f_astore_n {σ : Type} {D : va_G} {Wd : σ → va_W} {Ok : σ → Prop} {A : Nat → Prop} {nL : Nat} {p : Program} {l : Launch} {e : Env} {R : Room} {s : State} {m : MethodId} {args : Array Value} {below : List Frame} {meth : Method} {c : Code} {cells slots : Nat} {Q : State → Prop} {cc : ByteArray} {Ts : List Cond} {own : String} {tys : List (ClassId × FieldType)} {E : State → Prop} {st : σ} {pc : Nat} {lv : List (Nat × Value)} {rest : List Value} (C : fC p m c cc nL s args Ts own D tys E A) {j : Fin 4} (i : Nat) {x : Nat} {lv' : List (Nat × Value)} (hdg : decode cc pc = .ok (.astore_n j, 1)) (hi : (j : Nat) = i) (hn : i < nL) (hl' : (i, Value.ref x) :: lv.filter (fun q => !(q.1 == i) && !(q.1 + 1 == i && q.2.category == 2)) = lv') (k : fV D Wd Ok A nL p l e R s m args below meth c cells slots Q st (pc + 1) lv' rest) : fV D Wd Ok A nL p l e R s m args below meth c cells slots Q st pc lv (.ref x :: rest) := fun H locs ls hP hO hS hl => lv_astore_n C.1.1 C.1.2.1 hdg hi hl hn hl' (fun ls2 hl2 => k H locs ls2 hP hO hS hl2)
set_option maxRecDepth 100000 in
set_option maxHeartbeats 16000000 in
theorem law_begin {l : Launch} {D : va_G} {cI cJ cZ cB : ClassId} {A : Nat → Prop} {adK adV : Nat → Nat} {fv : Option Nat} {p : Program} {e : Env} {R : Room} {s : State} {m : MethodId} {args : Array Value} {below : List Frame} {meth : Method} {c : Code} {Q : State → Prop} {q0 L : Nat} {xs : Nat → Int32} (C : fC p m c cL_law 4 s args wsL_law RL D (fTys cI cJ cZ cB) (eL adK adV fv A) A) (hA : ∀ q, s.heap.size ≤ q → A q) (hX : va_X q0 L xs s s.heap) (hbl : q0 < s.heap.size) (hbA : ¬ A q0) (hL : (L : Int) ≤ 4608) (hR : 13 ≤ R.frames ∧ 504 ≤ R.locals) (hcs : 101 ≤ R.cells ∧ 14833 ≤ R.slots) (kend : ∀ (a b : Nat → Nat) (i : Int) (x m0 : fS), fV (σ := fS × fS) D (wL cI cJ cZ cB a b) okL A 4 p l e R s m args below meth c 101 14833 Q (x, m0) 1127 [(0, .ref q0), (1, .ref (a 0)), (2, .ref (b 0)), (3, .int (zI i))] []) : kV D A 4 p l e R s m args below meth c 0 0 Q [] 0 [(0, .ref q0)] [] := by
  refine k_new C hA (fs := [.null, .null, .null, .null, .null, .null, .null, .null]) (ci := 8) inlX8 tyX8 tyX8_ok (by decide +kernel) (by decide +kernel) (by decide +kernel) rfl (fun j hj => by rcases (show j = 0 ∨ j = 1 ∨ j = 2 ∨ j = 3 ∨ j = 4 ∨ j = 5 ∨ j = 6 ∨ j = 7 by omega) with rfl | rfl | rfl | rfl | rfl | rfl | rfl | rfl <;> rfl) (by omega) (by omega) dL_law_0 (fun r0 => ?_)
  refine f_dup C dL_law_3 rfl ?_
  refine k_callIE C hA (wr := []) (k_X8_init r0) (fun U h => h.2) (xN_st A) (cwI 0 C.1.2.2.2.2 gL_law_X8_init rfl rfl rfl (C.1.2.2.2.2 _ (by decide +kernel)) (C.1.2.2.2.2 (.methodLink RL 9 yX8_init) (by decide +kernel)) (C.1.2.2.2.2 (.instanceMethod yX8_init) (by decide +kernel)) rfl (by decide +kernel) ⟨by show 3 + 1 ≤ R.frames; omega, by show 8 + (2 + 11) + 53 ≤ R.locals; omega⟩) [0] [] rfl rfl rfl rfl rfl (by decide) rfl rfl (Nat.le_of_ble_eq_true rfl) ⟨by omega, by omega⟩ dL_law_4 (fun u hu => ?_)
  obtain ⟨r1, r2, r3, r4, r5, r6, r7, r8, r9, r10, r11, r12, r13, r14, r15, r16, r17, r18, r19, r20, r21, r22, r23, r24, r25, r26, r27, r28, r29, r30, r31, r32, r33, r34, r35, r36, r37, r38, r39, r40, r41, r42, r43, r44, r45, r46, r47, r48, r49, r50, r51, r52, r53, q54, r55, r56, r57, r58, r59, r60, r61, r62, r63, r64, r65, rfl⟩ := hu
  refine f_astore_n C 1 (lv' := [(1, .ref r0), (0, .ref q0)]) dL_law_7 rfl (Nat.le_of_ble_eq_true rfl) rfl ?_
  refine k_new C hA (fs := [.int (zI 0), .null, .null, .int (zI 0), .null, .null, .null, .null, .null, .int (zI 0), .null, .int (zI 0), .null, .null, .int (zI 0), .null, .null, .null, .null, .null, .null, .null, .null, .null, .null, .int (zI 0), .null, .null, .null, .null, .null, .int (zI 0), .null, .null, .null, .null, .int (zI 0), .null, .null, .null, .null, .int (zI 0), .null]) (ci := 9) inlX9 tyX9 tyX9_ok (by decide +kernel) (by decide +kernel) (by decide +kernel) rfl (fun j hj => by
    match j, hj with
    | 0, _ => rfl
    | 1, _ => rfl
    | 2, _ => rfl
    | 3, _ => rfl
    | 4, _ => rfl
    | 5, _ => rfl
    | 6, _ => rfl
    | 7, _ => rfl
    | 8, _ => rfl
    | 9, _ => rfl
    | 10, _ => rfl
    | 11, _ => rfl
    | 12, _ => rfl
    | 13, _ => rfl
    | 14, _ => rfl
    | 15, _ => rfl
    | 16, _ => rfl
    | 17, _ => rfl
    | 18, _ => rfl
    | 19, _ => rfl
    | 20, _ => rfl
    | 21, _ => rfl
    | 22, _ => rfl
    | 23, _ => rfl
    | 24, _ => rfl
    | 25, _ => rfl
    | 26, _ => rfl
    | 27, _ => rfl
    | 28, _ => rfl
    | 29, _ => rfl
    | 30, _ => rfl
    | 31, _ => rfl
    | 32, _ => rfl
    | 33, _ => rfl
    | 34, _ => rfl
    | 35, _ => rfl
    | 36, _ => rfl
    | 37, _ => rfl
    | 38, _ => rfl
    | 39, _ => rfl
    | 40, _ => rfl
    | 41, _ => rfl
    | 42, _ => rfl
    | j + 43, hj => omega) (by omega) (by omega) dL_law_8 (fun r90 => ?_)
  refine f_dup C dL_law_11 rfl ?_
  refine k_callI C hA (wr := [(r0, .inr (8, [.ref r1, .ref r8, .ref r19, .ref r22, .ref r43, .ref r44, .ref r53, .ref r55])), (r1, .inr (3, [.ref r2, .ref r4, .ref r6, .int (zI 0)])), (r2, .inr (5, [.ref r3])), (r3, .inl (cJ, 4, .inr (.inl (fun _ : Nat => zJ 0)))), (r4, .inr (5, [.ref r5])), (r5, .inl (cJ, 24, .inr (.inl (fun _ : Nat => zJ 0)))), (r6, .inr (5, [.ref r7])), (r7, .inl (cJ, 480, .inr (.inl (fun _ : Nat => zJ 0)))), (r8, .inr (1, [.ref r9, .ref r11, .ref r13, .ref r15, .ref r17, .int (zI 0)])), (r9, .inr (5, [.ref r10])), (r10, .inl (cJ, 24, .inr (.inl (fun _ : Nat => zJ 0)))), (r11, .inr (5, [.ref r12])), (r12, .inl (cJ, 24, .inr (.inl (fun _ : Nat => zJ 0)))), (r13, .inr (5, [.ref r14])), (r14, .inl (cJ, 24, .inr (.inl (fun _ : Nat => zJ 0)))), (r15, .inr (5, [.ref r16])), (r16, .inl (cJ, 24, .inr (.inl (fun _ : Nat => zJ 0)))), (r17, .inr (5, [.ref r18])), (r18, .inl (cJ, 24, .inr (.inl (fun _ : Nat => zJ 0)))), (r19, .inr (7, [.ref r20, .int (zI 0), .int (zI 0), .int (zI 0), .int (zI 0)])), (r20, .inr (5, [.ref r21])), (r21, .inl (cJ, 600, .inr (.inl (fun _ : Nat => zJ 0)))), (r22, .inr (0, [.ref r23, .ref r25, .ref r27, .ref r29, .ref r31, .ref r33, .ref r35, .ref r37, .ref r39, .ref r41, .int (zI 0), .int (zI 0)])), (r23, .inr (5, [.ref r24])), (r24, .inl (cJ, 6, .inr (.inl (fun _ : Nat => zJ 0)))), (r25, .inr (5, [.ref r26])), (r26, .inl (cJ, 6, .inr (.inl (fun _ : Nat => zJ 0)))), (r27, .inr (5, [.ref r28])), (r28, .inl (cJ, 6, .inr (.inl (fun _ : Nat => zJ 0)))), (r29, .inr (5, [.ref r30])), (r30, .inl (cJ, 36, .inr (.inl (fun _ : Nat => zJ 0)))), (r31, .inr (5, [.ref r32])), (r32, .inl (cJ, 36, .inr (.inl (fun _ : Nat => zJ 0)))), (r33, .inr (5, [.ref r34])), (r34, .inl (cJ, 36, .inr (.inl (fun _ : Nat => zJ 0)))), (r35, .inr (5, [.ref r36])), (r36, .inl (cJ, 36, .inr (.inl (fun _ : Nat => zJ 0)))), (r37, .inr (5, [.ref r38])), (r38, .inl (cJ, 36, .inr (.inl (fun _ : Nat => zJ 0)))), (r39, .inr (5, [.ref r40])), (r40, .inl (cJ, 396, .inr (.inl (fun _ : Nat => zJ 0)))), (r41, .inr (5, [.ref r42])), (r42, .inl (cJ, 396, .inr (.inl (fun _ : Nat => zJ 0)))), (r43, .inr (6, [.ref r19, .ref r22])), (r44, .inr (4, [.ref r45, .ref r47, .ref r49, .ref r51, .int (zI 0)])), (r45, .inr (5, [.ref r46])), (r46, .inl (cJ, 8, .inr (.inl (fun _ : Nat => zJ 0)))), (r47, .inr (5, [.ref r48])), (r48, .inl (cJ, 8, .inr (.inl (fun _ : Nat => zJ 0)))), (r49, .inr (5, [.ref r50])), (r50, .inl (cJ, 8, .inr (.inl (fun _ : Nat => zJ 0)))), (r51, .inr (5, [.ref r52])), (r52, .inl (cJ, 8, .inr (.inl (fun _ : Nat => zJ 0)))), (r53, .inr (5, [.ref q54])), (q54, .inl (cJ, 120, .inr (.inl (fun j : Nat => zJ (capsF 120 j))))), (r55, .inr (2, [.ref r56, .ref r58, .ref r60, .ref r62, .ref r64, .int (zI 0), .int (zI 0)])), (r56, .inr (5, [.ref r57])), (r57, .inl (cJ, 24, .inr (.inl (fun _ : Nat => zJ 0)))), (r58, .inr (5, [.ref r59])), (r59, .inl (cJ, 24, .inr (.inl (fun _ : Nat => zJ 0)))), (r60, .inr (5, [.ref r61])), (r61, .inl (cJ, 24, .inr (.inl (fun _ : Nat => zJ 0)))), (r62, .inr (5, [.ref r63])), (r63, .inl (cJ, 24, .inr (.inl (fun _ : Nat => zJ 0)))), (r64, .inr (5, [.ref r65])), (r65, .inl (cJ, 552, .inr (.inl (fun _ : Nat => zJ 0))))]) (k_X9_init2 r90) (cwI 0 C.1.2.2.2.2 gL_law_X9_init rfl rfl rfl (C.1.2.2.2.2 _ (by decide +kernel)) (C.1.2.2.2.2 (.methodLink RL 12 yX9_init) (by decide +kernel)) (C.1.2.2.2.2 (.instanceMethod yX9_init) (by decide +kernel)) rfl (by decide +kernel) ⟨by show 1 + 1 ≤ R.frames; omega, by show 8 + (2 + 11) + 12 ≤ R.locals; omega⟩) [66] [0, 1, 2, 3, 4, 5, 6, 7, 8, 9, 10, 11, 12, 13, 14, 15, 16, 17, 18, 19, 20, 21, 22, 23, 24, 25, 26, 27, 28, 29, 30, 31, 32, 33, 34, 35, 36, 37, 38, 39, 40, 41, 42, 43, 44, 45, 46, 47, 48, 49, 50, 51, 52, 53, 54, 55, 56, 57, 58, 59, 60, 61, 62, 63, 64, 65] rfl rfl rfl rfl rfl (by decide) rfl rfl (Nat.le_of_ble_eq_true rfl) ⟨by omega, by omega⟩ dL_law_12 (fun u hu => ?_)
  obtain ⟨b, hb0, rfl⟩ := hu
  refine f_astore_n C 2 (lv' := [(2, .ref r90), (1, .ref r0), (0, .ref q0)]) dL_law_15 rfl (Nat.le_of_ble_eq_true rfl) rfl ?_
  refine f_iconst C dL_law_16 ?_
  refine f_istore_n C 3 (lv' := [(3, .int (zI 0)), (2, .ref r90), (1, .ref r0), (0, .ref q0)]) dL_law_17 rfl (Nat.le_of_ble_eq_true rfl) rfl ?_
  refine f_re (lv' := [(0, .ref q0), (1, .ref r0), (2, .ref r90), (3, .int (zI 0))]) [3, 2, 1, 0] rfl ?_
  intro H locs ls hP hO hS hl
  have hP2 : va_P D vwCl (wL cI cJ cZ cB (fun i : Nat => [r0, r1, r8, r19, r22, r43, r44, r55, r2, r4, r6, r9, r11, r13, r15, r17, r20, r23, r25, r27, r29, r31, r33, r35, r37, r39, r41, r45, r47, r49, r51, r53, r56, r58, r60, r62, r64, r3, r5, r7, r10, r12, r14, r16, r18, r21, r24, r26, r28, r30, r32, r34, r36, r38, r40, r42, r46, r48, r50, r52, q54, r57, r59, r61, r63, r65].getD i 0) b (xIni, mIni 24 120)) H := va_P.sub hP [0, 1, 8, 19, 22, 43, 44, 55, 2, 4, 6, 9, 11, 13, 15, 17, 20, 23, 25, 27, 29, 31, 33, 35, 37, 39, 41, 45, 47, 49, 51, 53, 56, 58, 60, 62, 64, 3, 5, 7, 10, 12, 14, 16, 18, 21, 24, 26, 28, 30, 32, 34, 36, 38, 40, 42, 46, 48, 50, 52, 54, 57, 59, 61, 63, 65, 66, 67, 68, 69, 70, 71, 72, 73, 74, 75, 76, 77, 78, 79, 80, 81, 82, 83, 84, 85, 86, 87, 88, 89, 90, 91, 92, 93, 94, 95, 96, 97, 98, 99, 100] rfl
  have hO2 : va_D A (wL cI cJ cZ cB (fun i : Nat => [r0, r1, r8, r19, r22, r43, r44, r55, r2, r4, r6, r9, r11, r13, r15, r17, r20, r23, r25, r27, r29, r31, r33, r35, r37, r39, r41, r45, r47, r49, r51, r53, r56, r58, r60, r62, r64, r3, r5, r7, r10, r12, r14, r16, r18, r21, r24, r26, r28, r30, r32, r34, r36, r38, r40, r42, r46, r48, r50, r52, q54, r57, r59, r61, r63, r65].getD i 0) b (xIni, mIni 24 120)) := va_D.sub hO [0, 1, 8, 19, 22, 43, 44, 55, 2, 4, 6, 9, 11, 13, 15, 17, 20, 23, 25, 27, 29, 31, 33, 35, 37, 39, 41, 45, 47, 49, 51, 53, 56, 58, 60, 62, 64, 3, 5, 7, 10, 12, 14, 16, 18, 21, 24, 26, 28, 30, 32, 34, 36, 38, 40, 42, 46, 48, 50, 52, 54, 57, 59, 61, 63, 65, 66, 67, 68, 69, 70, 71, 72, 73, 74, 75, 76, 77, 78, 79, 80, 81, 82, 83, 84, 85, 86, 87, 88, 89, 90, 91, 92, 93, 94, 95, 96, 97, 98, 99, 100] rfl rfl
  have G : lG (fun i : Nat => [r0, r1, r8, r19, r22, r43, r44, r55, r2, r4, r6, r9, r11, r13, r15, r17, r20, r23, r25, r27, r29, r31, r33, r35, r37, r39, r41, r45, r47, r49, r51, r53, r56, r58, r60, r62, r64, r3, r5, r7, r10, r12, r14, r16, r18, r21, r24, r26, r28, r30, r32, r34, r36, r38, r40, r42, r46, r48, r50, r52, q54, r57, r59, r61, r63, r65].getD i 0) b A (eL adK adV fv A) adK adV fv := lG_of hO2 (fun U h => h.1) (fun U h hAB => xE_narrow h hAB)
  subst hb0
  exact k_widen (k := 101) (n := 14833) (by omega) (by omega) (law_loop G C hX hbl hbA (by omega) hR hcs hL (kend _ _) (L + 1) 0 xIni (mIni 24 120) (by omega) (by omega) (by omega) rel_ini) H locs ls hP2 ⟨xOk_ini, mOk_ini⟩ hS hl
