/-! ===== PART 86.2: the law's cases (laid by program) ===== -/
set_option maxRecDepth 100000 in
set_option maxHeartbeats 16000000 in
theorem lawc_write {l : Launch} {D : va_G} {cI cJ cZ cB : ClassId} {a b : Nat → Nat} {A : Nat → Prop} {E : State → Prop} {adK adV : Nat → Nat} {fv : Option Nat} {p : Program} {e : Env} {R : Room} {s : State} {m : MethodId} {args : Array Value} {below : List Frame} {meth : Method} {c : Code} {cells slots : Nat} {Q : State → Prop} {q0 L : Nat} {xs : Nat → Int32} (G : lG a b A E adK adV fv) (C : fC p m c cL_law 4 s args wsL_law RL D (fTys cI cJ cZ cB) E A) (hX : va_X q0 L xs s s.heap) (hbl : q0 < s.heap.size) (hbA : ¬ A q0) (hL : (L : Int) ≤ 2147483648) (hR : 13 ≤ R.frames ∧ 504 ≤ R.locals) (hcs : cells ≤ R.cells ∧ slots ≤ R.slots) {i : Int} (hi : 0 ≤ i ∧ i + 9 ≤ L) {x m0 : fS} (hRel : Rel x m0) (kk : ∀ x1 m1 : fS, Rel x1 m1 → fV (σ := fS × fS) D (wL cI cJ cZ cB a b) okL A 4 p l e R s m args below meth c cells slots Q (x1, m1) 1121 [(0, .ref q0), (1, .ref (a 0)), (2, .ref (b 0)), (3, .int (zI i))] []) : fV (σ := fS × fS) D (wL cI cJ cZ cB a b) okL A 4 p l e R s m args below meth c cells slots Q (x, m0) 872 [(0, .ref q0), (1, .ref (a 0)), (2, .ref (b 0)), (3, .int (zI i))] [] := by
  refine f_ok (fun hO => ?_)
  refine f_aload_n C 1 dL_law_872 rfl rfl ?_
  refine f_aload_n C 0 dL_law_873 rfl rfl ?_
  refine f_iload_n C 3 dL_law_874 rfl rfl ?_
  refine f_iconst C dL_law_875 ?_
  refine f_iadd C dL_law_876 ?_
  refine f_sld C hX hbl hbA ⟨by omega, by omega⟩ hL dL_law_877 ?_
  refine lx_ci G C (c_X8_write ⟨G.1, xE_st _ _ _ _⟩ (sc xs (i + 1)) (sc_in xs _) x ) (cwV 1 C.1.2.2.2.2 gL_law_X8_write rfl rfl rfl (by decide +kernel) ⟨by show 2 + 1 ≤ R.frames; omega, by show 8 + (2 + 11) + 42 ≤ R.locals; omega⟩) rfl rfl (Nat.le_of_ble_eq_true rfl) hcs dL_law_878 (fun z1 u1 hz1 hu1 => ?_)
  obtain ⟨ez1, eu1⟩ := hu1
  refine f_aload_n C 2 dL_law_881 rfl rfl ?_
  refine f_aload_n C 0 dL_law_882 rfl rfl ?_
  refine f_iload_n C 3 dL_law_883 rfl rfl ?_
  refine f_iconst C dL_law_884 ?_
  refine f_iadd C dL_law_885 ?_
  refine f_sld C hX hbl hbA ⟨by omega, by omega⟩ hL dL_law_886 ?_
  refine lm_ci G C (c_X9_write ⟨G.2.1, fSt_T _⟩ (sc xs (i + 1)) (sc_in xs _) m0 ) (cwV 1 C.1.2.2.2.2 gL_law_X9_write rfl rfl rfl (by decide +kernel) ⟨by show 0 + 1 ≤ R.frames; omega, by show 8 + (2 + 11) + 0 ≤ R.locals; omega⟩) rfl rfl (Nat.le_of_ble_eq_true rfl) hcs dL_law_887 (fun z2 u2 hz2 hu2 => ?_)
  obtain ⟨ez2, eu2⟩ := hu2
  have q := q_write hRel (sc xs (i + 1))
  refine f_icmp_eq C 1121 hz1 hz2 dL_law_890 (by decide) (fun _ => ?_) (fun hne => absurd (by rw [ez1, ez2]; exact q) hne)
  rw [eu1, eu2]
  exact kk _ _ hRel
set_option maxRecDepth 100000 in
set_option maxHeartbeats 16000000 in
theorem lawc_flat {l : Launch} {D : va_G} {cI cJ cZ cB : ClassId} {a b : Nat → Nat} {A : Nat → Prop} {E : State → Prop} {adK adV : Nat → Nat} {fv : Option Nat} {p : Program} {e : Env} {R : Room} {s : State} {m : MethodId} {args : Array Value} {below : List Frame} {meth : Method} {c : Code} {cells slots : Nat} {Q : State → Prop} {q0 L : Nat} {xs : Nat → Int32} (G : lG a b A E adK adV fv) (C : fC p m c cL_law 4 s args wsL_law RL D (fTys cI cJ cZ cB) E A) (hX : va_X q0 L xs s s.heap) (hbl : q0 < s.heap.size) (hbA : ¬ A q0) (hL : (L : Int) ≤ 2147483648) (hR : 13 ≤ R.frames ∧ 504 ≤ R.locals) (hcs : cells ≤ R.cells ∧ slots ≤ R.slots) {i : Int} (hi : 0 ≤ i ∧ i + 9 ≤ L) {x m0 : fS} (hRel : Rel x m0) (kk : ∀ x1 m1 : fS, Rel x1 m1 → fV (σ := fS × fS) D (wL cI cJ cZ cB a b) okL A 4 p l e R s m args below meth c cells slots Q (x1, m1) 1121 [(0, .ref q0), (1, .ref (a 0)), (2, .ref (b 0)), (3, .int (zI i))] []) : fV (σ := fS × fS) D (wL cI cJ cZ cB a b) okL A 4 p l e R s m args below meth c cells slots Q (x, m0) 895 [(0, .ref q0), (1, .ref (a 0)), (2, .ref (b 0)), (3, .int (zI i))] [] := by
  refine f_ok (fun hO => ?_)
  refine f_aload_n C 1 dL_law_895 rfl rfl ?_
  refine f_aload_n C 0 dL_law_896 rfl rfl ?_
  refine f_iload_n C 3 dL_law_897 rfl rfl ?_
  refine f_iconst C dL_law_898 ?_
  refine f_iadd C dL_law_899 ?_
  refine f_sld C hX hbl hbA ⟨by omega, by omega⟩ hL dL_law_900 ?_
  refine f_aload_n C 0 dL_law_901 rfl rfl ?_
  refine f_iload_n C 3 dL_law_902 rfl rfl ?_
  refine f_iconst C dL_law_903 ?_
  refine f_iadd C dL_law_904 ?_
  refine f_sld C hX hbl hbA ⟨by omega, by omega⟩ hL dL_law_905 ?_
  refine f_aload_n C 0 dL_law_906 rfl rfl ?_
  refine f_iload_n C 3 dL_law_907 rfl rfl ?_
  refine f_iconst C dL_law_908 ?_
  refine f_iadd C dL_law_909 ?_
  refine f_sld C hX hbl hbA ⟨by omega, by omega⟩ hL dL_law_910 ?_
  refine f_i2l C (sc_in xs _) dL_law_911 ?_
  refine f_bipush C dL_law_912 (by decide) ?_
  refine f_lshl C dL_law_914 ?_
  refine f_aload_n C 0 dL_law_915 rfl rfl ?_
  refine f_iload_n C 3 dL_law_916 rfl rfl ?_
  refine f_iconst C dL_law_917 ?_
  refine f_iadd C dL_law_918 ?_
  refine f_sld C hX hbl hbA ⟨by omega, by omega⟩ hL dL_law_919 ?_
  refine f_i2l C (sc_in xs _) dL_law_920 ?_
  refine f_ldc2 C (v := 4294967295) (z := 4294967295) (by decide +kernel) (by decide) dL_law_921 ?_
  refine f_land C dL_law_924 ?_
  refine f_lor C dL_law_925 ?_
  refine f_aload_n C 0 dL_law_926 rfl rfl ?_
  refine f_iload_n C 3 dL_law_927 rfl rfl ?_
  refine f_iconst C dL_law_928 ?_
  refine f_iadd C dL_law_929 ?_
  refine f_sld C hX hbl hbA ⟨by omega, by omega⟩ hL dL_law_930 ?_
  refine lx_cl G C (c_X8_flat ⟨G.1, xE_st _ _ _ _⟩ (sc xs (i + 1)) (sc xs (i + 2)) (lorJ (shlJ (sc xs (i + 3))) (landJ (sc xs (i + 4)) 4294967295)) (sc xs (i + 5)) (sc_in xs _) (sc_in xs _) (zJ_b _) (sc_in xs _) x hRel.2.2.2.2.2.2.2.2.2.1) (cwV 4 C.1.2.2.2.2 gL_law_X8_flat rfl rfl rfl (by decide +kernel) ⟨by show 5 + 1 ≤ R.frames; omega, by show 8 + (8 + 11) + 140 ≤ R.locals; omega⟩) rfl rfl (Nat.le_of_ble_eq_true rfl) hcs dL_law_931 (fun z1 u1 hz1 hu1 => ?_)
  obtain ⟨ez1, eu1⟩ := hu1
  refine f_aload_n C 2 dL_law_934 rfl rfl ?_
  refine f_aload_n C 0 dL_law_935 rfl rfl ?_
  refine f_iload_n C 3 dL_law_936 rfl rfl ?_
  refine f_iconst C dL_law_937 ?_
  refine f_iadd C dL_law_938 ?_
  refine f_sld C hX hbl hbA ⟨by omega, by omega⟩ hL dL_law_939 ?_
  refine f_aload_n C 0 dL_law_940 rfl rfl ?_
  refine f_iload_n C 3 dL_law_941 rfl rfl ?_
  refine f_iconst C dL_law_942 ?_
  refine f_iadd C dL_law_943 ?_
  refine f_sld C hX hbl hbA ⟨by omega, by omega⟩ hL dL_law_944 ?_
  refine f_aload_n C 0 dL_law_945 rfl rfl ?_
  refine f_iload_n C 3 dL_law_946 rfl rfl ?_
  refine f_iconst C dL_law_947 ?_
  refine f_iadd C dL_law_948 ?_
  refine f_sld C hX hbl hbA ⟨by omega, by omega⟩ hL dL_law_949 ?_
  refine f_i2l C (sc_in xs _) dL_law_950 ?_
  refine f_bipush C dL_law_951 (by decide) ?_
  refine f_lshl C dL_law_953 ?_
  refine f_aload_n C 0 dL_law_954 rfl rfl ?_
  refine f_iload_n C 3 dL_law_955 rfl rfl ?_
  refine f_iconst C dL_law_956 ?_
  refine f_iadd C dL_law_957 ?_
  refine f_sld C hX hbl hbA ⟨by omega, by omega⟩ hL dL_law_958 ?_
  refine f_i2l C (sc_in xs _) dL_law_959 ?_
  refine f_ldc2 C (v := 4294967295) (z := 4294967295) (by decide +kernel) (by decide) dL_law_960 ?_
  refine f_land C dL_law_963 ?_
  refine f_lor C dL_law_964 ?_
  refine f_aload_n C 0 dL_law_965 rfl rfl ?_
  refine f_iload_n C 3 dL_law_966 rfl rfl ?_
  refine f_iconst C dL_law_967 ?_
  refine f_iadd C dL_law_968 ?_
  refine f_sld C hX hbl hbA ⟨by omega, by omega⟩ hL dL_law_969 ?_
  refine lm_cl G C (c_X9_flat ⟨G.2.1, fSt_T _⟩ (sc xs (i + 1)) (sc xs (i + 2)) (lorJ (shlJ (sc xs (i + 3))) (landJ (sc xs (i + 4)) 4294967295)) (sc xs (i + 5)) (sc_in xs _) (sc_in xs _) (zJ_b _) (sc_in xs _) m0 hRel.2.2.2.2.2.2.2.2.2.2.1) (cwV 4 C.1.2.2.2.2 gL_law_X9_flat rfl rfl rfl (by decide +kernel) ⟨by show 3 + 1 ≤ R.frames; omega, by show 8 + (16 + 11) + 84 ≤ R.locals; omega⟩) rfl rfl (Nat.le_of_ble_eq_true rfl) hcs dL_law_970 (fun z2 u2 hz2 hu2 => ?_)
  obtain ⟨ez2, eu2⟩ := hu2
  have q := q_flat hRel hO.1 hO.2 (sc xs (i + 1)) (sc xs (i + 2)) (lorJ (shlJ (sc xs (i + 3))) (landJ (sc xs (i + 4)) 4294967295)) (sc xs (i + 5))
  refine f_lc_if_eq C 1121 hz1 hz2 dL_law_973 dL_law_974 (by decide) (fun _ => ?_) (fun hne => absurd (by rw [ez1, ez2]; exact q.1) hne)
  rw [eu1, eu2]
  exact kk _ _ q.2
set_option maxRecDepth 100000 in
set_option maxHeartbeats 16000000 in
theorem lawc_issue {l : Launch} {D : va_G} {cI cJ cZ cB : ClassId} {a b : Nat → Nat} {A : Nat → Prop} {E : State → Prop} {adK adV : Nat → Nat} {fv : Option Nat} {p : Program} {e : Env} {R : Room} {s : State} {m : MethodId} {args : Array Value} {below : List Frame} {meth : Method} {c : Code} {cells slots : Nat} {Q : State → Prop} {q0 L : Nat} {xs : Nat → Int32} (G : lG a b A E adK adV fv) (C : fC p m c cL_law 4 s args wsL_law RL D (fTys cI cJ cZ cB) E A) (hX : va_X q0 L xs s s.heap) (hbl : q0 < s.heap.size) (hbA : ¬ A q0) (hL : (L : Int) ≤ 2147483648) (hR : 13 ≤ R.frames ∧ 504 ≤ R.locals) (hcs : cells ≤ R.cells ∧ slots ≤ R.slots) {i : Int} (hi : 0 ≤ i ∧ i + 9 ≤ L) {x m0 : fS} (hRel : Rel x m0) (kk : ∀ x1 m1 : fS, Rel x1 m1 → fV (σ := fS × fS) D (wL cI cJ cZ cB a b) okL A 4 p l e R s m args below meth c cells slots Q (x1, m1) 1121 [(0, .ref q0), (1, .ref (a 0)), (2, .ref (b 0)), (3, .int (zI i))] []) : fV (σ := fS × fS) D (wL cI cJ cZ cB a b) okL A 4 p l e R s m args below meth c cells slots Q (x, m0) 979 [(0, .ref q0), (1, .ref (a 0)), (2, .ref (b 0)), (3, .int (zI i))] [] := by
  refine f_ok (fun hO => ?_)
  refine f_aload_n C 1 dL_law_979 rfl rfl ?_
  refine f_aload_n C 0 dL_law_980 rfl rfl ?_
  refine f_iload_n C 3 dL_law_981 rfl rfl ?_
  refine f_iconst C dL_law_982 ?_
  refine f_iadd C dL_law_983 ?_
  refine f_sld C hX hbl hbA ⟨by omega, by omega⟩ hL dL_law_984 ?_
  refine f_aload_n C 0 dL_law_985 rfl rfl ?_
  refine f_iload_n C 3 dL_law_986 rfl rfl ?_
  refine f_iconst C dL_law_987 ?_
  refine f_iadd C dL_law_988 ?_
  refine f_sld C hX hbl hbA ⟨by omega, by omega⟩ hL dL_law_989 ?_
  refine f_aload_n C 0 dL_law_990 rfl rfl ?_
  refine f_iload_n C 3 dL_law_991 rfl rfl ?_
  refine f_iconst C dL_law_992 ?_
  refine f_iadd C dL_law_993 ?_
  refine f_sld C hX hbl hbA ⟨by omega, by omega⟩ hL dL_law_994 ?_
  refine f_i2l C (sc_in xs _) dL_law_995 ?_
  refine f_bipush C dL_law_996 (by decide) ?_
  refine f_lshl C dL_law_998 ?_
  refine f_aload_n C 0 dL_law_999 rfl rfl ?_
  refine f_iload_n C 3 dL_law_1000 rfl rfl ?_
  refine f_iconst C dL_law_1001 ?_
  refine f_iadd C dL_law_1002 ?_
  refine f_sld C hX hbl hbA ⟨by omega, by omega⟩ hL dL_law_1003 ?_
  refine f_i2l C (sc_in xs _) dL_law_1004 ?_
  refine f_ldc2 C (v := 4294967295) (z := 4294967295) (by decide +kernel) (by decide) dL_law_1005 ?_
  refine f_land C dL_law_1008 ?_
  refine f_lor C dL_law_1009 ?_
  refine lx_cl G C (c_X8_issue ⟨G.1, xE_st _ _ _ _⟩ (sc xs (i + 1)) (sc xs (i + 2)) (lorJ (shlJ (sc xs (i + 3))) (landJ (sc xs (i + 4)) 4294967295)) (sc_in xs _) (sc_in xs _) (zJ_b _) x hRel.2.2.2.2.2.2.2.2.2.1) (cwV 3 C.1.2.2.2.2 gL_law_X8_issue rfl rfl rfl (by decide +kernel) ⟨by show 5 + 1 ≤ R.frames; omega, by show 8 + (9 + 11) + 140 ≤ R.locals; omega⟩) rfl rfl (Nat.le_of_ble_eq_true rfl) hcs dL_law_1010 (fun z1 u1 hz1 hu1 => ?_)
  obtain ⟨ez1, eu1⟩ := hu1
  refine f_aload_n C 2 dL_law_1013 rfl rfl ?_
  refine f_aload_n C 0 dL_law_1014 rfl rfl ?_
  refine f_iload_n C 3 dL_law_1015 rfl rfl ?_
  refine f_iconst C dL_law_1016 ?_
  refine f_iadd C dL_law_1017 ?_
  refine f_sld C hX hbl hbA ⟨by omega, by omega⟩ hL dL_law_1018 ?_
  refine f_aload_n C 0 dL_law_1019 rfl rfl ?_
  refine f_iload_n C 3 dL_law_1020 rfl rfl ?_
  refine f_iconst C dL_law_1021 ?_
  refine f_iadd C dL_law_1022 ?_
  refine f_sld C hX hbl hbA ⟨by omega, by omega⟩ hL dL_law_1023 ?_
  refine f_aload_n C 0 dL_law_1024 rfl rfl ?_
  refine f_iload_n C 3 dL_law_1025 rfl rfl ?_
  refine f_iconst C dL_law_1026 ?_
  refine f_iadd C dL_law_1027 ?_
  refine f_sld C hX hbl hbA ⟨by omega, by omega⟩ hL dL_law_1028 ?_
  refine f_i2l C (sc_in xs _) dL_law_1029 ?_
  refine f_bipush C dL_law_1030 (by decide) ?_
  refine f_lshl C dL_law_1032 ?_
  refine f_aload_n C 0 dL_law_1033 rfl rfl ?_
  refine f_iload_n C 3 dL_law_1034 rfl rfl ?_
  refine f_iconst C dL_law_1035 ?_
  refine f_iadd C dL_law_1036 ?_
  refine f_sld C hX hbl hbA ⟨by omega, by omega⟩ hL dL_law_1037 ?_
  refine f_i2l C (sc_in xs _) dL_law_1038 ?_
  refine f_ldc2 C (v := 4294967295) (z := 4294967295) (by decide +kernel) (by decide) dL_law_1039 ?_
  refine f_land C dL_law_1042 ?_
  refine f_lor C dL_law_1043 ?_
  refine lm_cl G C (c_X9_issue ⟨G.2.1, fSt_T _⟩ (sc xs (i + 1)) (sc xs (i + 2)) (lorJ (shlJ (sc xs (i + 3))) (landJ (sc xs (i + 4)) 4294967295)) (sc_in xs _) (sc_in xs _) (zJ_b _) m0 hRel.2.2.2.2.2.2.2.2.2.2.1) (cwV 3 C.1.2.2.2.2 gL_law_X9_issue rfl rfl rfl (by decide +kernel) ⟨by show 3 + 1 ≤ R.frames; omega, by show 8 + (9 + 11) + 84 ≤ R.locals; omega⟩) rfl rfl (Nat.le_of_ble_eq_true rfl) hcs dL_law_1044 (fun z2 u2 hz2 hu2 => ?_)
  obtain ⟨ez2, eu2⟩ := hu2
  have q := q_issue hRel hO.1 hO.2 (sc xs (i + 1)) (sc xs (i + 2)) (lorJ (shlJ (sc xs (i + 3))) (landJ (sc xs (i + 4)) 4294967295))
  refine f_lc_if_eq C 1121 hz1 hz2 dL_law_1047 dL_law_1048 (by decide) (fun _ => ?_) (fun hne => absurd (by rw [ez1, ez2]; exact q.1) hne)
  rw [eu1, eu2]
  exact kk _ _ q.2
set_option maxRecDepth 100000 in
set_option maxHeartbeats 16000000 in
theorem lawc_issued {l : Launch} {D : va_G} {cI cJ cZ cB : ClassId} {a b : Nat → Nat} {A : Nat → Prop} {E : State → Prop} {adK adV : Nat → Nat} {fv : Option Nat} {p : Program} {e : Env} {R : Room} {s : State} {m : MethodId} {args : Array Value} {below : List Frame} {meth : Method} {c : Code} {cells slots : Nat} {Q : State → Prop} {q0 L : Nat} {xs : Nat → Int32} (G : lG a b A E adK adV fv) (C : fC p m c cL_law 4 s args wsL_law RL D (fTys cI cJ cZ cB) E A) (hX : va_X q0 L xs s s.heap) (hbl : q0 < s.heap.size) (hbA : ¬ A q0) (hL : (L : Int) ≤ 2147483648) (hR : 13 ≤ R.frames ∧ 504 ≤ R.locals) (hcs : cells ≤ R.cells ∧ slots ≤ R.slots) {i : Int} (hi : 0 ≤ i ∧ i + 9 ≤ L) {x m0 : fS} (hRel : Rel x m0) (kk : ∀ x1 m1 : fS, Rel x1 m1 → fV (σ := fS × fS) D (wL cI cJ cZ cB a b) okL A 4 p l e R s m args below meth c cells slots Q (x1, m1) 1121 [(0, .ref q0), (1, .ref (a 0)), (2, .ref (b 0)), (3, .int (zI i))] []) : fV (σ := fS × fS) D (wL cI cJ cZ cB a b) okL A 4 p l e R s m args below meth c cells slots Q (x, m0) 1053 [(0, .ref q0), (1, .ref (a 0)), (2, .ref (b 0)), (3, .int (zI i))] [] := by
  refine f_ok (fun hO => ?_)
  refine f_aload_n C 1 dL_law_1053 rfl rfl ?_
  refine f_aload_n C 0 dL_law_1054 rfl rfl ?_
  refine f_iload_n C 3 dL_law_1055 rfl rfl ?_
  refine f_iconst C dL_law_1056 ?_
  refine f_iadd C dL_law_1057 ?_
  refine f_sld C hX hbl hbA ⟨by omega, by omega⟩ hL dL_law_1058 ?_
  refine f_aload_n C 0 dL_law_1059 rfl rfl ?_
  refine f_iload_n C 3 dL_law_1060 rfl rfl ?_
  refine f_iconst C dL_law_1061 ?_
  refine f_iadd C dL_law_1062 ?_
  refine f_sld C hX hbl hbA ⟨by omega, by omega⟩ hL dL_law_1063 ?_
  refine lx_cl G C (c_X8_issued ⟨G.1, xE_st _ _ _ _⟩ (sc xs (i + 1)) (sc xs (i + 2)) (sc_in xs _) (sc_in xs _) x ) (cwV 2 C.1.2.2.2.2 gL_law_X8_issued rfl rfl rfl (by decide +kernel) ⟨by show 2 + 1 ≤ R.frames; omega, by show 8 + (3 + 11) + 43 ≤ R.locals; omega⟩) rfl rfl (Nat.le_of_ble_eq_true rfl) hcs dL_law_1064 (fun z1 u1 hz1 hu1 => ?_)
  obtain ⟨ez1, eu1⟩ := hu1
  refine f_aload_n C 2 dL_law_1067 rfl rfl ?_
  refine f_aload_n C 0 dL_law_1068 rfl rfl ?_
  refine f_iload_n C 3 dL_law_1069 rfl rfl ?_
  refine f_iconst C dL_law_1070 ?_
  refine f_iadd C dL_law_1071 ?_
  refine f_sld C hX hbl hbA ⟨by omega, by omega⟩ hL dL_law_1072 ?_
  refine f_aload_n C 0 dL_law_1073 rfl rfl ?_
  refine f_iload_n C 3 dL_law_1074 rfl rfl ?_
  refine f_iconst C dL_law_1075 ?_
  refine f_iadd C dL_law_1076 ?_
  refine f_sld C hX hbl hbA ⟨by omega, by omega⟩ hL dL_law_1077 ?_
  refine lm_cl G C (c_X9_issued ⟨G.2.1, fSt_T _⟩ (sc xs (i + 1)) (sc xs (i + 2)) (sc_in xs _) (sc_in xs _) m0 ) (cwV 2 C.1.2.2.2.2 gL_law_X9_issued rfl rfl rfl (by decide +kernel) ⟨by show 1 + 1 ≤ R.frames; omega, by show 8 + (3 + 11) + 21 ≤ R.locals; omega⟩) rfl rfl (Nat.le_of_ble_eq_true rfl) hcs dL_law_1078 (fun z2 u2 hz2 hu2 => ?_)
  obtain ⟨ez2, eu2⟩ := hu2
  have q := q_issued hRel hO.1 hO.2 (sc xs (i + 1)) (sc xs (i + 2))
  refine f_lc_if_eq C 1121 hz1 hz2 dL_law_1081 dL_law_1082 (by decide) (fun _ => ?_) (fun hne => absurd (by rw [ez1, ez2]; exact q) hne)
  rw [eu1, eu2]
  exact kk _ _ hRel
set_option maxRecDepth 100000 in
set_option maxHeartbeats 16000000 in
theorem lawc_reverse {l : Launch} {D : va_G} {cI cJ cZ cB : ClassId} {a b : Nat → Nat} {A : Nat → Prop} {E : State → Prop} {adK adV : Nat → Nat} {fv : Option Nat} {p : Program} {e : Env} {R : Room} {s : State} {m : MethodId} {args : Array Value} {below : List Frame} {meth : Method} {c : Code} {cells slots : Nat} {Q : State → Prop} {q0 L : Nat} {xs : Nat → Int32} (G : lG a b A E adK adV fv) (C : fC p m c cL_law 4 s args wsL_law RL D (fTys cI cJ cZ cB) E A) (hX : va_X q0 L xs s s.heap) (hbl : q0 < s.heap.size) (hbA : ¬ A q0) (hL : (L : Int) ≤ 2147483648) (hR : 13 ≤ R.frames ∧ 504 ≤ R.locals) (hcs : cells ≤ R.cells ∧ slots ≤ R.slots) {i : Int} (hi : 0 ≤ i ∧ i + 9 ≤ L) {x m0 : fS} (hRel : Rel x m0) (kk : ∀ x1 m1 : fS, Rel x1 m1 → fV (σ := fS × fS) D (wL cI cJ cZ cB a b) okL A 4 p l e R s m args below meth c cells slots Q (x1, m1) 1121 [(0, .ref q0), (1, .ref (a 0)), (2, .ref (b 0)), (3, .int (zI i))] []) : fV (σ := fS × fS) D (wL cI cJ cZ cB a b) okL A 4 p l e R s m args below meth c cells slots Q (x, m0) 1087 [(0, .ref q0), (1, .ref (a 0)), (2, .ref (b 0)), (3, .int (zI i))] [] := by
  refine f_ok (fun hO => ?_)
  refine f_aload_n C 1 dL_law_1087 rfl rfl ?_
  refine f_aload_n C 0 dL_law_1088 rfl rfl ?_
  refine f_iload_n C 3 dL_law_1089 rfl rfl ?_
  refine f_iconst C dL_law_1090 ?_
  refine f_iadd C dL_law_1091 ?_
  refine f_sld C hX hbl hbA ⟨by omega, by omega⟩ hL dL_law_1092 ?_
  refine f_aload_n C 0 dL_law_1093 rfl rfl ?_
  refine f_iload_n C 3 dL_law_1094 rfl rfl ?_
  refine f_iconst C dL_law_1095 ?_
  refine f_iadd C dL_law_1096 ?_
  refine f_sld C hX hbl hbA ⟨by omega, by omega⟩ hL dL_law_1097 ?_
  refine lx_cl G C (c_X8_reverse ⟨G.1, xE_st _ _ _ _⟩ (sc xs (i + 1)) (sc xs (i + 2)) (sc_in xs _) (sc_in xs _) x ) (cwV 2 C.1.2.2.2.2 gL_law_X8_reverse rfl rfl rfl (by decide +kernel) ⟨by show 2 + 1 ≤ R.frames; omega, by show 8 + (5 + 11) + 47 ≤ R.locals; omega⟩) rfl rfl (Nat.le_of_ble_eq_true rfl) hcs dL_law_1098 (fun z1 u1 hz1 hu1 => ?_)
  obtain ⟨ez1, eu1⟩ := hu1
  refine f_aload_n C 2 dL_law_1101 rfl rfl ?_
  refine f_aload_n C 0 dL_law_1102 rfl rfl ?_
  refine f_iload_n C 3 dL_law_1103 rfl rfl ?_
  refine f_iconst C dL_law_1104 ?_
  refine f_iadd C dL_law_1105 ?_
  refine f_sld C hX hbl hbA ⟨by omega, by omega⟩ hL dL_law_1106 ?_
  refine f_aload_n C 0 dL_law_1107 rfl rfl ?_
  refine f_iload_n C 3 dL_law_1108 rfl rfl ?_
  refine f_iconst C dL_law_1109 ?_
  refine f_iadd C dL_law_1110 ?_
  refine f_sld C hX hbl hbA ⟨by omega, by omega⟩ hL dL_law_1111 ?_
  refine lm_cl G C (c_X9_reverse ⟨G.2.1, fSt_T _⟩ (sc xs (i + 1)) (sc xs (i + 2)) (sc_in xs _) (sc_in xs _) m0 ) (cwV 2 C.1.2.2.2.2 gL_law_X9_reverse rfl rfl rfl (by decide +kernel) ⟨by show 1 + 1 ≤ R.frames; omega, by show 8 + (5 + 11) + 21 ≤ R.locals; omega⟩) rfl rfl (Nat.le_of_ble_eq_true rfl) hcs dL_law_1112 (fun z2 u2 hz2 hu2 => ?_)
  obtain ⟨ez2, eu2⟩ := hu2
  have q := q_reverse hRel hO.1 hO.2 (sc xs (i + 1)) (sc xs (i + 2))
  refine f_lc_if_eq C 1121 hz1 hz2 dL_law_1115 dL_law_1116 (by decide) (fun _ => ?_) (fun hne => absurd (by rw [ez1, ez2]; exact q.1) hne)
  rw [eu1, eu2]
  exact kk _ _ q.2
