/-! ===== PART 34: the words that the reader knows: String constants, their length and signs ===== -/
def sLen : List Nat := [4, 3, 5, 4, 3]
def sByt : List (List Int32) := [[107, 105, 110, 100], [112, 101, 114], [112, 114, 105, 99, 101], [115, 116, 101, 112], [99, 97, 112]]
def wLs : List (List Int) := [[107, 105, 110, 100], [112, 101, 114], [112, 114, 105, 99, 101], [115, 116, 101, 112], [99, 97, 112]]
def wLen (i : Nat) : Int := ((wLs.getD i []).length : Int)
def wCh (i : Nat) (k : Int) : Int := (wLs.getD i []).getD k.toNat 0
theorem wLen_b : ∀ i, i < 5 → 3 ≤ wLen i ∧ wLen i ≤ 5 ∧ Int32.ofNat (sLen.getD i 0) = zI (wLen i) ∧ wLen i = (sLen.getD i 0 : Int) := by decide +kernel
theorem wCh_n : ∀ i, i < 5 → ∀ k, k < sLen.getD i 0 → (sByt.getD i []).getD k 0 = zI ((wLs.getD i []).getD k 0) ∧ 97 ≤ (wLs.getD i []).getD k 0 ∧ (wLs.getD i []).getD k 0 ≤ 122 ∧ (zI ((wLs.getD i []).getD k 0) &&& zI 255) = zI ((wLs.getD i []).getD k 0) ∧ ((zI ((wLs.getD i []).getD k 0)).toUInt32 % 65536).toInt32 = zI ((wLs.getD i []).getD k 0) ∧ narrow .char (.int (zI ((wLs.getD i []).getD k 0))) = .int (zI ((wLs.getD i []).getD k 0)) := by decide +kernel
/-- what the reader takes as given: the five constants, two statics of the library's -/
def xE (adK adV : Nat → Nat) (fv : Option Nat) (A : Nat → Prop) : State → Prop := fun U =>
  vk_S 5 sLen sByt adK adV A U U.heap ∧ (vk_R RX6 40 "kind" (adK 0) U ∧ vk_R RX6 68 "per" (adK 1) U ∧ vk_R RX6 76 "price" (adK 2) U ∧ vk_R RX6 82 "step" (adK 3) U ∧ vk_R RX6 87 "cap" (adK 4) U) ∧ va_Z "java/lang/String" "COMPACT_STRINGS" "Z" (.int 1) A U U.heap ∧ va_Z "jdk/internal/util/Preconditions" "SIOOBE_FORMATTER" "Ljava/util/function/BiFunction;" (va_rf fv) A U U.heap
theorem xE_st (adK adV : Nat → Nat) (fv : Option Nat) (A : Nat → Prop) : fSt A (xE adK adV fv A) := by
  refine ⟨fun s U hW hz hq h => ?_, fun U g mk a h => ?_⟩
  · obtain ⟨h1, ⟨r0, r1, r2, r3, r4⟩, h3, h4⟩ := h
    exact ⟨vk_S.moved hW.alike (vk_S.kept h1 hq), ⟨r0.warm hW, r1.warm hW, r2.warm hW, r3.warm hW, r4.warm hW⟩, va_Z.moved hW.alike (h3.kept hq), va_Z.moved hW.alike (h4.kept hq)⟩
  · obtain ⟨h1, ⟨r0, r1, r2, r3, r4⟩, h3, h4⟩ := h
    exact ⟨vk_S.moved (u := U) (U := U.calling g mk a) (Vm.Alike.refl U.vm) h1, ⟨r0.same (U := U.calling g mk a) rfl, r1.same (U := U.calling g mk a) rfl, r2.same (U := U.calling g mk a) rfl, r3.same (U := U.calling g mk a) rfl, r4.same (U := U.calling g mk a) rfl⟩, va_Z.moved (u := U) (U := U.calling g mk a) (Vm.Alike.refl U.vm) h3, va_Z.moved (u := U) (U := U.calling g mk a) (Vm.Alike.refl U.vm) h4⟩
section FS
variable {σ : Type} {D : va_G} {Wd : σ → va_W} {Ok : σ → Prop} {A : Nat → Prop} {nL : Nat} {p : Program} {l : Launch} {e : Env} {R : Room} {s : State} {m : MethodId} {args : Array Value} {below : List Frame} {meth : Method} {c : Code} {cells slots : Nat} {Q : State → Prop}
variable {cc : ByteArray} {Ts : List Cond} {own : String} {tys : List (ClassId × FieldType)} {E : State → Prop} {st : σ} {pc : Nat} {lv : List (Nat × Value)} {rest : List Value}
theorem f_gets (C : fC p m c cc nL s args Ts own D tys E A) {Cn n d ref : String} {v : Value} {index : Nat} (hZ : va_Z Cn n d v A s s.heap) (hl' : Cond.fieldLink own index ref n d ∈ Ts) (hs : Cn = ref) (hdg : decode cc pc = .ok (.getstatic index, 3)) (k : fV D Wd Ok A nL p l e R s m args below meth c cells slots Q st (pc + 3) lv (v :: rest)) : fV D Wd Ok A nL p l e R s m args below meth c cells slots Q st pc lv rest := fun H locs ls hP hO hS hl => va_gets C.1.1 C.1.2.1 hZ hS C.1.2.2.2.1 (C.1.2.2.2.2 _ hl') (fun x h9 => by rw [← hs]; exact h9) hdg (k H locs ls hP hO hS hl)
theorem f_getS (C : fC p m c cc nL s args Ts own D tys E A) {o n d ref : String} {v : Value} {index q : Nat} (hE : va_OF o n d v q A s s.heap) (hl' : Cond.fieldLink own index ref n d ∈ Ts) (hs : o = ref) (hdg : decode cc pc = .ok (.getfield index, 3)) (k : fV D Wd Ok A nL p l e R s m args below meth c cells slots Q st (pc + 3) lv (v :: rest)) : fV D Wd Ok A nL p l e R s m args below meth c cells slots Q st pc lv (.ref q :: rest) := fun H locs ls hP hO hS hl => vk_getf C.1.1 C.1.2.1 hE hS C.1.2.2.2.1 (C.1.2.2.2.2 _ hl') (fun x h9 => by rw [← hs]; exact h9) hdg (k H locs ls hP hO hS hl)
theorem f_tlen (C : fC p m c cc nL s args Ts own D tys E A) {ty : FieldType} {t N : Nat} {f : Nat → Value} {z : Int} (hT : va_T ty t N f A s s.heap) (hv : Int32.ofNat N = zI z) (hdg : decode cc pc = .ok (.arraylength, 1)) (k : fV D Wd Ok A nL p l e R s m args below meth c cells slots Q st (pc + 1) lv (.int (zI z) :: rest)) : fV D Wd Ok A nL p l e R s m args below meth c cells slots Q st pc lv (.ref t :: rest) := fun H locs ls hP hO hS hl => va_tlen C.1.1 C.1.2.1 hT hS hv hdg (k H locs ls hP hO hS hl)
theorem f_tb (C : fC p m c cc nL s args Ts own D tys E A) {t N : Nat} {f : Nat → Value} {i z : Int} (hT : va_T .byte t N f A s s.heap) (hi : 0 ≤ i ∧ i < N) (hN : N ≤ 2147483648) (hv : f i.toNat = .int (zI z)) (hdg : decode cc pc = .ok (.baload, 1)) (k : fV D Wd Ok A nL p l e R s m args below meth c cells slots Q st (pc + 1) lv (.int (zI z) :: rest)) : fV D Wd Ok A nL p l e R s m args below meth c cells slots Q st pc lv (.int (zI i) :: .ref t :: rest) := fun H locs ls hP hO hS hl => va_tb C.1.1 C.1.2.1 hT hS (zI_in hi (by omega)) (by rw [zI_cl hi.1 (by omega)]; exact hv) hdg (k H locs ls hP hO hS hl)
theorem f_ldcS (C : fC p m c cc nL s args Ts own D tys E A) {tx : String} {index q : Nat} (hZ : vk_R own index tx q s) (hdg : decode cc pc = .ok (.ldc index, 2)) (k : fV D Wd Ok A nL p l e R s m args below meth c cells slots Q st (pc + 2) lv (.ref q :: rest)) : fV D Wd Ok A nL p l e R s m args below meth c cells slots Q st pc lv rest := fun H locs ls hP hO hS hl => va_ldcS C.1.1 C.1.2.1 C.1.2.2.2.1 hZ hdg (k H locs ls hP hO hS hl)
theorem f_ishr0 (C : fC p m c cc nL s args Ts own D tys E A) {x : Int} (hdg : decode cc pc = .ok (.ishr, 1)) (k : fV D Wd Ok A nL p l e R s m args below meth c cells slots Q st (pc + 1) lv (.int (zI x) :: rest)) : fV D Wd Ok A nL p l e R s m args below meth c cells slots Q st pc lv (.int (zI 0) :: .int (zI x) :: rest) := fun H locs ls hP hO hS hl => lv_ishr C.1.1 C.1.2.1 hdg (by rw [show zI x >>> (zI 0 &&& 31) = zI x from sb_shr0 (zI x)]; exact k H locs ls hP hO hS hl)
theorem f_iandE (C : fC p m c cc nL s args Ts own D tys E A) {x y z : Int} (h : zI x &&& zI y = zI z) (hdg : decode cc pc = .ok (.iand, 1)) (k : fV D Wd Ok A nL p l e R s m args below meth c cells slots Q st (pc + 1) lv (.int (zI z) :: rest)) : fV D Wd Ok A nL p l e R s m args below meth c cells slots Q st pc lv (.int (zI y) :: .int (zI x) :: rest) := fun H locs ls hP hO hS hl => lv_iand C.1.1 C.1.2.1 hdg (by rw [h]; exact k H locs ls hP hO hS hl)
theorem f_i2cE (C : fC p m c cc nL s args Ts own D tys E A) {x z : Int} (h : ((zI x).toUInt32 % 65536).toInt32 = zI z) (hdg : decode cc pc = .ok (.i2c, 1)) (k : fV D Wd Ok A nL p l e R s m args below meth c cells slots Q st (pc + 1) lv (.int (zI z) :: rest)) : fV D Wd Ok A nL p l e R s m args below meth c cells slots Q st pc lv (.int (zI x) :: rest) := fun H locs ls hP hO hS hl => lv_i2c C.1.1 C.1.2.1 hdg h (k H locs ls hP hO hS hl)
theorem f_pop (C : fC p m c cc nL s args Ts own D tys E A) {v : Value} (hdg : decode cc pc = .ok (.pop, 1)) (hv : v.category = 1) (k : fV D Wd Ok A nL p l e R s m args below meth c cells slots Q st (pc + 1) lv rest) : fV D Wd Ok A nL p l e R s m args below meth c cells slots Q st pc lv (v :: rest) := fun H locs ls hP hO hS hl => lv_pop C.1.1 C.1.2.1 hdg hv (k H locs ls hP hO hS hl)
theorem f_ifnull (C : fC p m c cc nL s args Ts own D tys E A) {x : Nat} {off : Int} (hdg : decode cc pc = .ok (.ifnull off, 3)) (k : fV D Wd Ok A nL p l e R s m args below meth c cells slots Q st (pc + 3) lv rest) : fV D Wd Ok A nL p l e R s m args below meth c cells slots Q st pc lv (.ref x :: rest) := fun H locs ls hP hO hS hl => lv_ifnull C.1.1 C.1.2.1 hdg (k H locs ls hP hO hS hl)
theorem f_nret {post : Int → σ → Prop} {z : Int} {ty : FieldType} (C : fC p m c cc nL s args Ts own D tys E A) (hr : meth.sig.returnType = some ty) (hn : narrow ty (.int (zI z)) = .int (zI z)) (hlk : meth.locks = false) (hdg : decode cc pc = .ok (.ireturn, 1)) (hz : in32 z) (hp : post z st) : fV D Wd Ok A nL p l e R s m args below meth c 0 0 (fMQ below (fQi D Wd Ok A post) args s A) st pc lv [.int (zI z)] := fun H locs ls hP hO hS hl => W.zret C.1.1 C.1.2.1 hr hn (fun t ht hW => ⟨⟨zI z, st, rfl, ⟨z, hz, rfl, hp⟩, by rw [ht]; exact hP, hO⟩, hS.F ht⟩) hS.2.2 hdg hlk
variable {y : MethodName} {bytes : ByteArray} {maxL n index : Nat} {ws : List Cond} {rm : Room} {Cn : String} {b : Addr} {As : List Value}
/-- a call whose receiver lies outside the world -/
theorem f_calliE {post : Int → σ → Prop} {ret : Option FieldType} (C : fC p m c cc nL s args Ts own D tys E A) (hM : fMi l y ws rm D tys E Wd Ok A (.ref b :: As) st post) (cw : CallW R s args own Cn index y bytes maxL ret ws rm 0 0 n) (hr : ∀ (H : Heap) (locs : List Loc), va_S A s.heap H locs → ∃ cell : Cell, H[b]? = some cell ∧ cell.vm.isStatics = false ∧ s.vm.findClass Cn = some cell.cls) (hn : As.length = n) {stk : List Value} (hstk : stk = As.reverse ++ .ref b :: rest) (hrm : (rest.map fun v => v.category).sum ≤ 8) (hf : cells ≤ R.cells ∧ slots ≤ R.slots) (hdg : decode cc pc = .ok (.invokevirtual index, 3))
    (kk : ∀ (z : Int) (u : σ), in32 z → post z u → fV D Wd Ok A nL p l e R s m args below meth c cells slots Q u (pc + 3) lv (.int (zI z) :: rest)) : fV D Wd Ok A nL p l e R s m args below meth c cells slots Q st pc lv stk := by
  intro H locs ls hP hO hS hl
  refine va_calli (A1 := A) (va_runV C.1 hM cw ⟨fPre_blind D tys E Wd Ok st _ A C.2.2.2, hr H locs hS, fun U hU hW => ⟨rfl, by rw [hU]; exact hP, va_K.moved hW.alike C.2.1, C.2.2.2.1 s U hW (by rw [hU]; exact hS.1) (by rw [hU]; exact hS.2.1) C.2.2.1, hO⟩⟩ rfl hn hl.1 hstk (f_room hrm) hdg hf) hS (fun _ _ h => h) (fun _ h => h) ?_
  intro r u t H1 locs1 ht hvm hp hB hz hk hS1
  obtain ⟨z, hz1, rfl, hp⟩ := hp
  exact kk z u hz1 hp H1 locs1 ls (by rw [← ht]; exact hB.1) hB.2 hS1 hl
/-- a static call that answers nothing -/
theorem f_callsv {post : σ → Prop} {ret : Option FieldType} (C : fC p m c cc nL s args Ts own D tys E A) (hM : fMv l y ws rm D tys E Wd Ok A As st post) (cw : CallB R s args own index y bytes maxL ret ws rm 0 0 n ∧ (Cond.static y).before args s = true) (hn : As.length = n) {stk : List Value} (hstk : stk = As.reverse ++ rest) (hrm : (rest.map fun v => v.category).sum ≤ 8) (hf : cells ≤ R.cells ∧ slots ≤ R.slots) (hdg : decode cc pc = .ok (.invokestatic index, 3))
    (kk : ∀ u : σ, post u → fV D Wd Ok A nL p l e R s m args below meth c cells slots Q u (pc + 3) lv rest) : fV D Wd Ok A nL p l e R s m args below meth c cells slots Q st pc lv stk := by
  intro H locs ls hP hO hS hl
  refine va_callv (A1 := A) (va_runS C.1 hM cw ⟨fPre_blind D tys E Wd Ok st _ A C.2.2.2, fun U hU hW => ⟨rfl, by rw [hU]; exact hP, va_K.moved hW.alike C.2.1, C.2.2.2.1 s U hW (by rw [hU]; exact hS.1) (by rw [hU]; exact hS.2.1) C.2.2.1, hO⟩⟩ rfl hn hl.1 hstk (f_room hrm) hdg hf) hS (fun _ _ h => h) (fun _ h => h) ?_
  intro u t H1 locs1 ht hvm hp hB hz hk hS1
  exact kk u hp H1 locs1 ls (by rw [← ht]; exact hB.1) hB.2 hS1 hl
end FS
section JD
variable {l : Launch} {D : va_G} {cI cJ cZ cB : ClassId} {a : Nat → Nat} {E : State → Prop} {adK adV : Nat → Nat} {fv : Option Nat}
set_option maxRecDepth 100000 in
set_option maxHeartbeats 8000000 in
theorem c_J0_coder (hX : xHyp a E) (hES : ∀ U, E U → xE adK adV fv (xA a) U) (i : Nat) (hi : i < 5) (st : fS) : xMi l D cI cJ cZ cB a E yJ0_coder_7d493 wsJ0_coder_7d493 fr0 [.ref (adK i)] st (fun z u => z = 0 ∧ u = st) := by
  refine fB_open (cc := cJ0_coder_7d493) (maxL := 1) (ret := some .byte) (by decide) rfl (Nat.le_of_ble_eq_true rfl) hX.2 ?_
  intro p e s m below meth c C hret hlk
  obtain ⟨hS1, hR1, hZ1, hZ2⟩ := hES s C.2.2.1
  refine f_gets C (index := 38) (ref := "java/lang/String") hZ1 (by decide +kernel) rfl dJ0_coder_7d493_0 ?_
  refine f_if_eq C 13 (x := 1) ⟨by decide, by decide⟩ dJ0_coder_7d493_3 (by decide) (fun c1 => absurd c1 (by decide)) (fun c1 => ?_)
  refine f_aload_n C 0 dJ0_coder_7d493_6 rfl rfl ?_
  refine f_getS C (index := 15) (ref := "java/lang/String") (hS1.1 i hi).2.1 (by decide +kernel) rfl dJ0_coder_7d493_7 ?_
  refine f_goto C 14 dJ0_coder_7d493_10 (by decide) ?_
  exact f_nret C hret (z := 0) rfl hlk dJ0_coder_7d493_14 ⟨by decide, by decide⟩ ⟨rfl, rfl⟩
set_option maxRecDepth 100000 in
set_option maxHeartbeats 8000000 in
theorem c_J0_length (hX : xHyp a E) (hES : ∀ U, E U → xE adK adV fv (xA a) U) (i : Nat) (hi : i < 5) (st : fS) : xMi l D cI cJ cZ cB a E yJ0_length_8abf5 wsJ0_length_8abf5 { frames := 1, cells := 0, slots := 0, locals := 20 } [.ref (adK i)] st (fun z u => z = wLen i ∧ u = st) := by
  refine fB_open (cc := cJ0_length_8abf5) (maxL := 1) (ret := some .int) (by decide) rfl (Nat.le_of_ble_eq_true rfl) hX.2 ?_
  intro p e s m below meth c C hret hlk
  obtain ⟨hS1, hR1, hZ1, hZ2⟩ := hES s C.2.2.1
  have hw := wLen_b i hi
  refine f_aload_n C 0 dJ0_length_8abf5_0 rfl rfl ?_
  refine f_getS C (index := 9) (ref := "java/lang/String") (hS1.1 i hi).2.2.1 (by decide +kernel) rfl dJ0_length_8abf5_1 ?_
  refine f_tlen C (z := wLen i) (hS1.1 i hi).2.2.2 hw.2.2.1 dJ0_length_8abf5_4 ?_
  refine f_aload_n C 0 dJ0_length_8abf5_5 rfl rfl ?_
  refine f_calliE C (c_J0_coder hX hES i hi st) (cwV 0 C.1.2.2.2.2 gJ0_length_8abf5_J0_coder_7d493 rfl rfl rfl (by decide +kernel) ⟨Nat.le_of_ble_eq_true rfl, Nat.le_of_ble_eq_true rfl⟩) (fun H locs hS => vk_recv hS1 hi hS) rfl rfl (Nat.le_of_ble_eq_true rfl) ⟨Nat.zero_le _, Nat.zero_le _⟩ dJ0_length_8abf5_6 (fun z u hz hu => ?_)
  obtain ⟨qz, hu⟩ := hu; replace hu := hu.symm; subst hu; subst qz
  refine f_ishr0 C dJ0_length_8abf5_9 ?_
  exact f_iret C hret hlk dJ0_length_8abf5_10 ⟨by omega, by omega⟩ ⟨rfl, rfl⟩
set_option maxRecDepth 100000 in
set_option maxHeartbeats 8000000 in
theorem c_J0_isLatin1 (hX : xHyp a E) (hES : ∀ U, E U → xE adK adV fv (xA a) U) (i : Nat) (hi : i < 5) (st : fS) : xMi l D cI cJ cZ cB a E yJ0_isLatin1_aae02 wsJ0_isLatin1_aae02 fr0 [.ref (adK i)] st (fun z u => z = 1 ∧ u = st) := by
  refine fB_open (cc := cJ0_isLatin1_aae02) (maxL := 1) (ret := some .boolean) (by decide) rfl (Nat.le_of_ble_eq_true rfl) hX.2 ?_
  intro p e s m below meth c C hret hlk
  obtain ⟨hS1, hR1, hZ1, hZ2⟩ := hES s C.2.2.1
  refine f_gets C (index := 38) (ref := "java/lang/String") hZ1 (by decide +kernel) rfl dJ0_isLatin1_aae02_0 ?_
  refine f_if_eq C 17 (x := 1) ⟨by decide, by decide⟩ dJ0_isLatin1_aae02_3 (by decide) (fun c1 => absurd c1 (by decide)) (fun c1 => ?_)
  refine f_aload_n C 0 dJ0_isLatin1_aae02_6 rfl rfl ?_
  refine f_getS C (index := 15) (ref := "java/lang/String") (hS1.1 i hi).2.1 (by decide +kernel) rfl dJ0_isLatin1_aae02_7 ?_
  refine f_if_ne C 17 (x := 0) ⟨by decide, by decide⟩ dJ0_isLatin1_aae02_10 (by decide) (fun c1 => absurd rfl c1) (fun c1 => ?_)
  refine f_iconst C dJ0_isLatin1_aae02_13 ?_
  refine f_goto C 18 dJ0_isLatin1_aae02_14 (by decide) ?_
  exact f_zret C hret hlk dJ0_isLatin1_aae02_18 (by decide) ⟨rfl, rfl⟩
set_option maxRecDepth 100000 in
set_option maxHeartbeats 8000000 in
theorem c_J3_check (hX : xHyp a E) (q : Option Nat) (k n : Int) (hk : 0 ≤ k ∧ k < n) (hn : n ≤ 2147483647) (st : fS) : xMi l D cI cJ cZ cB a E yJ3_checkIndex_8e157 wsJ3_checkIndex_8e157 fr0 [.int (zI k), .int (zI n), va_rf q] st (fun z u => z = k ∧ u = st) := by
  refine fB_open (cc := cJ3_checkIndex_8e157) (maxL := 3) (ret := some .int) (by decide) rfl (by cases q <;> exact Nat.le_of_ble_eq_true rfl) hX.2 ?_
  intro p e s m below meth c C hret hlk
  refine f_re (lv' := [(0, .int (zI k)), (1, .int (zI n))]) [0, 1] rfl ?_
  refine f_iload_n C 0 dJ3_checkIndex_8e157_0 rfl rfl ?_
  refine f_if_lt C 9 ⟨by omega, by omega⟩ dJ3_checkIndex_8e157_1 (by decide) (fun c1 => absurd c1 (by omega)) (fun c1 => ?_)
  refine f_iload_n C 0 dJ3_checkIndex_8e157_4 rfl rfl ?_
  refine f_iload_n C 1 dJ3_checkIndex_8e157_5 rfl rfl ?_
  refine f_icmp_lt C 16 ⟨by omega, by omega⟩ ⟨by omega, by omega⟩ dJ3_checkIndex_8e157_6 (by decide) (fun c2 => ?_) (fun c2 => absurd hk.2 c2)
  refine f_iload_n C 0 dJ3_checkIndex_8e157_16 rfl rfl ?_
  exact f_iret C hret hlk dJ3_checkIndex_8e157_17 ⟨by omega, by omega⟩ ⟨rfl, rfl⟩
set_option maxRecDepth 100000 in
set_option maxHeartbeats 8000000 in
theorem c_J0_check (hX : xHyp a E) (hES : ∀ U, E U → xE adK adV fv (xA a) U) (k n : Int) (hk : 0 ≤ k ∧ k < n) (hn : n ≤ 2147483647) (st : fS) : xMv l D cI cJ cZ cB a E yJ0_checkIndex_df160 wsJ0_checkIndex_df160 { frames := 1, cells := 0, slots := 0, locals := 22 } [.int (zI k), .int (zI n)] st (fun u => u = st) := by
  refine fB_open (cc := cJ0_checkIndex_df160) (maxL := 2) (ret := none) (by decide) rfl (Nat.le_of_ble_eq_true rfl) hX.2 ?_
  intro p e s m below meth c C hret hlk
  obtain ⟨hS1, hR1, hZ1, hZ2⟩ := hES s C.2.2.1
  refine f_iload_n C 0 dJ0_checkIndex_df160_0 rfl rfl ?_
  refine f_iload_n C 1 dJ0_checkIndex_df160_1 rfl rfl ?_
  refine f_gets C (index := 1053) (ref := "jdk/internal/util/Preconditions") hZ2 (by decide +kernel) rfl dJ0_checkIndex_df160_2 ?_
  refine f_callsi C (c_J3_check hX fv k n hk hn st) (va_cwS 3 C.1.2.2.2.2 gJ0_checkIndex_df160_J3_checkIndex_8e157 rfl rfl rfl (by decide +kernel) ⟨Nat.le_of_ble_eq_true rfl, Nat.le_of_ble_eq_true rfl⟩) rfl rfl (Nat.le_of_ble_eq_true rfl) ⟨Nat.zero_le _, Nat.zero_le _⟩ dJ0_checkIndex_df160_5 (fun z u hz hu => ?_)
  obtain ⟨qz, hu⟩ := hu; replace hu := hu.symm; subst hu; subst qz
  refine f_pop C dJ0_checkIndex_df160_8 rfl ?_
  exact f_vret C hret hlk dJ0_checkIndex_df160_9 rfl
set_option maxRecDepth 100000 in
set_option maxHeartbeats 8000000 in
theorem c_J1_charAt (hX : xHyp a E) (hES : ∀ U, E U → xE adK adV fv (xA a) U) (i : Nat) (hi : i < 5) (k : Int) (hk : 0 ≤ k ∧ k < wLen i) (st : fS) : xMi l D cI cJ cZ cB a E yJ1_charAt_3b067 wsJ1_charAt_3b067 { frames := 2, cells := 0, slots := 0, locals := 43 } [.ref (adV i), .int (zI k)] st (fun z u => z = wCh i k ∧ u = st) := by
  refine fB_open (cc := cJ1_charAt_3b067) (maxL := 2) (ret := some .char) (by decide) rfl (Nat.le_of_ble_eq_true rfl) hX.2 ?_
  intro p e s m below meth c C hret hlk
  obtain ⟨hS1, hR1, hZ1, hZ2⟩ := hES s C.2.2.1
  have hw := wLen_b i hi
  have hc := wCh_n i hi k.toNat (by omega)
  have ew : wCh i k = (wLs.getD i []).getD k.toNat 0 := rfl
  refine f_iload_n C 1 dJ1_charAt_3b067_0 rfl rfl ?_
  refine f_aload_n C 0 dJ1_charAt_3b067_1 rfl rfl ?_
  refine f_tlen C (z := wLen i) (hS1.1 i hi).2.2.2 hw.2.2.1 dJ1_charAt_3b067_2 ?_
  refine f_callsv C (c_J0_check hX hES k (wLen i) hk (by omega) st) (va_cwS 2 C.1.2.2.2.2 gJ1_charAt_3b067_J0_checkIndex_df160 rfl rfl rfl (by decide +kernel) ⟨Nat.le_of_ble_eq_true rfl, Nat.le_of_ble_eq_true rfl⟩) rfl rfl (Nat.le_of_ble_eq_true rfl) ⟨Nat.zero_le _, Nat.zero_le _⟩ dJ1_charAt_3b067_3 (fun u hu => ?_)
  replace hu := hu.symm; subst hu
  refine f_aload_n C 0 dJ1_charAt_3b067_6 rfl rfl ?_
  refine f_iload_n C 1 dJ1_charAt_3b067_7 rfl rfl ?_
  refine f_tb C (z := wCh i k) (hS1.1 i hi).2.2.2 ⟨hk.1, by omega⟩ (by omega) (congrArg Value.int hc.1) dJ1_charAt_3b067_8 ?_
  refine f_sipush C dJ1_charAt_3b067_9 (by decide) ?_
  refine f_iandE C (z := wCh i k) hc.2.2.2.1 dJ1_charAt_3b067_12 ?_
  refine f_i2cE C (z := wCh i k) hc.2.2.2.2.1 dJ1_charAt_3b067_13 ?_
  exact f_nret C hret hc.2.2.2.2.2 hlk dJ1_charAt_3b067_14 ⟨by omega, by omega⟩ ⟨rfl, rfl⟩
set_option maxRecDepth 100000 in
set_option maxHeartbeats 8000000 in
theorem c_J0_charAt (hX : xHyp a E) (hES : ∀ U, E U → xE adK adV fv (xA a) U) (i : Nat) (hi : i < 5) (k : Int) (hk : 0 ≤ k ∧ k < wLen i) (st : fS) : xMi l D cI cJ cZ cB a E yJ0_charAt_5068e wsJ0_charAt_5068e { frames := 3, cells := 0, slots := 0, locals := 64 } [.ref (adK i), .int (zI k)] st (fun z u => z = wCh i k ∧ u = st) := by
  refine fB_open (cc := cJ0_charAt_5068e) (maxL := 2) (ret := some .char) (by decide) rfl (Nat.le_of_ble_eq_true rfl) hX.2 ?_
  intro p e s m below meth c C hret hlk
  obtain ⟨hS1, hR1, hZ1, hZ2⟩ := hES s C.2.2.1
  have hw := wLen_b i hi
  have hc := wCh_n i hi k.toNat (by omega)
  have ew : wCh i k = (wLs.getD i []).getD k.toNat 0 := rfl
  refine f_aload_n C 0 dJ0_charAt_5068e_0 rfl rfl ?_
  refine f_calliE C (c_J0_isLatin1 hX hES i hi st) (cwV 0 C.1.2.2.2.2 gJ0_charAt_5068e_J0_isLatin1_aae02 rfl rfl rfl (by decide +kernel) ⟨Nat.le_of_ble_eq_true rfl, Nat.le_of_ble_eq_true rfl⟩) (fun H locs hS => vk_recv hS1 hi hS) rfl rfl (Nat.le_of_ble_eq_true rfl) ⟨Nat.zero_le _, Nat.zero_le _⟩ dJ0_charAt_5068e_1 (fun z u hz hu => ?_)
  obtain ⟨qz, hu⟩ := hu; replace hu := hu.symm; subst hu; subst qz
  refine f_if_eq C 16 (x := 1) ⟨by decide, by decide⟩ dJ0_charAt_5068e_4 (by decide) (fun c1 => absurd c1 (by decide)) (fun c1 => ?_)
  refine f_aload_n C 0 dJ0_charAt_5068e_7 rfl rfl ?_
  refine f_getS C (index := 9) (ref := "java/lang/String") (hS1.1 i hi).2.2.1 (by decide +kernel) rfl dJ0_charAt_5068e_8 ?_
  refine f_iload_n C 1 dJ0_charAt_5068e_11 rfl rfl ?_
  refine f_callsi C (c_J1_charAt hX hES i hi k hk st) (va_cwS 2 C.1.2.2.2.2 gJ0_charAt_5068e_J1_charAt_3b067 rfl rfl rfl (by decide +kernel) ⟨Nat.le_of_ble_eq_true rfl, Nat.le_of_ble_eq_true rfl⟩) rfl rfl (Nat.le_of_ble_eq_true rfl) ⟨Nat.zero_le _, Nat.zero_le _⟩ dJ0_charAt_5068e_12 (fun z u hz hu => ?_)
  obtain ⟨qz, hu⟩ := hu; replace hu := hu.symm; subst hu; subst qz
  exact f_nret C hret hc.2.2.2.2.2 hlk dJ0_charAt_5068e_15 ⟨by omega, by omega⟩ ⟨rfl, rfl⟩
end JD
