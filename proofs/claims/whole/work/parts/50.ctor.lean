/-! ===== PART 50: worlds that grow: what is made, constructors ===== -/
abbrev kV (D : va_G) (A : Nat → Prop) (nL : Nat) (p : Program) (l : Launch) (e : Env) (R : Room) (s : State) (m : MethodId) (args : Array Value) (below : List Frame) (meth : Method) (c : Code) (cells slots : Nat) (Q : State → Prop) (ws : va_W) (pc : Nat) (lv : List (Nat × Value)) (stk : List Value) : Prop := fV (σ := va_W) D (fun w => w) (fun w => va_D A w) A nL p l e R s m args below meth c cells slots Q ws pc lv stk
/-- a constructor's contract: its world, of sz cells ahead, becomes one of those that post says -/
def kM (l : Launch) (y : MethodName) (ws : List Cond) (rm : Room) (D : va_G) (tys : List (ClassId × FieldType)) (av : List Value) (w0 : va_W) (post : va_W → Prop) (mc ms : Nat) : Prop := ∀ sz : Nat, Met l y ws rm (va_Pc av (fun U => U.heap.size = sz ∧ va_P D vwCl w0 U.heap ∧ va_K D vwCl tys U ∧ va_D (fun _ => True) w0)) (va_Qv (fun u : va_W => post u) (fun u t => va_P D vwCl u t.heap ∧ va_D (va_A w0 sz) u) (va_A w0 sz)) mc ms (va_A w0 sz)
section KB
variable {D : va_G} {tys : List (ClassId × FieldType)} {l : Launch} {y : MethodName} {ws ws' : List Cond} {rm : Room} {av : List Value} {cc : ByteArray} {maxL : Nat} {w0 : va_W} {post : va_W → Prop} {mc ms : Nat}
theorem kB_open (hy : plainName y.cls = true) (hyn : y.name = "<init>") (hw : ws = Cond.code y cc maxL none :: ws') (hn : (lg_sl av).length ≤ maxL)
    (body : ∀ (p : Program) (e : Env) (s : State) (m : MethodId) (below : List Frame) (meth : Method) (c : Code) (A : Nat → Prop), (∀ q, s.heap.size ≤ q → A q) → A = va_A w0 s.heap.size → fC p m c cc maxL s av.toArray ws y.cls D tys (fun _ => True) A → meth.sig.returnType = none → meth.locks = false → meth.name = "<init>" → kV D A maxL p l e rm s m av.toArray below meth c 0 0 (MQ below (va_Qv (fun u : va_W => post u) (fun u t => va_P D vwCl u t.heap ∧ va_D A u) A) av.toArray s mc ms A) w0 0 (lv_args 0 av) []) : kM l y ws rm D tys av w0 post mc ms := by
  intro sz
  refine Met.ofW (cc := cc) (maxL := maxL) (ret := none) hy hw ?_
  intro p e s m args below meth c s₁ B hml hv
  obtain ⟨rfl, hsz, hP, hK, hD0⟩ := hv
  have hts := atoms_spec (ws := ws) B.pre
  have hl := lv_entry av (n := maxL) hn
  have hin : meth.name = "<init>" := by rw [← hyn]; exact (name_of_methodNamed B.named B.method).1
  subst hsz
  rw [lg_entry_eq]
  exact body p e s m below meth c (va_A w0 s.heap.size) (fun q h => Or.inr h) rfl ⟨⟨B.exec, B.bytes, hml, findClass_of_methodNamed B.named, hts⟩, hK, trivial, fSt_T _⟩ B.returns B.notSynchronized hin s.heap [] _ hP (hD0.self (sz := s.heap.size)) va_S.rf hl
end KB
section KR
variable {D : va_G} {A : Nat → Prop} {nL : Nat} {p : Program} {l : Launch} {e : Env} {R : Room} {s : State} {m : MethodId} {args : Array Value} {below : List Frame} {meth : Method} {c : Code} {cells slots : Nat} {Q : State → Prop}
variable {cc : ByteArray} {Ts : List Cond} {own : String} {tys : List (ClassId × FieldType)} {E : State → Prop} {ws : va_W} {pc : Nat} {lv : List (Nat × Value)} {rest : List Value}
theorem k_widen {σ : Type} {Wd : σ → va_W} {Ok : σ → Prop} {st : σ} {k n : Nat} (h1 : cells ≤ k) (h2 : slots ≤ n) (kk : fV D Wd Ok A nL p l e R s m args below meth c k n Q st pc lv rest) : fV D Wd Ok A nL p l e R s m args below meth c cells slots Q st pc lv rest := fun H locs ls hP hO hS hl => W.widen h1 h2 (kk H locs ls hP hO hS hl)
theorem k_objInit {σ : Type} {Wd : σ → va_W} {Ok : σ → Prop} {st : σ} (C : fC p m c cc nL s args Ts own D tys E A) {idx a : Nat} (h1 : Cond.methodLink own idx objectInit ∈ Ts) (h2 : Cond.instanceMethod objectInit ∈ Ts) (h3 : Cond.code objectInit ⟨#[0xb1]⟩ 1 none ∈ Ts) (hdg : decode cc pc = .ok (.invokespecial idx, 3)) (hfr : 1 ≤ R.frames) (hlo : 2 * 0 + (rest.map fun v => v.category).sum + 12 ≤ R.locals) (k : fV D Wd Ok A nL p l e R s m args below meth c cells slots Q st (pc + 3) lv rest) : fV D Wd Ok A nL p l e R s m args below meth c cells slots Q st pc lv (.ref a :: rest) := fun H locs ls hP hO hS hl => W.objInit C.1.1 C.1.2.1 C.1.2.2.2.1 (C.1.2.2.2.2 _ h1) (C.1.2.2.2.2 _ h2) (C.1.2.2.2.2 _ h3) rfl (hl.1.trans C.1.2.2.1.symm) rfl hdg hfr hlo (k H locs ls hP hO hS hl)
theorem k_new (C : fC p m c cc nL s args Ts own D tys E A) (hA : ∀ q, s.heap.size ≤ q → A q) {C0 : String} {T : u_T} {N ci index : Nat} (hin : ∀ w ∈ u_ws C0 T N, w ∈ Ts) (ty : Nat → FieldType) (hty : ∀ k, k < N → parseFieldDescriptor (T k).2.2.1 = some (ty k)) (h1 : Cond.classLink own index C0 ∈ Ts) (h2 : Cond.instantiable C0 N ∈ Ts) (h3 : Cond.initialized C0 ∈ Ts) (hc : vwCl[ci]? = some (C0, T, N)) {fs : List Value} (hfs : ∀ j, j < N → defaultValue (ty j) = vp_V fs j) (hcells : cells + 1 ≤ R.cells) (hslots : slots + N ≤ R.slots) (hdg : decode cc pc = .ok (.new index, 3))
    (kk : ∀ q : Nat, kV D A nL p l e R s m args below meth c (cells + 1) (slots + N) Q (ws ++ [(q, .inr (ci, fs))]) (pc + 3) lv (.ref q :: rest)) : kV D A nL p l e R s m args below meth c cells slots Q ws pc lv rest := fun H locs ls hP hO hS hl => va_new C.1.1 C.1.2.1 C.1.2.2.2.2 hin ty hty C.1.2.2.2.1 (C.1.2.2.2.2 _ h1) (C.1.2.2.2.2 _ h2) (C.1.2.2.2.2 _ h3) C.2.1 hP hO hS hA hc hfs hcells hslots hdg (fun q H1 hP1 hD1 hS1 => kk q H1 locs ls hP1 hD1 hS1 hl)
theorem k_newa (C : fC p m c cc nL s args Ts own D tys E A) (hA : ∀ q, s.heap.size ≤ q → A q) {atype : ArrayType} {ty : FieldType} (harr : Cond.arrayClass (newarray.typeOf atype) ∈ Ts) (hty : newarray.typeOf atype = ty) (t0 : Nat) {cA : ClassId} (ht : tys[t0]? = some (cA, ty)) (hty2 : ∀ C : String, ty ≠ .object C) {N : Nat} {a0 : vp_A} (ha : vp_cell cA a0 = arrV cA N (fun _ => defaultValue ty)) (hN : (N : Int) ≤ 2147483647) (hbytes : N * componentBytes ty ≤ 536870912) (hcells : cells + 1 ≤ R.cells) (hslots : slots + N ≤ R.slots) (hdg : decode cc pc = .ok (.newarray atype, 2))
    (kk : ∀ q : Nat, kV D A nL p l e R s m args below meth c (cells + 1) (slots + N) Q (ws ++ [(q, .inl (cA, a0))]) (pc + 2) lv (.ref q :: rest)) : kV D A nL p l e R s m args below meth c cells slots Q ws pc lv (.int (zI (N : Int)) :: rest) := by
  subst hty
  intro H locs ls hP hO hS hl
  refine va_newaK C.1.1 C.1.2.1 (C.1.2.2.2.2 _ harr) (N := N) rfl hdg rfl (fun h => by rw [show (0 : Int32) = zI 0 from rfl, zI_lt ⟨by omega, by omega⟩ ⟨by decide, by decide⟩] at h; omega) (by rw [zI_cl (by omega) hN]; omega) hbytes hcells hslots rfl fun H1 cB e1 z1 o1 hAr hNm => ?_
  have hRA := (C.2.1.2 t0 _ ht).2
  have hcc : cB = cA := by
    have h2 : s.vm.findClass ("[" ++ (newarray.typeOf atype).toString) = some cA := by
      revert hRA hty2
      cases newarray.typeOf atype <;> intro h2 hRA <;> first | exact hRA | exact absurd rfl (h2 _)
    exact Option.some.inj (hNm.symm.trans h2)
  subst hcc
  have hk : ∀ (k : Nat) (x : Nat × va_E), ws[k]? = some x → H1[x.1]? = H[x.1]? := fun k x hx => o1 x.1 ((hP k x hx).lt)
  refine kk H.size H1 locs ls ((va_P.kept hP hk).app (fun k x hx => ?_)) (va_D.push hO hP rfl (hA _ hS.1)) ⟨Nat.le_trans hS.1 (by omega), fun x h1 h2 => (o1 x (Nat.lt_of_lt_of_le h1 hS.1)).trans (hS.2.1 x h1 h2), hS.2.2⟩ hl
  have hz : k < 1 := (List.getElem?_eq_some_iff.mp hx).1
  rw [show k = 0 by omega] at hx
  cases hx
  show H1[H.size]? = some (vp_cell _ _)
  rw [ha]
  exact e1
theorem k_putF (C : fC p m c cc nL s args Ts own D tys E A) (hnm0 : meth.name = "<init>") {C0 ref : String} {T : u_T} {N ci index b : Nat} {fs : List Value} {v : Value} {ty : FieldType} {u : va_W} (hin : ∀ w ∈ u_ws C0 T N, w ∈ Ts) (ty0 : Nat → FieldType) (hty : ∀ k, k < N → parseFieldDescriptor (T k).2.2.1 = some (ty0 k)) (hnm : ∀ a, a < N → ∀ b, b < N → a ≠ b → (T a).2.1 ≠ (T b).2.1) (q0 k : Nat) (he : ws[q0]? = some (b, .inr (ci, fs))) (hc : vwCl[ci]? = some (C0, T, N)) (hk : k < N) (hl' : Cond.fieldLink own index ref (T k).2.1 (T k).2.2.1 ∈ Ts) (hs : (T k).1 = ref) (hfin : (T k).2.2.2 = true) (hdc : (T k).1 = own) (hd : parseFieldDescriptor (T k).2.2.1 = some ty) (hn : narrow ty v = v) (hfit : fits ty v = true) (hlen : k < fs.length) (hu : ws.set q0 (b, .inr (ci, fs.set k v)) = u) (hdg : decode cc pc = .ok (.putfield index, 3))
    (kk : kV D A nL p l e R s m args below meth c cells slots Q u (pc + 3) lv rest) : kV D A nL p l e R s m args below meth c cells slots Q ws pc lv (v :: .ref b :: rest) := fun H locs ls hP hO hS h => va_putF C.1.1 C.1.2.1 C.1.2.2.2.2 hin ty0 hty hnm C.1.2.2.2.1 C.2.1 hP hO hS q0 he hc k hk (C.1.2.2.2.2 _ hl') (fun x h9 => by rw [← hs]; exact h9) hfin hnm0 hdc hd hn hfit hlen hdg (fun H1 locs1 hP1 hD1 hS1 => kk H1 locs1 ls (hu ▸ hP1) (hu ▸ hD1) hS1 h)
theorem k_vret {post : va_W → Prop} {mc ms : Nat} (C : fC p m c cc nL s args Ts own D tys E A) (hr : meth.sig.returnType = none) (hlk : meth.locks = false) (hdg : decode cc pc = .ok (.return_, 1)) (hp : post ws) : kV D A nL p l e R s m args below meth c mc ms (MQ below (va_Qv (fun u : va_W => post u) (fun u t => va_P D vwCl u t.heap ∧ va_D A u) A) args s mc ms A) ws pc lv [] := fun H locs ls hP hO hS hl => W.vret C.1.1 C.1.2.1 hr (fun t ht hW => ⟨⟨ws, rfl, hp, by rw [ht]; exact hP, hO⟩, hS.F ht⟩) hS.2.2 hdg hlk
variable {y : MethodName} {bytes : ByteArray} {maxL n index : Nat} {wsy : List Cond} {rm : Room} {b : Addr} {As : List Value}
/-- a constructor is called on cells of the world -/
theorem k_callI {w0 wr : va_W} {post : va_W → Prop} {mc ms : Nat} (C : fC p m c cc nL s args Ts own D tys E A) (hA : ∀ q, s.heap.size ≤ q → A q) (hM : kM l y wsy rm D tys (.ref b :: As) w0 post mc ms) (cw : CallB R s args own index y bytes maxL none wsy rm mc ms n ∧ y.name = "<init>" ∧ (Cond.instanceMethod y).before args s = true) (isC isR : List Nat) (hC : isC.map (fun i => ws[i]?) = w0.map some) (hCs : isC.filterMap (fun i => ws[i]?) = w0) (hCn : va_nd isC = true) (hR : isR.map (fun i => ws[i]?) = wr.map some) (hRn : va_nd isR = true) (hdis : ∀ i ∈ isR, i ∉ isC) (hn : As.length = n) {stk : List Value} (hstk : stk = As.reverse ++ .ref b :: rest) (hrm : (rest.map fun v => v.category).sum ≤ 8) (hf : cells + mc ≤ R.cells ∧ slots + ms ≤ R.slots) (hdg : decode cc pc = .ok (.invokespecial index, 3))
    (kk : ∀ u : va_W, post u → kV D A nL p l e R s m args below meth c (cells + mc) (slots + ms) Q (wr ++ u) (pc + 3) lv rest) : kV D A nL p l e R s m args below meth c cells slots Q ws pc lv stk := by
  intro H locs ls hP hO hS hl
  have hPc : va_P D vwCl w0 H := va_P.sub hP isC hCs
  have hDc : va_D A w0 := va_D.sub hO isC hCn hC
  have hFc : ∀ q, va_A w0 H.size q → A q := va_free hO hS hA isC hC
  refine va_callv (A1 := va_A w0 H.size) (va_runI C.1 (hM H.size) cw ⟨fun a U g mk q => by obtain ⟨q0, q1, qP, qK, qD⟩ := q; exact ⟨q0, q1, qP, va_K.moved (u := U) (U := U.calling g mk a) (Vm.Alike.refl U.vm) qK, qD⟩, fun U hU hW => ⟨rfl, by rw [hU], by rw [hU]; exact hPc, va_K.moved hW.alike C.2.1, hDc.weaken (fun _ _ _ _ => trivial)⟩⟩ rfl hn hl.1 hstk (f_room hrm) hdg hf) hS (fun q _ h => hFc q h) hFc ?_
  intro u t H1 locs1 ht hvm hp hB hz hk hS1
  obtain ⟨hP1, hD1⟩ := hB
  rw [ht] at hP1
  obtain ⟨hP2, hD2⟩ := va_join hP hO isC isR hC hR hRn hdis hk hFc hP1 hD1
  exact kk u hp H1 locs1 ls hP2 hD2 hS1 hl
end KR
/-- a row of n places, all 0 -/
abbrev kRow (cJ : ClassId) (n r q : Nat) : va_W := [(r, .inr (5, [.ref q])), (q, .inl (cJ, n, .inr (.inl (fun _ : Nat => zJ 0))))]
set_option maxRecDepth 100000 in
set_option maxHeartbeats 8000000 in
theorem k_Row_init {l : Launch} {D : va_G} {cI cJ cZ cB : ClassId} (h0 n : Nat) (hn : n ≤ 600) : kM l yX5_init wsX5_init { frames := 1, cells := 1, slots := n, locals := 12 } D (fTys cI cJ cZ cB) [.ref h0, .int (zI (n : Int))] [(h0, .inr (5, [.null]))] (fun u => ∃ q, u = kRow cJ n h0 q) 1 n := by
  refine kB_open (cc := cX5_init) (maxL := 2) (by decide) rfl rfl (Nat.le_of_ble_eq_true rfl) ?_
  intro p e s m below meth c A hA hAe C hret hlk hnm0
  have hin5 : ∀ w ∈ u_ws RX5 TX5 1, w ∈ wsX5_init := by decide +kernel
  refine f_aload_n C 0 dX5_init_0 rfl rfl ?_
  refine k_objInit C (by decide +kernel) (by decide +kernel) (by decide +kernel) dX5_init_1 (Nat.le_of_ble_eq_true rfl) (Nat.le_of_ble_eq_true rfl) ?_
  refine f_aload_n C 0 dX5_init_4 rfl rfl ?_
  refine f_iload_n C 1 dX5_init_5 rfl rfl ?_
  refine f_if_ge C 13 ⟨by omega, by omega⟩ dX5_init_6 (by decide) (fun c1 => ?_) (fun c1 => absurd c1 (by omega))
  refine f_iload_n C 1 dX5_init_13 rfl rfl ?_
  refine k_newa C hA (atype := .long) (ty := .long) (N := n) (a0 := (n, .inr (.inl (fun _ : Nat => zJ 0)))) (by decide +kernel) rfl 1 rfl (fun _ h => by cases h) rfl (by omega) (by show n * 8 ≤ 536870912; omega) (Nat.le_refl _) (by show 0 + n ≤ n; omega) dX5_init_14 (fun q => ?_)
  refine k_putF C hnm0 (ty := .array .long) (u := kRow cJ n h0 q) hin5 tyX5 tyX5_ok nmX5 0 0 rfl rfl (Nat.le_of_ble_eq_true rfl) (by decide +kernel) rfl rfl rfl (by decide +kernel) rfl rfl (Nat.le_of_ble_eq_true rfl) rfl dX5_init_16 ?_
  refine k_widen (k := 1) (n := n) (by omega) (by omega) ?_
  exact k_vret C hret hlk dX5_init_19 ⟨q, rfl⟩
