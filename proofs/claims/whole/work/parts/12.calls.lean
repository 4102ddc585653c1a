/-! ===== PART 04: contracts over a state, calls, ends ===== -/
abbrev fPre {σ : Type} (D : va_G) (tys : List (ClassId × FieldType)) (E : State → Prop) (Wd : σ → va_W) (Ok : σ → Prop) (st : σ) : State → Prop := fun U => va_P D vwCl (Wd st) U.heap ∧ va_K D vwCl tys U ∧ E U ∧ Ok st
abbrev fPost {σ : Type} (D : va_G) (Wd : σ → va_W) (Ok : σ → Prop) : σ → State → Prop := fun u t => va_P D vwCl (Wd u) t.heap ∧ Ok u
abbrev fQi {σ : Type} (D : va_G) (Wd : σ → va_W) (Ok : σ → Prop) (A : Nat → Prop) (post : Int → σ → Prop) : Array Value → State → Outcome → State → Prop := va_Qi (fun (r : Int32) (u : σ) => ∃ z : Int, in32 z ∧ r = zI z ∧ post z u) (fPost D Wd Ok) A
abbrev fQl {σ : Type} (D : va_G) (Wd : σ → va_W) (Ok : σ → Prop) (A : Nat → Prop) (post : Int → σ → Prop) : Array Value → State → Outcome → State → Prop := va_Ql (fun (r : Int64) (u : σ) => ∃ z : Int, in64 z ∧ r = zJ z ∧ post z u) (fPost D Wd Ok) A
abbrev fQv {σ : Type} (D : va_G) (Wd : σ → va_W) (Ok : σ → Prop) (A : Nat → Prop) (post : σ → Prop) : Array Value → State → Outcome → State → Prop := va_Qv (fun u : σ => post u) (fPost D Wd Ok) A
def fMi {σ : Type} (l : Launch) (y : MethodName) (ws : List Cond) (rm : Room) (D : va_G) (tys : List (ClassId × FieldType)) (E : State → Prop) (Wd : σ → va_W) (Ok : σ → Prop) (A : Nat → Prop) (av : List Value) (st : σ) (post : Int → σ → Prop) : Prop := Met l y ws rm (va_Pc av (fPre D tys E Wd Ok st)) (fQi D Wd Ok A post) 0 0 A
def fMl {σ : Type} (l : Launch) (y : MethodName) (ws : List Cond) (rm : Room) (D : va_G) (tys : List (ClassId × FieldType)) (E : State → Prop) (Wd : σ → va_W) (Ok : σ → Prop) (A : Nat → Prop) (av : List Value) (st : σ) (post : Int → σ → Prop) : Prop := Met l y ws rm (va_Pc av (fPre D tys E Wd Ok st)) (fQl D Wd Ok A post) 0 0 A
def fMv {σ : Type} (l : Launch) (y : MethodName) (ws : List Cond) (rm : Room) (D : va_G) (tys : List (ClassId × FieldType)) (E : State → Prop) (Wd : σ → va_W) (Ok : σ → Prop) (A : Nat → Prop) (av : List Value) (st : σ) (post : σ → Prop) : Prop := Met l y ws rm (va_Pc av (fPre D tys E Wd Ok st)) (fQv D Wd Ok A post) 0 0 A
abbrev fMQ (below : List Frame) (Qc : Array Value → State → Outcome → State → Prop) (args : Array Value) (s : State) (A : Nat → Prop) : State → Prop := MQ below Qc args s 0 0 A
section FB
variable {σ : Type} {D : va_G} {Wd : σ → va_W} {Ok : σ → Prop} {A : Nat → Prop} {tys : List (ClassId × FieldType)} {E : State → Prop} {l : Launch} {y : MethodName} {ws ws' : List Cond} {rm : Room} {av : List Value} {st : σ} {cc : ByteArray} {maxL : Nat}
theorem fB_open {ret : Option FieldType} {Qc : Array Value → State → Outcome → State → Prop} (hy : plainName y.cls = true) (hw : ws = Cond.code y cc maxL ret :: ws') (hn : (lg_sl av).length ≤ maxL) (hE : fSt A E)
    (body : ∀ (p : Program) (e : Env) (s : State) (m : MethodId) (below : List Frame) (meth : Method) (c : Code), fC p m c cc maxL s av.toArray ws y.cls D tys E A → meth.sig.returnType = ret → meth.locks = false → fV D Wd Ok A maxL p l e rm s m av.toArray below meth c 0 0 (fMQ below Qc av.toArray s A) st 0 (lv_args 0 av) []) :
    Met l y ws rm (va_Pc av (fPre D tys E Wd Ok st)) Qc 0 0 A := by
  refine Met.ofW (cc := cc) (maxL := maxL) (ret := ret) hy hw ?_
  intro p e s m args below meth c s₁ B hml hv
  obtain ⟨rfl, hP, hK, hE1, hO⟩ := hv
  have hts := atoms_spec (ws := ws) B.pre
  have hl := lv_entry av (n := maxL) hn
  rw [lg_entry_eq]
  exact body p e s m below meth c ⟨⟨B.exec, B.bytes, hml, findClass_of_methodNamed B.named, hts⟩, hK, hE1, hE⟩ B.returns B.notSynchronized s.heap [] _ hP hO va_S.rf hl
end FB
section FR
variable {σ : Type} {D : va_G} {Wd : σ → va_W} {Ok : σ → Prop} {A : Nat → Prop} {nL : Nat} {p : Program} {l : Launch} {e : Env} {R : Room} {s : State} {m : MethodId} {args : Array Value} {below : List Frame} {meth : Method} {c : Code}
variable {cc : ByteArray} {Ts : List Cond} {own : String} {tys : List (ClassId × FieldType)} {E : State → Prop} {st : σ} {pc : Nat} {lv : List (Nat × Value)} {rest : List Value}
theorem f_iret {post : Int → σ → Prop} {z : Int} (C : fC p m c cc nL s args Ts own D tys E A) (hr : meth.sig.returnType = some .int) (hlk : meth.locks = false) (hdg : decode cc pc = .ok (.ireturn, 1)) (hz : in32 z) (hp : post z st) : fV D Wd Ok A nL p l e R s m args below meth c 0 0 (fMQ below (fQi D Wd Ok A post) args s A) st pc lv [.int (zI z)] := fun H locs ls hP hO hS hl => W.iret C.1.1 C.1.2.1 hr (fun t ht hW => ⟨⟨zI z, st, rfl, ⟨z, hz, rfl, hp⟩, by rw [ht]; exact hP, hO⟩, hS.F ht⟩) hS.2.2 hdg hlk
theorem f_zret {post : Int → σ → Prop} {z : Int} (C : fC p m c cc nL s args Ts own D tys E A) (hr : meth.sig.returnType = some .boolean) (hlk : meth.locks = false) (hdg : decode cc pc = .ok (.ireturn, 1)) (hz : z = 0 ∨ z = 1) (hp : post z st) : fV D Wd Ok A nL p l e R s m args below meth c 0 0 (fMQ below (fQi D Wd Ok A post) args s A) st pc lv [.int (zI z)] := fun H locs ls hP hO hS hl => W.zret C.1.1 C.1.2.1 hr (by rcases hz with rfl | rfl <;> rfl) (fun t ht hW => ⟨⟨zI z, st, rfl, ⟨z, by rcases hz with rfl | rfl <;> exact ⟨by decide, by decide⟩, rfl, hp⟩, by rw [ht]; exact hP, hO⟩, hS.F ht⟩) hS.2.2 hdg hlk
theorem f_lret {post : Int → σ → Prop} {z : Int} (C : fC p m c cc nL s args Ts own D tys E A) (hr : meth.sig.returnType = some .long) (hlk : meth.locks = false) (hdg : decode cc pc = .ok (.lreturn, 1)) (hz : in64 z) (hp : post z st) : fV D Wd Ok A nL p l e R s m args below meth c 0 0 (fMQ below (fQl D Wd Ok A post) args s A) st pc lv [.long (zJ z)] := fun H locs ls hP hO hS hl => W.lret C.1.1 C.1.2.1 hr (fun t ht hW => ⟨⟨zJ z, st, rfl, ⟨z, hz, rfl, hp⟩, by rw [ht]; exact hP, hO⟩, hS.F ht⟩) hS.2.2 hdg hlk
theorem f_vret {post : σ → Prop} (C : fC p m c cc nL s args Ts own D tys E A) (hr : meth.sig.returnType = none) (hlk : meth.locks = false) (hdg : decode cc pc = .ok (.return_, 1)) (hp : post st) : fV D Wd Ok A nL p l e R s m args below meth c 0 0 (fMQ below (fQv D Wd Ok A post) args s A) st pc lv [] := fun H locs ls hP hO hS hl => W.vret C.1.1 C.1.2.1 hr (fun t ht hW => ⟨⟨st, rfl, hp, by rw [ht]; exact hP, hO⟩, hS.F ht⟩) hS.2.2 hdg hlk
end FR
section FG
variable {σ : Type} {D : va_G} {Wd : σ → va_W} {Ok : σ → Prop} {A : Nat → Prop} {nL : Nat} {p : Program} {l : Launch} {e : Env} {R : Room} {s : State} {m : MethodId} {args : Array Value} {below : List Frame} {meth : Method} {c : Code} {cells slots : Nat} {Q : State → Prop}
variable {cc : ByteArray} {Ts : List Cond} {own : String} {tys : List (ClassId × FieldType)} {E : State → Prop} {st : σ} {pc : Nat} {lv : List (Nat × Value)} {rest : List Value}
/-- a field is read -/
theorem f_get (C : fC p m c cc nL s args Ts own D tys E A) {C0 ref : String} {T : u_T} {N ci index b : Nat} {fs : List Value} {v : Value} (hin : ∀ w ∈ u_ws C0 T N, w ∈ Ts) (q0 k : Nat) (he : (Wd st)[q0]? = some (b, .inr (ci, fs))) (hc : vwCl[ci]? = some (C0, T, N)) (hk : k < N) (hl : Cond.fieldLink own index ref (T k).2.1 (T k).2.2.1 ∈ Ts) (hs : (T k).1 = ref) (hv : fs[k]? = some v) (hdg : decode cc pc = .ok (.getfield index, 3))
    (kk : fV D Wd Ok A nL p l e R s m args below meth c cells slots Q st (pc + 3) lv (v :: rest)) : fV D Wd Ok A nL p l e R s m args below meth c cells slots Q st pc lv (.ref b :: rest) := fun H locs ls hP hO hS h => va_get C.1.1 C.1.2.1 C.1.2.2.2.2 hin C.1.2.2.2.1 C.2.1 hP q0 he hc k hk (C.1.2.2.2.2 _ hl) (fun x h9 => by rw [← hs]; exact h9) hv hdg (kk H locs ls hP hO hS h)
/-- a field is written -/
theorem f_put (C : fC p m c cc nL s args Ts own D tys E A) {C0 ref : String} {T : u_T} {N ci index b : Nat} {fs : List Value} {v : Value} {ty : FieldType} {u : σ} (hDs : ∀ x : σ, va_D A (Wd x)) (hin : ∀ w ∈ u_ws C0 T N, w ∈ Ts) (ty0 : Nat → FieldType) (hty : ∀ k, k < N → parseFieldDescriptor (T k).2.2.1 = some (ty0 k)) (hnm : ∀ a, a < N → ∀ b, b < N → a ≠ b → (T a).2.1 ≠ (T b).2.1) (q0 k : Nat) (he : (Wd st)[q0]? = some (b, .inr (ci, fs))) (hc : vwCl[ci]? = some (C0, T, N)) (hk : k < N) (hl : Cond.fieldLink own index ref (T k).2.1 (T k).2.2.1 ∈ Ts) (hs : (T k).1 = ref) (hfin : (T k).2.2.2 = false) (hd : parseFieldDescriptor (T k).2.2.1 = some ty) (hn : narrow ty v = v) (hfit : fits ty v = true) (hlen : k < fs.length) (hu : (Wd st).set q0 (b, .inr (ci, fs.set k v)) = Wd u) (hok : Ok st → Ok u) (hdg : decode cc pc = .ok (.putfield index, 3))
    (kk : fV D Wd Ok A nL p l e R s m args below meth c cells slots Q u (pc + 3) lv rest) : fV D Wd Ok A nL p l e R s m args below meth c cells slots Q st pc lv (v :: .ref b :: rest) := fun H locs ls hP hO hS h => va_put C.1.1 C.1.2.1 C.1.2.2.2.2 hin ty0 hty hnm C.1.2.2.2.1 C.2.1 hP (hDs st) hS q0 he hc k hk (C.1.2.2.2.2 _ hl) (fun x h9 => by rw [← hs]; exact h9) hfin hd hn hfit hlen hdg (fun H1 locs1 hP1 _ hS1 => kk H1 locs1 ls (hu ▸ hP1) (hok hO) hS1 h)
variable {y : MethodName} {bytes : ByteArray} {maxL n index : Nat} {ws : List Cond} {rm : Room} {Cn : String} {b : Addr} {As : List Value} {u0 : σ}
theorem fPre_blind (D : va_G) (tys : List (ClassId × FieldType)) (E : State → Prop) (Wd : σ → va_W) (Ok : σ → Prop) (st : σ) (av : List Value) (A : Nat → Prop) (hE : fSt A E) : FrameBlind (va_Pc av (fPre D tys E Wd Ok st)) := by
  intro a U g mk q
  obtain ⟨q0, q1, q2, q3, q4⟩ := q
  exact ⟨q0, q1, va_K.moved (u := U) (U := U.calling g mk a) (Vm.Alike.refl U.vm) q2, hE.2 U g mk a q3, q4⟩
theorem f_room {pc : Nat} {ls : Array Slot} {m : MethodId} {st0 rest : List Value} (h : (rest.map fun v => v.category).sum ≤ 8) : 2 * (F0 m pc ls st0).monitorRoom + (rest.map fun v => v.category).sum ≤ 8 := lv_room (rest := st0) (pc := pc) (ls := ls) (m := m) h
theorem f_calli {post : Int → σ → Prop} {ret : Option FieldType} {q : vw_C} {ci : Nat} {fs : List Value} (C : fC p m c cc nL s args Ts own D tys E A) (hM : fMi l y ws rm D tys E Wd Ok A (.ref b :: As) st post) (cw : CallW R s args own Cn index y bytes maxL ret ws rm 0 0 n) (q0 : Nat) (hr : (Wd st)[q0]? = some (b, .inr (ci, fs))) (hq : vwCl[ci]? = some q) (hqn : q.1 = Cn) (hn : As.length = n) {stk : List Value} (hstk : stk = As.reverse ++ .ref b :: rest) (hrm : (rest.map fun v => v.category).sum ≤ 8) (hf : cells ≤ R.cells ∧ slots ≤ R.slots) (hdg : decode cc pc = .ok (.invokevirtual index, 3))
    (kk : ∀ (z : Int) (u : σ), in32 z → post z u → fV D Wd Ok A nL p l e R s m args below meth c cells slots Q u (pc + 3) lv (.int (zI z) :: rest)) : fV D Wd Ok A nL p l e R s m args below meth c cells slots Q st pc lv stk := by
  intro H locs ls hP hO hS hl
  refine va_calli (A1 := A) (va_runV C.1 hM cw ⟨fPre_blind D tys E Wd Ok st _ A C.2.2.2, by rw [← hqn]; exact va_recv C.2.1 hP hq hr, fun U hU hW => ⟨rfl, by rw [hU]; exact hP, va_K.moved hW.alike C.2.1, C.2.2.2.1 s U hW (by rw [hU]; exact hS.1) (by rw [hU]; exact hS.2.1) C.2.2.1, hO⟩⟩ rfl hn hl.1 hstk (f_room hrm) hdg hf) hS (fun _ _ h => h) (fun _ h => h) ?_
  intro r u t H1 locs1 ht hvm hp hB hz hk hS1
  obtain ⟨z, hz1, rfl, hp⟩ := hp
  exact kk z u hz1 hp H1 locs1 ls (by rw [← ht]; exact hB.1) hB.2 hS1 hl
theorem f_calll {post : Int → σ → Prop} {ret : Option FieldType} {q : vw_C} {ci : Nat} {fs : List Value} (C : fC p m c cc nL s args Ts own D tys E A) (hM : fMl l y ws rm D tys E Wd Ok A (.ref b :: As) st post) (cw : CallW R s args own Cn index y bytes maxL ret ws rm 0 0 n) (q0 : Nat) (hr : (Wd st)[q0]? = some (b, .inr (ci, fs))) (hq : vwCl[ci]? = some q) (hqn : q.1 = Cn) (hn : As.length = n) {stk : List Value} (hstk : stk = As.reverse ++ .ref b :: rest) (hrm : (rest.map fun v => v.category).sum ≤ 8) (hf : cells ≤ R.cells ∧ slots ≤ R.slots) (hdg : decode cc pc = .ok (.invokevirtual index, 3))
    (kk : ∀ (z : Int) (u : σ), in64 z → post z u → fV D Wd Ok A nL p l e R s m args below meth c cells slots Q u (pc + 3) lv (.long (zJ z) :: rest)) : fV D Wd Ok A nL p l e R s m args below meth c cells slots Q st pc lv stk := by
  intro H locs ls hP hO hS hl
  refine va_calll (A1 := A) (va_runV C.1 hM cw ⟨fPre_blind D tys E Wd Ok st _ A C.2.2.2, by rw [← hqn]; exact va_recv C.2.1 hP hq hr, fun U hU hW => ⟨rfl, by rw [hU]; exact hP, va_K.moved hW.alike C.2.1, C.2.2.2.1 s U hW (by rw [hU]; exact hS.1) (by rw [hU]; exact hS.2.1) C.2.2.1, hO⟩⟩ rfl hn hl.1 hstk (f_room hrm) hdg hf) hS (fun _ _ h => h) (fun _ h => h) ?_
  intro r u t H1 locs1 ht hvm hp hB hz hk hS1
  obtain ⟨z, hz1, rfl, hp⟩ := hp
  exact kk z u hz1 hp H1 locs1 ls (by rw [← ht]; exact hB.1) hB.2 hS1 hl
theorem f_callv {post : σ → Prop} {ret : Option FieldType} {q : vw_C} {ci : Nat} {fs : List Value} (C : fC p m c cc nL s args Ts own D tys E A) (hM : fMv l y ws rm D tys E Wd Ok A (.ref b :: As) st post) (cw : CallW R s args own Cn index y bytes maxL ret ws rm 0 0 n) (q0 : Nat) (hr : (Wd st)[q0]? = some (b, .inr (ci, fs))) (hq : vwCl[ci]? = some q) (hqn : q.1 = Cn) (hn : As.length = n) {stk : List Value} (hstk : stk = As.reverse ++ .ref b :: rest) (hrm : (rest.map fun v => v.category).sum ≤ 8) (hf : cells ≤ R.cells ∧ slots ≤ R.slots) (hdg : decode cc pc = .ok (.invokevirtual index, 3))
    (kk : ∀ u : σ, post u → fV D Wd Ok A nL p l e R s m args below meth c cells slots Q u (pc + 3) lv rest) : fV D Wd Ok A nL p l e R s m args below meth c cells slots Q st pc lv stk := by
  intro H locs ls hP hO hS hl
  refine va_callv (A1 := A) (va_runV C.1 hM cw ⟨fPre_blind D tys E Wd Ok st _ A C.2.2.2, by rw [← hqn]; exact va_recv C.2.1 hP hq hr, fun U hU hW => ⟨rfl, by rw [hU]; exact hP, va_K.moved hW.alike C.2.1, C.2.2.2.1 s U hW (by rw [hU]; exact hS.1) (by rw [hU]; exact hS.2.1) C.2.2.1, hO⟩⟩ rfl hn hl.1 hstk (f_room hrm) hdg hf) hS (fun _ _ h => h) (fun _ h => h) ?_
  intro u t H1 locs1 ht hvm hp hB hz hk hS1
  exact kk u hp H1 locs1 ls (by rw [← ht]; exact hB.1) hB.2 hS1 hl
/-- a static call that answers an int -/
theorem f_callsi {post : Int → σ → Prop} {ret : Option FieldType} (C : fC p m c cc nL s args Ts own D tys E A) (hM : fMi l y ws rm D tys E Wd Ok A As st post) (cw : CallB R s args own index y bytes maxL ret ws rm 0 0 n ∧ (Cond.static y).before args s = true) (hn : As.length = n) {stk : List Value} (hstk : stk = As.reverse ++ rest) (hrm : (rest.map fun v => v.category).sum ≤ 8) (hf : cells ≤ R.cells ∧ slots ≤ R.slots) (hdg : decode cc pc = .ok (.invokestatic index, 3))
    (kk : ∀ (z : Int) (u : σ), in32 z → post z u → fV D Wd Ok A nL p l e R s m args below meth c cells slots Q u (pc + 3) lv (.int (zI z) :: rest)) : fV D Wd Ok A nL p l e R s m args below meth c cells slots Q st pc lv stk := by
  intro H locs ls hP hO hS hl
  refine va_calli (A1 := A) (va_runS C.1 hM cw ⟨fPre_blind D tys E Wd Ok st _ A C.2.2.2, fun U hU hW => ⟨rfl, by rw [hU]; exact hP, va_K.moved hW.alike C.2.1, C.2.2.2.1 s U hW (by rw [hU]; exact hS.1) (by rw [hU]; exact hS.2.1) C.2.2.1, hO⟩⟩ rfl hn hl.1 hstk (f_room hrm) hdg hf) hS (fun _ _ h => h) (fun _ h => h) ?_
  intro r u t H1 locs1 ht hvm hp hB hz hk hS1
  obtain ⟨z, hz1, rfl, hp⟩ := hp
  exact kk z u hz1 hp H1 locs1 ls (by rw [← ht]; exact hB.1) hB.2 hS1 hl
end FG
