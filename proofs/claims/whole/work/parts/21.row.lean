/-! ===== PART 21: arrays under a walk's goal; Row.get and Row.set ===== -/
section FA
variable {σ : Type} {D : va_G} {Wd : σ → va_W} {Ok : σ → Prop} {A : Nat → Prop} {nL : Nat} {p : Program} {l : Launch} {e : Env} {R : Room} {s : State} {m : MethodId} {args : Array Value} {below : List Frame} {meth : Method} {c : Code} {cells slots : Nat} {Q : State → Prop}
variable {cc : ByteArray} {Ts : List Cond} {own : String} {tys : List (ClassId × FieldType)} {E : State → Prop} {st : σ} {pc : Nat} {lv : List (Nat × Value)} {rest : List Value} {b n : Nat} {cA : ClassId} {f : Int → Int} {i v : Int}
theorem f_toNat {i : Int} {n : Nat} (h : 0 ≤ i ∧ i < n) (hn : n ≤ 2147483648) : ((zI i).toNatClampNeg : Int) = i := by rw [zI_cl h.1 (by omega)]; exact Int.toNat_of_nonneg h.1
theorem f_lald (C : fC p m c cc nL s args Ts own D tys E A) (q0 t0 : Nat) (ha : (Wd st)[q0]? = some (b, .inl (cA, n, .inr (.inl (fun j : Nat => zJ (f j)))))) (ht : tys[t0]? = some (cA, .long)) (hi : 0 ≤ i ∧ i < n) (hn : n ≤ 2147483648) (hdg : decode cc pc = .ok (.laload, 1)) (k : fV D Wd Ok A nL p l e R s m args below meth c cells slots Q st (pc + 1) lv (.long (zJ (f i)) :: rest)) : fV D Wd Ok A nL p l e R s m args below meth c cells slots Q st pc lv (.int (zI i) :: .ref b :: rest) := by
  intro H locs ls hP hO hS hl
  refine va_lald C.1.1 C.1.2.1 C.2.1 hP q0 t0 ha ht (zI_in hi (by omega)) hdg ?_
  rw [f_toNat hi hn]
  exact k H locs ls hP hO hS hl
theorem f_iald (C : fC p m c cc nL s args Ts own D tys E A) (q0 t0 : Nat) (ha : (Wd st)[q0]? = some (b, .inl (cA, n, .inl (fun j : Nat => zI (f j))))) (ht : tys[t0]? = some (cA, .int)) (hi : 0 ≤ i ∧ i < n) (hn : n ≤ 2147483648) (hdg : decode cc pc = .ok (.iaload, 1)) (k : fV D Wd Ok A nL p l e R s m args below meth c cells slots Q st (pc + 1) lv (.int (zI (f i)) :: rest)) : fV D Wd Ok A nL p l e R s m args below meth c cells slots Q st pc lv (.int (zI i) :: .ref b :: rest) := by
  intro H locs ls hP hO hS hl
  refine va_iald C.1.1 C.1.2.1 C.2.1 hP q0 t0 ha ht (zI_in hi (by omega)) hdg ?_
  rw [f_toNat hi hn]
  exact k H locs ls hP hO hS hl
theorem f_zald (C : fC p m c cc nL s args Ts own D tys E A) (q0 t0 : Nat) (ha : (Wd st)[q0]? = some (b, .inl (cA, n, .inl (fun j : Nat => zI (f j))))) (ht : tys[t0]? = some (cA, .boolean)) (hi : 0 ≤ i ∧ i < n) (hn : n ≤ 2147483648) (hdg : decode cc pc = .ok (.baload, 1)) (k : fV D Wd Ok A nL p l e R s m args below meth c cells slots Q st (pc + 1) lv (.int (zI (f i)) :: rest)) : fV D Wd Ok A nL p l e R s m args below meth c cells slots Q st pc lv (.int (zI i) :: .ref b :: rest) := by
  intro H locs ls hP hO hS hl
  refine va_zald C.1.1 C.1.2.1 C.2.1 hP q0 t0 ha ht (zI_in hi (by omega)) hdg ?_
  rw [f_toNat hi hn]
  exact k H locs ls hP hO hS hl
theorem f_bald (C : fC p m c cc nL s args Ts own D tys E A) (q0 t0 : Nat) (ha : (Wd st)[q0]? = some (b, .inl (cA, n, .inl (fun j : Nat => zI (f j))))) (ht : tys[t0]? = some (cA, .byte)) (hi : 0 ≤ i ∧ i < n) (hn : n ≤ 2147483648) (hdg : decode cc pc = .ok (.baload, 1)) (k : fV D Wd Ok A nL p l e R s m args below meth c cells slots Q st (pc + 1) lv (.int (zI (f i)) :: rest)) : fV D Wd Ok A nL p l e R s m args below meth c cells slots Q st pc lv (.int (zI i) :: .ref b :: rest) := by
  intro H locs ls hP hO hS hl
  refine va_bald C.1.1 C.1.2.1 C.2.1 hP q0 t0 ha ht (zI_in hi (by omega)) hdg ?_
  rw [f_toNat hi hn]
  exact k H locs ls hP hO hS hl
theorem f_alen (C : fC p m c cc nL s args Ts own D tys E A) (q0 t0 : Nat) {x : vp_A} {ty : FieldType} (ha : (Wd st)[q0]? = some (b, .inl (cA, x))) (ht : tys[t0]? = some (cA, ty)) (hdg : decode cc pc = .ok (.arraylength, 1)) (k : fV D Wd Ok A nL p l e R s m args below meth c cells slots Q st (pc + 1) lv (.int (zI (x.1 : Int)) :: rest)) : fV D Wd Ok A nL p l e R s m args below meth c cells slots Q st pc lv (.ref b :: rest) := fun H locs ls hP hO hS hl => va_alen C.1.1 C.1.2.1 C.2.1 hP q0 t0 ha ht (v := zI (x.1 : Int)) (Int32.ofInt_eq_ofNat).symm hdg (k H locs ls hP hO hS hl)
theorem f_last (C : fC p m c cc nL s args Ts own D tys E A) (hDs : ∀ x : σ, va_D A (Wd x)) {u : σ} (q0 t0 : Nat) (ha : (Wd st)[q0]? = some (b, .inl (cA, n, .inr (.inl (fun j : Nat => zJ (f j)))))) (ht : tys[t0]? = some (cA, .long)) (hi : 0 ≤ i ∧ i < n) (hn : n ≤ 2147483648) (hu : (Wd st).set q0 (b, .inl (cA, n, .inr (.inl (fun j : Nat => zJ (f_up f i v j))))) = Wd u) (hok : Ok st → Ok u) (hdg : decode cc pc = .ok (.lastore, 1)) (k : fV D Wd Ok A nL p l e R s m args below meth c cells slots Q u (pc + 1) lv rest) : fV D Wd Ok A nL p l e R s m args below meth c cells slots Q st pc lv (.long (zJ v) :: .int (zI i) :: .ref b :: rest) := by
  intro H locs ls hP hO hS hl
  refine va_last C.1.1 C.1.2.1 C.2.1 hP (hDs st) hS q0 t0 ha ht (zI_in hi (by omega)) hdg (fun H1 locs1 hP1 _ hS1 => ?_)
  rw [f_upJ f ⟨hi.1, by omega⟩, hu] at hP1
  exact k H1 locs1 ls hP1 (hok hO) hS1 hl
theorem f_iast (C : fC p m c cc nL s args Ts own D tys E A) (hDs : ∀ x : σ, va_D A (Wd x)) {u : σ} (q0 t0 : Nat) (ha : (Wd st)[q0]? = some (b, .inl (cA, n, .inl (fun j : Nat => zI (f j))))) (ht : tys[t0]? = some (cA, .int)) (hi : 0 ≤ i ∧ i < n) (hn : n ≤ 2147483648) (hu : (Wd st).set q0 (b, .inl (cA, n, .inl (fun j : Nat => zI (f_up f i v j)))) = Wd u) (hok : Ok st → Ok u) (hdg : decode cc pc = .ok (.iastore, 1)) (k : fV D Wd Ok A nL p l e R s m args below meth c cells slots Q u (pc + 1) lv rest) : fV D Wd Ok A nL p l e R s m args below meth c cells slots Q st pc lv (.int (zI v) :: .int (zI i) :: .ref b :: rest) := by
  intro H locs ls hP hO hS hl
  refine va_iast C.1.1 C.1.2.1 C.2.1 hP (hDs st) hS q0 t0 ha ht (zI_in hi (by omega)) hdg (fun H1 locs1 hP1 _ hS1 => ?_)
  rw [f_upI f ⟨hi.1, by omega⟩, hu] at hP1
  exact k H1 locs1 ls hP1 (hok hO) hS1 hl
theorem f_bast (C : fC p m c cc nL s args Ts own D tys E A) (hDs : ∀ x : σ, va_D A (Wd x)) {u : σ} (q0 t0 : Nat) (ha : (Wd st)[q0]? = some (b, .inl (cA, n, .inl (fun j : Nat => zI (f j))))) (ht : tys[t0]? = some (cA, .byte)) (hi : 0 ≤ i ∧ i < n) (hn : n ≤ 2147483648) (hv : -128 ≤ v ∧ v ≤ 127) (hu : (Wd st).set q0 (b, .inl (cA, n, .inl (fun j : Nat => zI (f_up f i v j)))) = Wd u) (hok : Ok st → Ok u) (hdg : decode cc pc = .ok (.bastore, 1)) (k : fV D Wd Ok A nL p l e R s m args below meth c cells slots Q u (pc + 1) lv rest) : fV D Wd Ok A nL p l e R s m args below meth c cells slots Q st pc lv (.int (zI v) :: .int (zI i) :: .ref b :: rest) := by
  intro H locs ls hP hO hS hl
  refine va_bast C.1.1 C.1.2.1 C.2.1 hP (hDs st) hS q0 t0 ha ht (zI_in hi (by omega)) hdg (fun H1 locs1 hP1 _ hS1 => ?_)
  rw [show vp_nar .byte (zI v) = zI v from zI_b hv, f_upI f ⟨hi.1, by omega⟩, hu] at hP1
  exact k H1 locs1 ls hP1 (hok hO) hS1 hl
theorem f_zast (C : fC p m c cc nL s args Ts own D tys E A) (hDs : ∀ x : σ, va_D A (Wd x)) {u : σ} (q0 t0 : Nat) (ha : (Wd st)[q0]? = some (b, .inl (cA, n, .inl (fun j : Nat => zI (f j))))) (ht : tys[t0]? = some (cA, .boolean)) (hi : 0 ≤ i ∧ i < n) (hn : n ≤ 2147483648) (hv : v = 0 ∨ v = 1) (hu : (Wd st).set q0 (b, .inl (cA, n, .inl (fun j : Nat => zI (f_up f i v j)))) = Wd u) (hok : Ok st → Ok u) (hdg : decode cc pc = .ok (.bastore, 1)) (k : fV D Wd Ok A nL p l e R s m args below meth c cells slots Q u (pc + 1) lv rest) : fV D Wd Ok A nL p l e R s m args below meth c cells slots Q st pc lv (.int (zI v) :: .int (zI i) :: .ref b :: rest) := by
  intro H locs ls hP hO hS hl
  refine va_zast C.1.1 C.1.2.1 C.2.1 hP (hDs st) hS q0 t0 ha ht (zI_in hi (by omega)) hdg (fun H1 locs1 hP1 _ hS1 => ?_)
  rw [show vp_nar .boolean (zI v) = zI v by rcases hv with rfl | rfl <;> rfl, f_upI f ⟨hi.1, by omega⟩, hu] at hP1
  exact k H1 locs1 ls hP1 (hok hO) hS1 hl
theorem f_tabIn (C : fC p m c cc nL s args Ts own D tys E A) {d lo hi off : Int} {offs : Array Int} {len : Nat} {x : Int} (tgt : Nat) (w : Int) (hx : x = w) (hw : in32 w) (h1 : lo ≤ w) (h2 : w ≤ hi) (ho : offs[(w - lo).toNat]? = some off) (ht : (pc : Int) + off = (tgt : Int)) (hdg : decode cc pc = .ok (.tableswitch d lo hi offs, len)) (k : fV D Wd Ok A nL p l e R s m args below meth c cells slots Q st tgt lv rest) : fV D Wd Ok A nL p l e R s m args below meth c cells slots Q st pc lv (.int (zI x) :: rest) := by
  subst hx
  intro H locs ls hP hO hS hl
  exact lv_tableIn C.1.1 C.1.2.1 hdg (by rw [zI_t hw]; omega) (by rw [zI_t hw]; omega) (by rw [zI_t hw]; exact ho) ht (k H locs ls hP hO hS hl)
theorem f_tabOut (C : fC p m c cc nL s args Ts own D tys E A) {d lo hi : Int} {offs : Array Int} {len : Nat} {x : Int} (tgt : Nat) (hw : in32 x) (h : x < lo ∨ hi < x) (ht : (pc : Int) + d = (tgt : Int)) (hdg : decode cc pc = .ok (.tableswitch d lo hi offs, len)) (k : fV D Wd Ok A nL p l e R s m args below meth c cells slots Q st tgt lv rest) : fV D Wd Ok A nL p l e R s m args below meth c cells slots Q st pc lv (.int (zI x) :: rest) := by
  intro H locs ls hP hO hS hl
  exact lv_tableOut C.1.1 C.1.2.1 hdg (by rw [zI_t hw]; exact h) ht (k H locs ls hP hO hS hl)
end FA
abbrev fTys (cI cJ cZ cB : ClassId) : List (ClassId × FieldType) := [(cI, .int), (cJ, .long), (cZ, .boolean), (cB, .byte)]
section XM
variable (l : Launch) (D : va_G) (cI cJ cZ cB : ClassId) (a : Nat → Nat) (E : State → Prop)
abbrev xMi (y : MethodName) (ws : List Cond) (rm : Room) (av : List Value) (st : fS) (post : Int → fS → Prop) : Prop := fMi l y ws rm D (fTys cI cJ cZ cB) E (wX cJ a) xOk (xA a) av st post
abbrev xMl (y : MethodName) (ws : List Cond) (rm : Room) (av : List Value) (st : fS) (post : Int → fS → Prop) : Prop := fMl l y ws rm D (fTys cI cJ cZ cB) E (wX cJ a) xOk (xA a) av st post
abbrev xMv (y : MethodName) (ws : List Cond) (rm : Room) (av : List Value) (st : fS) (post : fS → Prop) : Prop := fMv l y ws rm D (fTys cI cJ cZ cB) E (wX cJ a) xOk (xA a) av st post
end XM
/-- the class's addresses are apart, what is given of the rest stays -/
abbrev xHyp (a : Nat → Nat) (E : State → Prop) : Prop := xInj a ∧ fSt (xA a) E
abbrev fr0 : Room := { frames := 0, cells := 0, slots := 0, locals := 0 }
set_option maxRecDepth 100000 in
set_option maxHeartbeats 4000000 in
theorem c_Row_get {l : Launch} {D : va_G} {cI cJ cZ cB : ClassId} {a : Nat → Nat} {E : State → Prop} (hX : xHyp a E) (r : Nat) (hr : r < 29) (i : Int) (hi : in32 i) (st : fS) : xMl l D cI cJ cZ cB a E yX5_get wsX5_get fr0 [.ref (a (8 + r)), .int (zI i)] st (fun z u => z = rget (xLen r) (st.2 r) i ∧ u = st) := by
  refine fB_open (cc := cX5_get) (maxL := 2) (ret := some .long) (by decide) rfl (Nat.le_of_ble_eq_true rfl) hX.2 ?_
  intro p e s m below meth c C hret hlk
  have hin : ∀ w ∈ u_ws RX5 TX5 1, w ∈ wsX5_get := by decide +kernel
  have hxl := xLen_le r
  refine f_ok (fun hO => ?_)
  refine f_iload_n C 1 dX5_get_0 rfl rfl ?_
  refine f_if_lt C 22 hi dX5_get_1 (by decide) (fun c1 => ?_) (fun c1 => ?_)
  · refine f_lconst C (z := 0) dX5_get_22 rfl ?_
    exact f_lret C hret hlk dX5_get_23 ⟨by decide, by decide⟩ ⟨(rget_out (by omega)).symm, rfl⟩
  refine f_iload_n C 1 dX5_get_4 rfl rfl ?_
  refine f_aload_n C 0 dX5_get_5 rfl rfl ?_
  refine f_get C hin (8 + r) 0 (wX_row cJ a st hr) rfl (by decide) (by decide +kernel) rfl rfl dX5_get_6 ?_
  refine f_alen C (37 + r) 1 (wX_arr cJ a st hr) rfl dX5_get_9 ?_
  refine f_icmp_ge C 22 hi ⟨by simp only; omega, by simp only; omega⟩ dX5_get_10 (by decide) (fun c2 => ?_) (fun c2 => ?_)
  · refine f_lconst C (z := 0) dX5_get_22 rfl ?_
    exact f_lret C hret hlk dX5_get_23 ⟨by decide, by decide⟩ ⟨(rget_out (by simp only at c2; omega)).symm, rfl⟩
  refine f_aload_n C 0 dX5_get_13 rfl rfl ?_
  refine f_get C hin (8 + r) 0 (wX_row cJ a st hr) rfl (by decide) (by decide +kernel) rfl rfl dX5_get_14 ?_
  refine f_iload_n C 1 dX5_get_17 rfl rfl ?_
  refine f_lald C (37 + r) 1 (wX_arr cJ a st hr) rfl (by simp only at c2; omega) (by omega) dX5_get_18 ?_
  refine f_goto C 23 dX5_get_19 (by decide) ?_
  refine f_lret C hret hlk dX5_get_23 ?_ ⟨(rget_in (by simp only at c2; omega)).symm, rfl⟩
  have h1 := hO.2 r i
  have h2 := xRg_0 r
  exact ⟨by omega, by omega⟩
set_option maxRecDepth 100000 in
set_option maxHeartbeats 4000000 in
theorem c_Row_set {l : Launch} {D : va_G} {cI cJ cZ cB : ClassId} {a : Nat → Nat} {E : State → Prop} (hX : xHyp a E) (r : Nat) (hr : r < 29) (i v : Int) (hi : in32 i) (hv : (xRg r).1 ≤ v ∧ v ≤ (xRg r).2) (st : fS) : xMv l D cI cJ cZ cB a E yX5_set wsX5_set fr0 [.ref (a (8 + r)), .int (zI i), .long (zJ v)] st (fun u => u = rset st r i v) := by
  refine fB_open (cc := cX5_set) (maxL := 4) (ret := none) (by decide) rfl (Nat.le_of_ble_eq_true rfl) hX.2 ?_
  intro p e s m below meth c C hret hlk
  have hin : ∀ w ∈ u_ws RX5 TX5 1, w ∈ wsX5_set := by decide +kernel
  have hxl := xLen_le r
  refine f_iload_n C 1 dX5_set_0 rfl rfl ?_
  refine f_if_lt C 20 hi dX5_set_1 (by decide) (fun c1 => ?_) (fun c1 => ?_)
  · exact f_vret C hret hlk dX5_set_20 (by unfold rset; rw [rput_out v (by omega), sR_id])
  refine f_iload_n C 1 dX5_set_4 rfl rfl ?_
  refine f_aload_n C 0 dX5_set_5 rfl rfl ?_
  refine f_get C hin (8 + r) 0 (wX_row cJ a st hr) rfl (by decide) (by decide +kernel) rfl rfl dX5_set_6 ?_
  refine f_alen C (37 + r) 1 (wX_arr cJ a st hr) rfl dX5_set_9 ?_
  refine f_icmp_ge C 20 hi ⟨by simp only; omega, by simp only; omega⟩ dX5_set_10 (by decide) (fun c2 => ?_) (fun c2 => ?_)
  · exact f_vret C hret hlk dX5_set_20 (by unfold rset; rw [rput_out v (by simp only at c2; omega), sR_id])
  refine f_aload_n C 0 dX5_set_13 rfl rfl ?_
  refine f_get C hin (8 + r) 0 (wX_row cJ a st hr) rfl (by decide) (by decide +kernel) rfl rfl dX5_set_14 ?_
  refine f_iload_n C 1 dX5_set_17 rfl rfl ?_
  refine f_lload_n C 2 dX5_set_18 rfl rfl ?_
  refine f_last C (xD hX.1 cJ) (u := rset st r i v) (37 + r) 1 (wX_arr cJ a st hr) rfl (by simp only at c2; omega) (by omega) (by rw [wX_set cJ a st hr]; unfold rset; rw [rput_in v (by simp only at c2; omega)]) (fun h => fOk_set h hv) dX5_set_19 ?_
  exact f_vret C hret hlk dX5_set_20 rfl
