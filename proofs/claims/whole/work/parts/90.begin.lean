/-! ===== PART 90: the law begins: a constructor that asks for more; two worlds apart ===== -/
theorem k_callIE {D : va_G} {A : Nat → Prop} {nL : Nat} {p : Program} {l : Launch} {e : Env} {R : Room} {s : State} {m : MethodId} {args : Array Value} {below : List Frame} {meth : Method} {c : Code} {cells slots : Nat} {Q : State → Prop} {cc : ByteArray} {Ts : List Cond} {own : String} {tys : List (ClassId × FieldType)} {E E1 : State → Prop} {ws : va_W} {pc : Nat} {lv : List (Nat × Value)} {rest : List Value} {y : MethodName} {bytes : ByteArray} {maxL n index : Nat} {wsy : List Cond} {rm : Room} {b : Addr} {As : List Value} {w0 wr : va_W} {post : va_W → Prop} {mc ms : Nat} (C : fC p m c cc nL s args Ts own D tys E A) (hA : ∀ q, s.heap.size ≤ q → A q) (hM : kME l y wsy rm D tys E1 (.ref b :: As) w0 post mc ms) (hE1 : ∀ U : State, E U → E1 U) (hst : fSt A E1) (cw : CallB R s args own index y bytes maxL none wsy rm mc ms n ∧ y.name = "<init>" ∧ (Cond.instanceMethod y).before args s = true) (isC isR : List Nat) (hC : isC.map (fun i => ws[i]?) = w0.map some) (hCs : isC.filterMap (fun i => ws[i]?) = w0) (hCn : va_nd isC = true) (hR : isR.map (fun i => ws[i]?) = wr.map some) (hRn : va_nd isR = true) (hdis : ∀ i ∈ isR, i ∉ isC) (hn : As.length = n) {stk : List Value} (hstk : stk = As.reverse ++ .ref b :: rest) (hrm : (rest.map fun v => v.category).sum ≤ 8) (hf : cells + mc ≤ R.cells ∧ slots + ms ≤ R.slots) (hdg : decode cc pc = .ok (.invokespecial index, 3))
    (kk : ∀ u : va_W, post u → kV D A nL p l e R s m args below meth c (cells + mc) (slots + ms) Q (wr ++ u) (pc + 3) lv rest) : kV D A nL p l e R s m args below meth c cells slots Q ws pc lv stk := by
  intro H locs ls hP hO hS hl
  have hPc : va_P D vwCl w0 H := va_P.sub hP isC hCs
  have hDc : va_D A w0 := va_D.sub hO isC hCn hC
  have hFc : ∀ q, va_A w0 H.size q → A q := va_free hO hS hA isC hC
  refine va_callv (A1 := va_A w0 H.size) (va_runI C.1 (hM H.size) cw ⟨fun a U g mk q => by obtain ⟨q0, q1, qP, qK, qD, qE⟩ := q; exact ⟨q0, q1, qP, va_K.moved (u := U) (U := U.calling g mk a) (Vm.Alike.refl U.vm) qK, qD, hst.2 U g mk a qE⟩, fun U hU hW => ⟨rfl, by rw [hU], by rw [hU]; exact hPc, va_K.moved hW.alike C.2.1, hDc.weaken (fun _ _ _ _ => trivial), hE1 U (C.2.2.2.1 s U hW (by rw [hU]; exact hS.1) (by rw [hU]; exact hS.2.1) C.2.2.1)⟩⟩ rfl hn hl.1 hstk (f_room hrm) hdg hf) hS (fun q _ h => hFc q h) hFc ?_
  intro u t H1 locs1 ht hvm hp hB hz hk hS1
  obtain ⟨hP1, hD1⟩ := hB
  rw [ht] at hP1
  obtain ⟨hP2, hD2⟩ := va_join hP hO isC isR hC hR hRn hdis hk hFc hP1 hD1
  exact kk u hp H1 locs1 ls hP2 hD2 hS1 hl
theorem fst_at {w : va_W} {f : Nat → Nat} {n : Nat} (h : w.map Prod.fst = (List.range n).map f) {i : Nat} (hi : i < n) : ∃ q : Nat × va_E, w[i]? = some q ∧ q.1 = f i := by
  have h1 : (w.map Prod.fst)[i]? = some (f i) := by rw [h, List.getElem?_map, List.getElem?_range hi]; rfl
  rw [List.getElem?_map] at h1
  cases h2 : w[i]? with
  | none => rw [h2] at h1; cases h1
  | some q => rw [h2] at h1; exact ⟨q, rfl, Option.some.inj h1⟩
theorem wL_at {cI cJ cZ cB : ClassId} {a b : Nat → Nat} {z : fS × fS} : (∀ i : Nat, i < 66 → ∃ q : Nat × va_E, (wL cI cJ cZ cB a b z)[i]? = some q ∧ q.1 = a i) ∧ ∀ j : Nat, j < 35 → ∃ q : Nat × va_E, (wL cI cJ cZ cB a b z)[66 + j]? = some q ∧ q.1 = b j := by
  have hl : (wX cJ a z.1).length = 66 := by
    have := congrArg List.length (wX_fst cJ a z.1)
    simpa using this
  refine ⟨fun i hi => ?_, fun j hj => ?_⟩
  · obtain ⟨q, h1, h2⟩ := fst_at (wX_fst cJ a z.1) hi
    exact ⟨q, by rw [List.getElem?_append_left (by omega)]; exact h1, h2⟩
  · obtain ⟨q, h1, h2⟩ := fst_at (wM_fst cI cJ cZ cB b z.2) hj
    exact ⟨q, by rw [List.getElem?_append_right (by omega), hl, show 66 + j - 66 = j by omega]; exact h1, h2⟩
theorem lG_of {cI cJ cZ cB : ClassId} {a b : Nat → Nat} {z : fS × fS} {A : Nat → Prop} {E : State → Prop} {adK adV : Nat → Nat} {fv : Option Nat} (hD : va_D A (wL cI cJ cZ cB a b z)) (hE : ∀ U : State, E U → xE adK adV fv A U) (hnar : ∀ U : State, xE adK adV fv A U → (∀ q, xA a q → A q) → xE adK adV fv (xA a) U) : lG a b A E adK adV fv := by
  have h1 := (wL_at (cI := cI) (cJ := cJ) (cZ := cZ) (cB := cB) (a := a) (b := b) (z := z)).1
  have h2 := (wL_at (cI := cI) (cJ := cJ) (cZ := cZ) (cB := cB) (a := a) (b := b) (z := z)).2
  have ha : ∀ i : Nat, i < 66 → A (a i) := fun i hi => by
    obtain ⟨q, g1, g2⟩ := h1 i hi
    rw [← g2]; exact hD.2 i q g1
  refine ⟨fun i j hi hj h => ?_, fun i j hi hj h => ?_, fun i j hi hj h => ?_, ha, fun j hj => ?_, fun U hU => hnar U (hE U hU) (fun q hq => ?_)⟩
  · obtain ⟨q, g1, g2⟩ := h1 i hi
    obtain ⟨r, g3, g4⟩ := h1 j hj
    exact hD.1 i j q r g1 g3 (by rw [g2, g4, h])
  · obtain ⟨q, g1, g2⟩ := h2 i hi
    obtain ⟨r, g3, g4⟩ := h2 j hj
    have := hD.1 (66 + i) (66 + j) q r g1 g3 (by rw [g2, g4, h])
    omega
  · obtain ⟨q, g1, g2⟩ := h1 i hi
    obtain ⟨r, g3, g4⟩ := h2 j hj
    have := hD.1 i (66 + j) q r g1 g3 (by rw [g2, g4, h])
    omega
  · obtain ⟨r, g3, g4⟩ := h2 j hj
    rw [← g4]; exact hD.2 _ r g3
  · obtain ⟨i, i1, i2⟩ := hq
    rw [i2]; exact ha i i1
theorem xE_narrow {adK adV : Nat → Nat} {fv : Option Nat} {A B : Nat → Prop} {U : State} (h : xE adK adV fv A U) (hAB : ∀ q, B q → A q) : xE adK adV fv B U := ⟨h.1.narrow hAB, h.2.1, h.2.2.1.narrow hAB, h.2.2.2.narrow hAB⟩
