/-! ===== PART 53: the loop of FeeRules() over the months' caps ===== -/
theorem va_P_split {D : va_G} {w1 w2 : va_W} {H : Heap} (h : va_P D vwCl (w1 ++ w2) H) : va_P D vwCl w1 H ∧ va_P D vwCl w2 H := by
  refine ⟨fun k q hk => h k q ?_, fun k q hk => h (w1.length + k) q ?_⟩
  · rw [List.getElem?_append_left (List.getElem?_eq_some_iff.mp hk).1]; exact hk
  · rw [List.getElem?_append_right (by omega), show w1.length + k - w1.length = k by omega]; exact hk
abbrev kW (cJ : ClassId) (n r q : Nat) (f : Int → Int) : va_W := [(r, .inr (5, [.ref q])), (q, .inl (cJ, n, .inr (.inl (fun j : Nat => zJ (f j)))))]
def kA (r q : Nat) : Nat → Prop := fun x => x = r ∨ x = q
theorem kWD {cJ : ClassId} {n r q : Nat} (h : r ≠ q) (f : Int → Int) : va_D (kA r q) (kW cJ n r q f) := by
  refine ⟨fun i j x y hx hy e => ?_, fun k x hx => ?_⟩
  · match i, j, hx, hy with
    | 0, 0, _, _ => rfl
    | 1, 1, _, _ => rfl
    | 0, 1, hx, hy => cases hx; cases hy; exact absurd e h
    | 1, 0, hx, hy => cases hx; cases hy; exact absurd e.symm h
    | i + 2, _, hx, _ => simp at hx
    | _, j + 2, _, hy => simp at hy
  · match k, hx with
    | 0, hx => cases hx; exact Or.inl rfl
    | 1, hx => cases hx; exact Or.inr rfl
    | k + 2, hx => simp at hx
set_option maxRecDepth 100000 in
set_option maxHeartbeats 8000000 in
theorem k_Row_set {l : Launch} {D : va_G} {cI cJ cZ cB : ClassId} (n r q : Nat) (hn : n ≤ 600) (hrq : r ≠ q) (i v : Int) (hi : in32 i) (f : Int → Int) : fMv l yX5_set wsX5_set fr0 D (fTys cI cJ cZ cB) (fun _ => True) (kW cJ n r q) (fun _ => True) (kA r q) [.ref r, .int (zI i), .long (zJ v)] f (fun u => u = rput n f i v) := by
  refine fB_open (cc := cX5_set) (maxL := 4) (ret := none) (by decide) rfl (Nat.le_of_ble_eq_true rfl) (fSt_T _) ?_
  intro p e s m below meth c C hret hlk
  have hin : ∀ w ∈ u_ws RX5 TX5 1, w ∈ wsX5_set := by decide +kernel
  refine f_iload_n C 1 dX5_set_0 rfl rfl ?_
  refine f_if_lt C 20 hi dX5_set_1 (by decide) (fun c1 => ?_) (fun c1 => ?_)
  · exact f_vret C hret hlk dX5_set_20 (rput_out v (by omega)).symm
  refine f_iload_n C 1 dX5_set_4 rfl rfl ?_
  refine f_aload_n C 0 dX5_set_5 rfl rfl ?_
  refine f_get C hin 0 0 rfl rfl (by decide) (by decide +kernel) rfl rfl dX5_set_6 ?_
  refine f_alen C 1 1 rfl rfl dX5_set_9 ?_
  refine f_icmp_ge C 20 hi ⟨by simp only; omega, by simp only; omega⟩ dX5_set_10 (by decide) (fun c2 => ?_) (fun c2 => ?_)
  · exact f_vret C hret hlk dX5_set_20 (rput_out v (by simp only at c2; omega)).symm
  refine f_aload_n C 0 dX5_set_13 rfl rfl ?_
  refine f_get C hin 0 0 rfl rfl (by decide) (by decide +kernel) rfl rfl dX5_set_14 ?_
  refine f_iload_n C 1 dX5_set_17 rfl rfl ?_
  refine f_lload_n C 2 dX5_set_18 rfl rfl ?_
  refine f_last C (kWD hrq) (u := rput n f i v) (f := f) 1 1 rfl rfl (by simp only at c2; omega) (by omega) (by rw [rput_in v (by simp only at c2; omega)]; rfl) (fun h => h) dX5_set_19 ?_
  exact f_vret C hret hlk dX5_set_20 rfl
/-- -1 below k, 0 from there on -/
def capsF (k : Int) : Int → Int := fun j => if 0 ≤ j ∧ j < k then -1 else 0
theorem capsF_0 : capsF 0 = fun _ => 0 := by
  funext j
  exact if_neg (by omega)
theorem capsF_s {k : Int} (h : 0 ≤ k ∧ k < 120) : rput 120 (capsF k) k (-1) = capsF (k + 1) := by
  rw [rput_in _ h]
  funext j
  unfold f_up capsF
  by_cases e : j = k
  · rw [if_pos e, if_pos (by omega)]
  · rw [if_neg e]
    by_cases e2 : 0 ≤ j ∧ j < k
    · rw [if_pos e2, if_pos (by omega)]
    · rw [if_neg e2, if_neg (by omega)]
theorem kw_fst (w : va_W) (cJ : ClassId) (n r q : Nat) (f g : Int → Int) : ∀ (k : Nat) (z : Nat × va_E), (w ++ kW cJ n r q f)[k]? = some z → ∃ z2, (w ++ kW cJ n r q g)[k]? = some z2 ∧ z2.1 = z.1 := by
  intro k z hz
  by_cases hk : k < w.length
  · rw [List.getElem?_append_left hk] at hz ⊢
    exact ⟨z, hz, rfl⟩
  · rw [List.getElem?_append_right (by omega)] at hz ⊢
    match k - w.length, hz with
    | 0, hz => cases hz; exact ⟨_, rfl, rfl⟩
    | 1, hz => cases hz; exact ⟨_, rfl, rfl⟩
    | j + 2, hz => simp at hz
set_option maxRecDepth 100000 in
set_option maxHeartbeats 8000000 in
theorem v_caps {l : Launch} {D : va_G} {cI cJ cZ cB : ClassId} {A : Nat → Prop} {p : Program} {e : Env} {R : Room} {s : State} {m : MethodId} {args : Array Value} {below : List Frame} {meth : Method} {c : Code} {cells slots : Nat} {Q : State → Prop} {E : State → Prop} (C : fC p m c cX8_init 2 s args wsX8_init RX8 D (fTys cI cJ cZ cB) E A) (hR : 1 ≤ R.frames ∧ 23 ≤ R.locals) (hcs : cells ≤ R.cells ∧ slots ≤ R.slots) (h0 r q : Nat) (fs : List Value) (wr : va_W) (hf : fs[6]? = some (.ref r)) (kk : kV D A 2 p l e R s m args below meth c cells slots Q ((h0, .inr (8, fs)) :: wr ++ kW cJ 120 r q (capsF 120)) 116 [(0, .ref h0), (1, .int (zI 120))] []) :
    ∀ (n : Nat) (v1 : Int), 0 ≤ v1 ∧ v1 ≤ 120 → 120 - v1 < n → fV (σ := Int → Int) D (fun f => (h0, .inr (8, fs)) :: wr ++ kW cJ 120 r q f) (fun f => va_D A ((h0, .inr (8, fs)) :: wr ++ kW cJ 120 r q f)) A 2 p l e R s m args below meth c cells slots Q (capsF v1) 93 [(0, .ref h0), (1, .int (zI v1))] [] := by
  have hin8 : ∀ w ∈ u_ws RX8 TX8 8, w ∈ wsX8_init := by decide +kernel
  intro n
  induction n with
  | zero => intro v1 h hm; omega
  | succ n ih =>
    intro v1 h hm
    refine f_ok (fun hO => ?_)
    have hrow : ∀ k, ((h0, (.inr (8, fs) : va_E)) :: wr ++ kW cJ 120 r q (capsF v1))[wr.length + 1 + k]? = (kW cJ 120 r q (capsF v1))[k]? := fun k => by
      rw [List.getElem?_append_right (by simp), List.length_cons, show wr.length + 1 + k - (wr.length + 1) = k by omega]
    have hrq : r ≠ q := fun e1 => by
      have := hO.1 (wr.length + 1 + 0) (wr.length + 1 + 1) _ _ ((hrow 0).trans rfl) ((hrow 1).trans rfl) e1
      omega
    refine f_iload_n C 1 dX8_init_93 rfl rfl ?_
    refine f_bipush C dX8_init_94 (by decide) ?_
    refine f_icmp_ge C 116 ⟨by omega, by omega⟩ ⟨by decide, by decide⟩ dX8_init_96 (by decide) (fun c1 => ?_) (fun c1 => ?_)
    · obtain rfl : v1 = 120 := by omega
      exact fun H locs ls hP hO hS hl => kk H locs ls hP hO hS hl
    refine f_aload_n C 0 dX8_init_99 rfl rfl ?_
    refine f_get C (v := .ref r) hin8 0 6 rfl rfl (by decide) (by decide +kernel) rfl hf dX8_init_100 ?_
    refine f_iload_n C 1 dX8_init_103 rfl rfl ?_
    refine f_ldc2 C (v := (-1)) (z := (-1)) (by decide +kernel) (by decide) dX8_init_104 ?_
    refine f_callv_sub (Wc := kW cJ 120 r q) (Okc := fun _ => True) (A1 := kA r q) (E1 := fun _ => True) C (k_Row_set 120 r q (by decide) hrq v1 (-1) ⟨by omega, by omega⟩ (capsF v1)) (cwV 2 C.1.2.2.2.2 gX8_init_X5_set rfl rfl rfl (by decide +kernel) ⟨by show 0 + 1 ≤ R.frames; omega, by show 8 + (4 + 11) + 0 ≤ R.locals; omega⟩) 0 rfl rfl rfl ((h0, .inr (8, fs)) :: wr) (fun f => f) (fun H hP => va_P_split hP) (fun u H h1 h2 => va_P.app h1 h2) (fun hO k x hx => ?_) (fun x hx => ?_) (fun _ _ => trivial) (fSt_T _) (fun _ => trivial) (fun hO u hu _ => ?_) rfl rfl (Nat.le_of_ble_eq_true rfl) hcs dX8_init_107 (fun u hu => ?_)
    · have hlt : k < ((h0, (.inr (8, fs) : va_E)) :: wr).length := (List.getElem?_eq_some_iff.mp hx).1
      have hx2 : ((h0, (.inr (8, fs) : va_E)) :: wr ++ kW cJ 120 r q (capsF v1))[k]? = some x := by rw [List.getElem?_append_left hlt]; exact hx
      rw [List.length_cons] at hlt
      rintro (e1 | e1)
      · have := hO.1 k (wr.length + 1 + 0) _ _ hx2 ((hrow 0).trans rfl) e1
        omega
      · have := hO.1 k (wr.length + 1 + 1) _ _ hx2 ((hrow 1).trans rfl) e1
        omega
    · rcases hx with rfl | rfl
      · exact hO.2 (wr.length + 1 + 0) _ ((hrow 0).trans rfl)
      · exact hO.2 (wr.length + 1 + 1) _ ((hrow 1).trans rfl)
    · refine ⟨fun i j x y hx hy => ?_, fun k x hx => ?_⟩
      all_goals subst hu
      · have e2 : ∀ (k : Nat) (z : Nat × va_E), ((h0, (.inr (8, fs) : va_E)) :: wr ++ kW cJ 120 r q (rput 120 (capsF v1) v1 (-1)))[k]? = some z → ∃ z2, ((h0, (.inr (8, fs) : va_E)) :: wr ++ kW cJ 120 r q (capsF v1))[k]? = some z2 ∧ z2.1 = z.1 := kw_fst _ _ _ _ _ _ _
        obtain ⟨x2, g1, g2⟩ := e2 i x hx
        obtain ⟨y2, g3, g4⟩ := e2 j y hy
        intro e3
        exact hO.1 i j x2 y2 g1 g3 (by rw [g2, g4, e3])
      · have e2 : ∀ (k : Nat) (z : Nat × va_E), ((h0, (.inr (8, fs) : va_E)) :: wr ++ kW cJ 120 r q (rput 120 (capsF v1) v1 (-1)))[k]? = some z → ∃ z2, ((h0, (.inr (8, fs) : va_E)) :: wr ++ kW cJ 120 r q (capsF v1))[k]? = some z2 ∧ z2.1 = z.1 := kw_fst _ _ _ _ _ _ _
        obtain ⟨x2, g1, g2⟩ := e2 k x hx
        rw [← g2]
        exact hO.2 k x2 g1
    · refine f_st (u := capsF (v1 + 1)) (hu.trans (capsF_s ⟨h.1, by omega⟩)) ?_
      refine f_iinc C (lv' := [(1, .int (zI (v1 + 1))), (0, .ref h0)]) 1 dX8_init_110 rfl (Nat.le_of_ble_eq_true rfl) rfl ?_
      refine f_goto C 93 dX8_init_113 (by decide) ?_
      refine f_re (lv' := [(0, .ref h0), (1, .int (zI (v1 + 1)))]) [1, 0] rfl ?_
      exact ih (v1 + 1) ⟨by omega, by omega⟩ (by omega)
/-! private constructors of nest mates -/
def xN : State → Prop := fun U => ∀ k ∈ ([(11, yX3_init), (18, yX1_init), (25, yX7_init), (32, yX0_init), (48, yX4_init), (70, yX2_init)] : List (Nat × MethodName)), va_Nw (.methodLinkNest RX8 k.1 k.2 "FeeRules") U
theorem xN_st (A : Nat → Prop) : fSt A xN := ⟨fun s U hW _ _ h k hk => (h k hk).warmM hW, fun U g mk a h k hk => (h k hk).same (U := U.calling g mk a) rfl rfl⟩
/-- kM, with something given of the rest -/
def kME (l : Launch) (y : MethodName) (ws : List Cond) (rm : Room) (D : va_G) (tys : List (ClassId × FieldType)) (E : State → Prop) (av : List Value) (w0 : va_W) (post : va_W → Prop) (mc ms : Nat) : Prop := ∀ sz : Nat, Met l y ws rm (va_Pc av (fun U => U.heap.size = sz ∧ va_P D vwCl w0 U.heap ∧ va_K D vwCl tys U ∧ va_D (fun _ => True) w0 ∧ E U)) (va_Qv (fun u : va_W => post u) (fun u t => va_P D vwCl u t.heap ∧ va_D (va_A w0 sz) u) (va_A w0 sz)) mc ms (va_A w0 sz)
theorem kB_openE {D : va_G} {tys : List (ClassId × FieldType)} {E : State → Prop} {l : Launch} {y : MethodName} {ws ws' : List Cond} {rm : Room} {av : List Value} {cc : ByteArray} {maxL : Nat} {w0 : va_W} {post : va_W → Prop} {mc ms : Nat} (hy : plainName y.cls = true) (hyn : y.name = "<init>") (hw : ws = Cond.code y cc maxL none :: ws') (hn : (lg_sl av).length ≤ maxL) (hE : ∀ A, fSt A E)
    (body : ∀ (p : Program) (e : Env) (s : State) (m : MethodId) (below : List Frame) (meth : Method) (c : Code) (A : Nat → Prop), (∀ q, s.heap.size ≤ q → A q) → A = va_A w0 s.heap.size → fC p m c cc maxL s av.toArray ws y.cls D tys E A → meth.sig.returnType = none → meth.locks = false → meth.name = "<init>" → kV D A maxL p l e rm s m av.toArray below meth c 0 0 (MQ below (va_Qv (fun u : va_W => post u) (fun u t => va_P D vwCl u t.heap ∧ va_D A u) A) av.toArray s mc ms A) w0 0 (lv_args 0 av) []) : kME l y ws rm D tys E av w0 post mc ms := by
  intro sz
  refine Met.ofW (cc := cc) (maxL := maxL) (ret := none) hy hw ?_
  intro p e s m args below meth c s₁ B hml hv
  obtain ⟨rfl, hsz, hP, hK, hD0, hE1⟩ := hv
  have hts := atoms_spec (ws := ws) B.pre
  have hl := lv_entry av (n := maxL) hn
  have hin : meth.name = "<init>" := by rw [← hyn]; exact (name_of_methodNamed B.named B.method).1
  subst hsz
  rw [lg_entry_eq]
  exact body p e s m below meth c (va_A w0 s.heap.size) (fun q h => Or.inr h) rfl ⟨⟨B.exec, B.bytes, hml, findClass_of_methodNamed B.named, hts⟩, hK, hE1, hE _⟩ B.returns B.notSynchronized hin s.heap [] _ hP (hD0.self (sz := s.heap.size)) va_S.rf hl
theorem k_callIN {D : va_G} {A : Nat → Prop} {nL : Nat} {p : Program} {l : Launch} {e : Env} {R : Room} {s : State} {m : MethodId} {args : Array Value} {below : List Frame} {meth : Method} {c : Code} {cells slots : Nat} {Q : State → Prop} {cc : ByteArray} {Ts : List Cond} {own host : String} {tys : List (ClassId × FieldType)} {E : State → Prop} {ws : va_W} {pc : Nat} {lv : List (Nat × Value)} {rest : List Value} {y : MethodName} {bytes : ByteArray} {maxL n index : Nat} {wsy : List Cond} {rm : Room} {b : Addr} {As : List Value} {w0 wr : va_W} {post : va_W → Prop} {mc ms : Nat} (C : fC p m c cc nL s args Ts own D tys E A) (hA : ∀ q, s.heap.size ≤ q → A q) (hM : kM l y wsy rm D tys (.ref b :: As) w0 post mc ms) (cw : va_CN R s args own index y host bytes maxL none wsy rm mc ms n ∧ y.name = "<init>" ∧ (Cond.instanceMethod y).before args s = true) (isC isR : List Nat) (hC : isC.map (fun i => ws[i]?) = w0.map some) (hCs : isC.filterMap (fun i => ws[i]?) = w0) (hCn : va_nd isC = true) (hR : isR.map (fun i => ws[i]?) = wr.map some) (hRn : va_nd isR = true) (hdis : ∀ i ∈ isR, i ∉ isC) (hn : As.length = n) {stk : List Value} (hstk : stk = As.reverse ++ .ref b :: rest) (hrm : (rest.map fun v => v.category).sum ≤ 8) (hf : cells + mc ≤ R.cells ∧ slots + ms ≤ R.slots) (hdg : decode cc pc = .ok (.invokespecial index, 3))
    (kk : ∀ u : va_W, post u → kV D A nL p l e R s m args below meth c (cells + mc) (slots + ms) Q (wr ++ u) (pc + 3) lv rest) : kV D A nL p l e R s m args below meth c cells slots Q ws pc lv stk := by
  intro H locs ls hP hO hS hl
  have hPc : va_P D vwCl w0 H := va_P.sub hP isC hCs
  have hDc : va_D A w0 := va_D.sub hO isC hCn hC
  have hFc : ∀ q, va_A w0 H.size q → A q := va_free hO hS hA isC hC
  refine va_callv (A1 := va_A w0 H.size) (va_runIN C.1 (hM H.size) cw ⟨fun a U g mk q => by obtain ⟨q0, q1, qP, qK, qD⟩ := q; exact ⟨q0, q1, qP, va_K.moved (u := U) (U := U.calling g mk a) (Vm.Alike.refl U.vm) qK, qD⟩, fun U hU hW => ⟨rfl, by rw [hU], by rw [hU]; exact hPc, va_K.moved hW.alike C.2.1, hDc.weaken (fun _ _ _ _ => trivial)⟩⟩ rfl hn hl.1 hstk (f_room hrm) hdg hf) hS (fun q _ h => hFc q h) hFc ?_
  intro u t H1 locs1 ht hvm hp hB hz hk hS1
  obtain ⟨hP1, hD1⟩ := hB
  rw [ht] at hP1
  obtain ⟨hP2, hD2⟩ := va_join hP hO isC isR hC hR hRn hdis hk hFc hP1 hD1
  exact kk u hp H1 locs1 ls hP2 hD2 hS1 hl
