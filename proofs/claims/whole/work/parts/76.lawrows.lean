/-! ===== PART 76: the law's own rows ===== -/
def sc (xs : Nat → Int32) (i : Int) : Int := (xs (zI i).toNatClampNeg).toInt
theorem sc_in (xs : Nat → Int32) (i : Int) : in32 (sc xs i) := by
  unfold sc
  have h1 := (xs (zI i).toNatClampNeg).le_toInt
  have h2 := (xs (zI i).toNatClampNeg).toInt_lt
  exact ⟨by omega, by omega⟩
theorem sc_z (xs : Nat → Int32) (i : Int) : xs (zI i).toNatClampNeg = zI (sc xs i) := (Int32.ofInt_toInt _).symm
theorem zJ_z (x : Int64) : x = zJ x.toInt := (Int64.ofInt_toInt x).symm
theorem zJ_b (x : Int64) : in64 x.toInt := by
  have h1 := x.le_toInt
  have h2 := x.toInt_lt
  exact ⟨by omega, by omega⟩
theorem zI_z (x : Int32) : x = zI x.toInt := (Int32.ofInt_toInt x).symm
theorem zI_bb (x : Int32) : in32 x.toInt := by
  have h1 := x.le_toInt
  have h2 := x.toInt_lt
  exact ⟨by omega, by omega⟩
def shlJ (a : Int) : Int := (zJ a <<< ((zI 32).toInt64 &&& 63)).toInt
def landJ (a b : Int) : Int := (zJ a &&& zJ b).toInt
def lorJ (a b : Int) : Int := (zJ a ||| zJ b).toInt
def andI (a b : Int) : Int := (zI a &&& zI b).toInt
section LR
variable {σ : Type} {D : va_G} {Wd : σ → va_W} {Ok : σ → Prop} {A : Nat → Prop} {nL : Nat} {p : Program} {l : Launch} {e : Env} {R : Room} {s : State} {m : MethodId} {args : Array Value} {below : List Frame} {meth : Method} {c : Code} {cells slots : Nat} {Q : State → Prop}
variable {cc : ByteArray} {Ts : List Cond} {own : String} {tys : List (ClassId × FieldType)} {E : State → Prop} {st : σ} {pc : Nat} {lv : List (Nat × Value)} {rest : List Value}
theorem f_sld (C : fC p m c cc nL s args Ts own D tys E A) {b L : Nat} {xs : Nat → Int32} (hX : va_X b L xs s s.heap) (hbl : b < s.heap.size) (hbA : ¬ A b) {i : Int} (hi : 0 ≤ i ∧ i < L) (hL : (L : Int) ≤ 2147483648) (hdg : decode cc pc = .ok (.iaload, 1)) (k : fV D Wd Ok A nL p l e R s m args below meth c cells slots Q st (pc + 1) lv (.int (zI (sc xs i)) :: rest)) : fV D Wd Ok A nL p l e R s m args below meth c cells slots Q st pc lv (.int (zI i) :: .ref b :: rest) := fun H locs ls hP hO hS hl => va_sld C.1.1 C.1.2.1 hX hbl hbA hS (zI_in hi hL) hdg (by rw [sc_z xs i]; exact k H locs ls hP hO hS hl)
theorem f_slen (C : fC p m c cc nL s args Ts own D tys E A) {b L : Nat} {xs : Nat → Int32} (hX : va_X b L xs s s.heap) (hbl : b < s.heap.size) (hbA : ¬ A b) (hdg : decode cc pc = .ok (.arraylength, 1)) (k : fV D Wd Ok A nL p l e R s m args below meth c cells slots Q st (pc + 1) lv (.int (zI (L : Int)) :: rest)) : fV D Wd Ok A nL p l e R s m args below meth c cells slots Q st pc lv (.ref b :: rest) := fun H locs ls hP hO hS hl => va_slen C.1.1 C.1.2.1 hX hbl hbA hS hdg (by rw [← Int32.ofInt_eq_ofNat]; exact k H locs ls hP hO hS hl)
theorem f_lshl (C : fC p m c cc nL s args Ts own D tys E A) {x : Int} (hdg : decode cc pc = .ok (.lshl, 1)) (k : fV D Wd Ok A nL p l e R s m args below meth c cells slots Q st (pc + 1) lv (.long (zJ (shlJ x)) :: rest)) : fV D Wd Ok A nL p l e R s m args below meth c cells slots Q st pc lv (.int (zI 32) :: .long (zJ x) :: rest) := fun H locs ls hP hO hS hl => lv_lshl C.1.1 C.1.2.1 hdg (zJ_z _) (k H locs ls hP hO hS hl)
theorem f_land (C : fC p m c cc nL s args Ts own D tys E A) {x y : Int} (hdg : decode cc pc = .ok (.land, 1)) (k : fV D Wd Ok A nL p l e R s m args below meth c cells slots Q st (pc + 1) lv (.long (zJ (landJ x y)) :: rest)) : fV D Wd Ok A nL p l e R s m args below meth c cells slots Q st pc lv (.long (zJ y) :: .long (zJ x) :: rest) := fun H locs ls hP hO hS hl => lv_land C.1.1 C.1.2.1 hdg (by rw [zJ_z (zJ x &&& zJ y)]; exact k H locs ls hP hO hS hl)
theorem f_lor (C : fC p m c cc nL s args Ts own D tys E A) {x y : Int} (hdg : decode cc pc = .ok (.lor, 1)) (k : fV D Wd Ok A nL p l e R s m args below meth c cells slots Q st (pc + 1) lv (.long (zJ (lorJ x y)) :: rest)) : fV D Wd Ok A nL p l e R s m args below meth c cells slots Q st pc lv (.long (zJ y) :: .long (zJ x) :: rest) := fun H locs ls hP hO hS hl => lv_lor C.1.1 C.1.2.1 hdg (by rw [zJ_z (zJ x ||| zJ y)]; exact k H locs ls hP hO hS hl)
theorem f_iand (C : fC p m c cc nL s args Ts own D tys E A) {x y : Int} (hdg : decode cc pc = .ok (.iand, 1)) (k : fV D Wd Ok A nL p l e R s m args below meth c cells slots Q st (pc + 1) lv (.int (zI (andI x y)) :: rest)) : fV D Wd Ok A nL p l e R s m args below meth c cells slots Q st pc lv (.int (zI y) :: .int (zI x) :: rest) := fun H locs ls hP hO hS hl => lv_iand C.1.1 C.1.2.1 hdg (by rw [zI_z (zI x &&& zI y)]; exact k H locs ls hP hO hS hl)
theorem f_tabOutE (C : fC p m c cc nL s args Ts own D tys E A) {dflt lo hi : Int} {offs : Array Int} {len : Nat} {v : Int} (tgt : Nat) (hv : in32 v) (hdg : decode cc pc = .ok (.tableswitch dflt lo hi offs, len)) (h : v < lo ∨ hi < v) (ht : (pc : Int) + dflt = (tgt : Int)) (k : fV D Wd Ok A nL p l e R s m args below meth c cells slots Q st tgt lv rest) : fV D Wd Ok A nL p l e R s m args below meth c cells slots Q st pc lv (.int (zI v) :: rest) := fun H locs ls hP hO hS hl => lv_tableOut C.1.1 C.1.2.1 hdg (by rw [zI_t hv]; exact h) ht (k H locs ls hP hO hS hl)
theorem f_tabInE (C : fC p m c cc nL s args Ts own D tys E A) {dflt lo hi : Int} {offs : Array Int} {len : Nat} {v off : Int} (tgt : Nat) (hv : in32 v) (hdg : decode cc pc = .ok (.tableswitch dflt lo hi offs, len)) (h1 : ¬ v < lo) (h2 : ¬ hi < v) (ho : offs[(v - lo).toNat]? = some off) (ht : (pc : Int) + off = (tgt : Int)) (k : fV D Wd Ok A nL p l e R s m args below meth c cells slots Q st tgt lv rest) : fV D Wd Ok A nL p l e R s m args below meth c cells slots Q st pc lv (.int (zI v) :: rest) := fun H locs ls hP hO hS hl => lv_tableIn C.1.1 C.1.2.1 hdg (by rw [zI_t hv]; exact h1) (by rw [zI_t hv]; exact h2) (by rw [zI_t hv]; exact ho) ht (k H locs ls hP hO hS hl)
end LR
