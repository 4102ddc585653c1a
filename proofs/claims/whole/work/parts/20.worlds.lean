/-! ===== PART 20: a state is a row of ints and rows of rows of ints; the class's world and the reference's ===== -/
abbrev fS : Type := (Nat → Int) × (Nat → Int → Int)
def sN (st : fS) (k : Nat) (v : Int) : fS := (fun j => bif Nat.beq j k then v else st.1 j, st.2)
def sR (st : fS) (k : Nat) (f : Int → Int) : fS := (st.1, fun j => bif Nat.beq j k then f else st.2 j)
theorem sN_1s (st : fS) (k : Nat) (v : Int) : (sN st k v).1 k = v := by simp [sN]
theorem sN_1n (st : fS) {k j : Nat} (v : Int) (h : j ≠ k) : (sN st k v).1 j = st.1 j := by
  have : Nat.beq j k = false := by
    cases e : Nat.beq j k with
    | true => exact absurd (Nat.eq_of_beq_eq_true e) h
    | false => rfl
  simp [sN, this]
theorem sN_2 (st : fS) (k : Nat) (v : Int) : (sN st k v).2 = st.2 := rfl
theorem sR_1 (st : fS) (k : Nat) (f : Int → Int) : (sR st k f).1 = st.1 := rfl
theorem sR_2s (st : fS) (k : Nat) (f : Int → Int) : (sR st k f).2 k = f := by simp [sR]
theorem sR_2n (st : fS) {k j : Nat} (f : Int → Int) (h : j ≠ k) : (sR st k f).2 j = st.2 j := by
  have : Nat.beq j k = false := by
    cases e : Nat.beq j k with
    | true => exact absurd (Nat.eq_of_beq_eq_true e) h
    | false => rfl
  simp [sR, this]
theorem sN_N (st : fS) (k : Nat) (v w : Int) : sN (sN st k v) k w = sN st k w := by
  refine Prod.ext ?_ rfl
  funext j
  show (bif Nat.beq j k then w else bif Nat.beq j k then v else st.1 j) = bif Nat.beq j k then w else st.1 j
  cases Nat.beq j k <;> rfl
theorem sR_R (st : fS) (k : Nat) (v w : Int → Int) : sR (sR st k v) k w = sR st k w := by
  refine Prod.ext rfl ?_
  funext j
  show (bif Nat.beq j k then w else bif Nat.beq j k then v else st.2 j) = bif Nat.beq j k then w else st.2 j
  cases Nat.beq j k <;> rfl
theorem sR_id (st : fS) (k : Nat) : sR st k (st.2 k) = st := by
  unfold sR
  refine Prod.ext rfl ?_
  funext j
  show (bif Nat.beq j k then st.2 k else st.2 j) = st.2 j
  cases h : Nat.beq j k with
  | true => rw [Nat.eq_of_beq_eq_true h]; rfl
  | false => rfl
/-- a row's place, 0 beyond its ends -/
def rget (n : Int) (f : Int → Int) (i : Int) : Int := if 0 ≤ i ∧ i < n then f i else 0
theorem rget_in {n : Int} {f : Int → Int} {i : Int} (h : 0 ≤ i ∧ i < n) : rget n f i = f i := if_pos h
theorem rget_out {n : Int} {f : Int → Int} {i : Int} (h : ¬ (0 ≤ i ∧ i < n)) : rget n f i = 0 := if_neg h
/-- the class's rows: how many places each has -/
def xLen : Nat → Nat
  | 0 => 4 | 1 => 24 | 2 => 480 | 3 => 24 | 4 => 24 | 5 => 24 | 6 => 24 | 7 => 24 | 8 => 600 | 9 => 6 | 10 => 6 | 11 => 6
  | 12 => 36 | 13 => 36 | 14 => 36 | 15 => 36 | 16 => 36 | 17 => 396 | 18 => 396 | 19 => 8 | 20 => 8 | 21 => 8 | 22 => 8 | 23 => 120
  | 24 => 24 | 25 => 24 | 26 => 24 | 27 => 24 | 28 => 552 | _ => 0
theorem xLen_le (r : Nat) : (xLen r : Int) ≤ 600 := by
  match r with
  | 0 | 1 | 2 | 3 | 4 | 5 | 6 | 7 | 8 | 9 | 10 | 11 | 12 | 13 | 14 | 15 | 16 | 17 | 18 | 19 | 20 | 21 | 22 | 23 | 24 | 25 | 26 | 27 | 28 => decide
  | n + 29 =>
    show (0 : Int) ≤ 600
    decide
def rput (n : Int) (f : Int → Int) (i v : Int) : Int → Int := if 0 ≤ i ∧ i < n then f_up f i v else f
theorem rput_in {n : Int} {f : Int → Int} {i : Int} (v : Int) (h : 0 ≤ i ∧ i < n) : rput n f i v = f_up f i v := if_pos h
theorem rput_out {n : Int} {f : Int → Int} {i : Int} (v : Int) (h : ¬ (0 ≤ i ∧ i < n)) : rput n f i v = f := if_neg h
def rset (st : fS) (r : Nat) (i v : Int) : fS := sR st r (rput (xLen r) (st.2 r) i v)
abbrev xRows (a : Nat → Nat) : va_W := (List.range 29).map (fun r => (a (8 + r), .inr (5, [.ref (a (37 + r))])))
abbrev xArrs (cJ : ClassId) (a : Nat → Nat) (st : fS) : va_W := (List.range 29).map (fun r => (a (37 + r), .inl (cJ, xLen r, .inr (.inl (fun j : Nat => zJ (st.2 r j))))))
def wX (cJ : ClassId) (a : Nat → Nat) (st : fS) : va_W :=
  [(a 0, .inr (8, [.ref (a 1), .ref (a 2), .ref (a 3), .ref (a 4), .ref (a 5), .ref (a 6), .ref (a 31), .ref (a 7)])),
   (a 1, .inr (3, [.ref (a 8), .ref (a 9), .ref (a 10), .int (zI (st.1 0))])),
   (a 2, .inr (1, [.ref (a 11), .ref (a 12), .ref (a 13), .ref (a 14), .ref (a 15), .int (zI (st.1 1))])),
   (a 3, .inr (7, [.ref (a 16), .int (zI (st.1 2)), .int (zI (st.1 3)), .int (zI (st.1 4)), .int (zI (st.1 5))])),
   (a 4, .inr (0, [.ref (a 17), .ref (a 18), .ref (a 19), .ref (a 20), .ref (a 21), .ref (a 22), .ref (a 23), .ref (a 24), .ref (a 25), .ref (a 26), .int (zI (st.1 6)), .int (zI (st.1 7))])),
   (a 5, .inr (6, [.ref (a 3), .ref (a 4)])),
   (a 6, .inr (4, [.ref (a 27), .ref (a 28), .ref (a 29), .ref (a 30), .int (zI (st.1 8))])),
   (a 7, .inr (2, [.ref (a 32), .ref (a 33), .ref (a 34), .ref (a 35), .ref (a 36), .int (zI (st.1 9)), .int (zI (st.1 10))]))]
  ++ (xRows a ++ xArrs cJ a st)
theorem xRows_len (a : Nat → Nat) : (xRows a).length = 29 := by simp [xRows]
theorem xArrs_len (cJ : ClassId) (a : Nat → Nat) (st : fS) : (xArrs cJ a st).length = 29 := by simp [xArrs]
theorem wX_row (cJ : ClassId) (a : Nat → Nat) (st : fS) {r : Nat} (hr : r < 29) : (wX cJ a st)[8 + r]? = some (a (8 + r), .inr (5, [.ref (a (37 + r))])) := by
  unfold wX
  rw [List.getElem?_append_right (by simp), List.getElem?_append_left (by simp; omega)]
  simp only [xRows, List.length_cons, List.length_nil, List.getElem?_map]
  rw [show 8 + r - (0 + 1 + 1 + 1 + 1 + 1 + 1 + 1 + 1) = r by omega, List.getElem?_range hr]
  rfl
theorem wX_arr (cJ : ClassId) (a : Nat → Nat) (st : fS) {r : Nat} (hr : r < 29) : (wX cJ a st)[37 + r]? = some (a (37 + r), .inl (cJ, xLen r, .inr (.inl (fun j : Nat => zJ (st.2 r j))))) := by
  unfold wX
  rw [List.getElem?_append_right (by simp; omega), List.getElem?_append_right (by simp; omega)]
  simp only [xArrs, List.length_cons, List.length_nil, xRows_len, List.getElem?_map]
  rw [show 37 + r - (0 + 1 + 1 + 1 + 1 + 1 + 1 + 1 + 1) - 29 = r by omega, List.getElem?_range hr]
  rfl
theorem xArrs_set (cJ : ClassId) (a : Nat → Nat) (st : fS) {r : Nat} (hr : r < 29) (f : Int → Int) : (xArrs cJ a st).set r (a (37 + r), .inl (cJ, xLen r, .inr (.inl (fun j : Nat => zJ (f j))))) = xArrs cJ a (sR st r f) := by
  refine List.ext_getElem? fun i => ?_
  rw [List.getElem?_set]
  by_cases e : r = i
  · subst e
    simp only [if_true, xArrs_len, hr]
    simp only [xArrs, List.getElem?_map, List.getElem?_range hr, Option.map_some, sR_2s]
  · simp only [e, if_false]
    simp only [xArrs, List.getElem?_map]
    by_cases h : i < 29
    · simp only [List.getElem?_range h, Option.map_some, sR_2n st f (Ne.symm e)]
    · rw [List.getElem?_eq_none (by simpa using h)]
      rfl
theorem wX_set (cJ : ClassId) (a : Nat → Nat) (st : fS) {r : Nat} (hr : r < 29) (f : Int → Int) : (wX cJ a st).set (37 + r) (a (37 + r), .inl (cJ, xLen r, .inr (.inl (fun j : Nat => zJ (f j))))) = wX cJ a (sR st r f) := by
  unfold wX
  rw [List.set_append_right _ _ (by simp; omega), List.set_append_right _ _ (by simp; omega)]
  simp only [List.length_cons, List.length_nil, xRows_len]
  rw [show 37 + r - (0 + 1 + 1 + 1 + 1 + 1 + 1 + 1 + 1) - 29 = r by omega, xArrs_set cJ a st hr f]
  rfl
theorem wX_fst (cJ : ClassId) (a : Nat → Nat) (st : fS) : (wX cJ a st).map Prod.fst = (List.range 66).map a := by
  unfold wX
  simp only [List.map_append, List.map_map, xRows, xArrs]
  rfl
def xA (a : Nat → Nat) : Nat → Prop := fun q => ∃ i : Nat, i < 66 ∧ q = a i
abbrev xInj (a : Nat → Nat) : Prop := ∀ i j : Nat, i < 66 → j < 66 → a i = a j → i = j
theorem xD {a : Nat → Nat} (h : xInj a) (cJ : ClassId) (st : fS) : va_D (xA a) (wX cJ a st) := by
  have g : ∀ (i : Nat) (q : Nat × va_E), (wX cJ a st)[i]? = some q → i < 66 ∧ q.1 = a i := by
    intro i q hq
    have h1 : ((wX cJ a st).map Prod.fst)[i]? = some q.1 := by rw [List.getElem?_map, hq]; rfl
    rw [wX_fst, List.getElem?_map] at h1
    by_cases hi : i < 66
    · rw [List.getElem?_range hi] at h1
      exact ⟨hi, (Option.some.inj h1).symm⟩
    · rw [List.getElem?_eq_none (by simpa using hi)] at h1
      cases h1
  refine ⟨fun i j p q hp hq e => ?_, fun k q hq => ?_⟩
  · obtain ⟨i1, e1⟩ := g i p hp
    obtain ⟨j1, e2⟩ := g j q hq
    exact h i j i1 j1 (by rw [← e1, ← e2]; exact e)
  · obtain ⟨i1, e1⟩ := g k q hq
    exact ⟨k, i1, e1⟩
/-- what the class's numbers keep to -/
def xRg : Nat → Int × Int
  | 0 => (0, 6) | 1 => (0, 1000) | 2 => (-10000000000000000, 10000000000000000) | 3 => (0, 3) | 4 => (0, 5) | 5 => (0, 3599) | 6 => (0, 1000000) | 7 => (0, 3599) | 8 => (0, 255)
  | 9 => (0, 3599) | 10 => (0, 3599) | 11 => (0, 1000000) | 12 => (-1, 999999) | 13 => (0, 999999) | 14 => (-1, 999999) | 15 => (0, 1000000) | 16 => (0, 1000000) | 17 => (0, 999999) | 18 => (0, 999999)
  | 19 => (0, 3) | 20 => (0, 5) | 21 => (0, 3599) | 22 => (0, 3599) | 23 => (-1, 1000000000000) | 24 => (0, 23) | 25 => (-100000000000000, 100000000000000) | 26 => (-1, 5) | 27 => (0, 2) | _ => (0, 255)
def xNg : Nat → Int × Int
  | 0 => (0, 4) | 1 => (0, 24) | 2 => (0, 600) | 3 => (0, 600) | 4 => (0, 600) | 6 => (0, 6) | 8 => (0, 8) | 9 => (0, 24) | _ => (-1000000000, 1000000000)
def fOk (N R : Nat → Int × Int) (st : fS) : Prop := (∀ k, (N k).1 ≤ st.1 k ∧ st.1 k ≤ (N k).2) ∧ ∀ r i, (R r).1 ≤ st.2 r i ∧ st.2 r i ≤ (R r).2
theorem fOk_N {N R : Nat → Int × Int} {st : fS} (h : fOk N R st) {k : Nat} {v : Int} (hv : (N k).1 ≤ v ∧ v ≤ (N k).2) : fOk N R (sN st k v) := by
  refine ⟨fun j => ?_, h.2⟩
  by_cases e : j = k
  · subst e; rw [sN_1s]; exact hv
  · rw [sN_1n st v e]; exact h.1 j
theorem fOk_R {N R : Nat → Int × Int} {st : fS} (h : fOk N R st) {r : Nat} {f : Int → Int} (hf : ∀ i, (R r).1 ≤ f i ∧ f i ≤ (R r).2) : fOk N R (sR st r f) := by
  refine ⟨h.1, fun j i => ?_⟩
  by_cases e : j = r
  · subst e; rw [sR_2s]; exact hf i
  · rw [sR_2n st f e]; exact h.2 j i
theorem fOk_up {N R : Nat → Int × Int} {st : fS} (h : fOk N R st) {r : Nat} {i v : Int} (hv : (R r).1 ≤ v ∧ v ≤ (R r).2) : fOk N R (sR st r (f_up (st.2 r) i v)) := fOk_R h fun j => by
  by_cases e : j = i
  · subst e; rw [f_up_s]; exact hv
  · rw [f_up_n _ _ e]; exact h.2 r j
abbrev xOk : fS → Prop := fOk xNg xRg
theorem fOk_set {st : fS} (h : xOk st) {r : Nat} {i v : Int} (hv : (xRg r).1 ≤ v ∧ v ≤ (xRg r).2) : xOk (rset st r i v) := by
  unfold rset rput
  by_cases e : 0 ≤ i ∧ i < xLen r
  · rw [if_pos e]; exact fOk_up h hv
  · rw [if_neg e, sR_id]; exact h
theorem xRg_0 : ∀ r, (xRg r).1 ≤ 0 ∧ 0 ≤ (xRg r).2 ∧ -9223372036854775808 ≤ (xRg r).1 ∧ (xRg r).2 ≤ 9223372036854775807 := by
  intro r
  match r with
  | 0 | 1 | 2 | 3 | 4 | 5 | 6 | 7 | 8 | 9 | 10 | 11 | 12 | 13 | 14 | 15 | 16 | 17 | 18 | 19 | 20 | 21 | 22 | 23 | 24 | 25 | 26 | 27 => decide
  | n + 28 =>
    show (0 : Int) ≤ 0 ∧ (0 : Int) ≤ 255 ∧ (-9223372036854775808 : Int) ≤ 0 ∧ (255 : Int) ≤ 9223372036854775807
    decide
theorem xget_ok {st : fS} (h : xOk st) (r : Nat) (n i : Int) : (xRg r).1 ≤ rget n (st.2 r) i ∧ rget n (st.2 r) i ≤ (xRg r).2 := by
  unfold rget
  by_cases e : 0 ≤ i ∧ i < n
  · rw [if_pos e]; exact h.2 r i
  · rw [if_neg e]; exact ⟨(xRg_0 r).1, (xRg_0 r).2.1⟩
