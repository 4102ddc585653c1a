/-! ===== PART 02: whole numbers behind the machine's words; the goal of a walk over a world that hangs on a state ===== -/
def zI (z : Int) : Int32 := Int32.ofInt z
def zJ (z : Int) : Int64 := Int64.ofInt z
abbrev in32 (z : Int) : Prop := -2147483648 ≤ z ∧ z ≤ 2147483647
abbrev in64 (z : Int) : Prop := -9223372036854775808 ≤ z ∧ z ≤ 9223372036854775807
theorem zI_t {z : Int} (h : in32 z) : (zI z).toInt = z := Int32.toInt_ofInt_of_le (by omega) (by omega)
theorem zJ_t {z : Int} (h : in64 z) : (zJ z).toInt = z := Int64.toInt_ofInt_of_le (by omega) (by omega)
theorem zI_of (x : Int32) : ∃ z : Int, in32 z ∧ x = zI z := ⟨x.toInt, ⟨by have := x.le_toInt; omega, by have := x.toInt_lt; omega⟩, (Int32.ofInt_toInt x).symm⟩
theorem zJ_of (x : Int64) : ∃ z : Int, in64 z ∧ x = zJ z := ⟨x.toInt, ⟨by have := x.le_toInt; omega, by have := x.toInt_lt; omega⟩, (Int64.ofInt_toInt x).symm⟩
theorem zI_add (x y : Int) : zI x + zI y = zI (x + y) := (Int32.ofInt_add x y).symm
theorem zI_sub (x y : Int) : zI x - zI y = zI (x - y) := (Int32.ofInt_sub x y).symm
theorem zI_mul (x y : Int) : zI x * zI y = zI (x * y) := (Int32.ofInt_mul x y).symm
theorem zJ_add (x y : Int) : zJ x + zJ y = zJ (x + y) := (Int64.ofInt_add x y).symm
theorem zJ_sub (x y : Int) : zJ x - zJ y = zJ (x - y) := (Int64.ofInt_sub x y).symm
theorem zJ_mul (x y : Int) : zJ x * zJ y = zJ (x * y) := (Int64.ofInt_mul x y).symm
theorem zJ_neg (x : Int) : -zJ x = zJ (-x) := (Int64.ofInt_neg x).symm
theorem zI_lt {x y : Int} (hx : in32 x) (hy : in32 y) : zI x < zI y ↔ x < y := by rw [Int32.lt_iff_toInt_lt, zI_t hx, zI_t hy]
theorem zI_le {x y : Int} (hx : in32 x) (hy : in32 y) : zI x ≤ zI y ↔ x ≤ y := by rw [Int32.le_iff_toInt_le, zI_t hx, zI_t hy]
theorem zI_eq {x y : Int} (hx : in32 x) (hy : in32 y) : zI x = zI y ↔ x = y := by rw [← Int32.toInt_inj, zI_t hx, zI_t hy]
theorem zJ_lt {x y : Int} (hx : in64 x) (hy : in64 y) : zJ x < zJ y ↔ x < y := by rw [Int64.lt_iff_toInt_lt, zJ_t hx, zJ_t hy]
theorem zJ_le {x y : Int} (hx : in64 x) (hy : in64 y) : zJ x ≤ zJ y ↔ x ≤ y := by rw [Int64.le_iff_toInt_le, zJ_t hx, zJ_t hy]
theorem zJ_eq {x y : Int} (hx : in64 x) (hy : in64 y) : zJ x = zJ y ↔ x = y := by rw [← Int64.toInt_inj, zJ_t hx, zJ_t hy]
theorem zI_div {x y : Int} (hx : 0 ≤ x ∧ x ≤ 2147483647) (hy : 0 < y ∧ y ≤ 2147483647) : zI x / zI y = zI (x / y) := by
  show Int32.ofInt x / Int32.ofInt y = Int32.ofInt (x / y)
  rw [← Int.tdiv_eq_ediv_of_nonneg hx.1]
  exact (Int32.ofInt_tdiv (show (-2147483648 : Int) ≤ x by omega) (show x ≤ (2147483647 : Int) by omega) (show (-2147483648 : Int) ≤ y by omega) (show y ≤ (2147483647 : Int) by omega)).symm
theorem zJ_div {x y : Int} (hx : 0 ≤ x ∧ x ≤ 9223372036854775807) (hy : 0 < y ∧ y ≤ 9223372036854775807) : zJ x / zJ y = zJ (x / y) := by
  show Int64.ofInt x / Int64.ofInt y = Int64.ofInt (x / y)
  rw [← Int.tdiv_eq_ediv_of_nonneg hx.1]
  exact (Int64.ofInt_tdiv (show (-9223372036854775808 : Int) ≤ x by omega) (show x ≤ (9223372036854775807 : Int) by omega) (show (-9223372036854775808 : Int) ≤ y by omega) (show y ≤ (9223372036854775807 : Int) by omega)).symm
theorem zJ_divT {x y : Int} (hx : in64 x) (hy : in64 y) : zJ x / zJ y = zJ (x.tdiv y) :=
  (Int64.ofInt_tdiv (show (-9223372036854775808 : Int) ≤ x by omega) (show x ≤ (9223372036854775807 : Int) by omega) (show (-9223372036854775808 : Int) ≤ y by omega) (show y ≤ (9223372036854775807 : Int) by omega)).symm
theorem zI_l {z : Int} (h : in32 z) : (zI z).toInt64 = zJ z := Int32.toInt64_ofInt (show (-2147483648 : Int) ≤ z by omega) (show z ≤ (2147483647 : Int) by omega)
theorem zJ_i (z : Int) : (zJ z).toInt32 = zI z := Int64.toInt32_ofInt
theorem zI_cl {z : Int} (h0 : 0 ≤ z) (h1 : z ≤ 2147483647) : (zI z).toNatClampNeg = z.toNat := Int32.toNatClampNeg_ofInt_of_le (by omega) (by omega)
theorem zI_in {z : Int} {n : Nat} (h : 0 ≤ z ∧ z < n) (hn : (n : Int) ≤ 2147483648) : vp_in (zI z) n := by
  rw [vp_in_iff, zI_t ⟨by omega, by omega⟩]
  exact h
theorem zI_b {z : Int} (h : -128 ≤ z ∧ z ≤ 127) : (zI z).toInt8.toInt32 = zI z := by
  rw [← Int32.toInt_inj, zI_t ⟨by omega, by omega⟩]
  show ((Int32.ofInt z).toInt8.toInt32).toInt = z
  rw [Int8.toInt_toInt32, Int32.toInt8_ofInt, Int8.toInt_ofInt_of_le (by omega) (by omega)]
theorem zJ_rem {x y : Int} (hx : 0 ≤ x ∧ x ≤ 9223372036854775807) (hy : 0 < y ∧ y ≤ 9223372036854775807) : zJ x - zJ x / zJ y * zJ y = zJ (x % y) := by
  rw [zJ_div hx hy, zJ_mul, zJ_sub]
  congr 1
  have := Int.emod_add_mul_ediv x y
  rw [Int.mul_comm] at this
  omega
/-- the state of the rows: one place changed -/
def f_up {α : Type} (f : Int → α) (k : Int) (v : α) : Int → α := fun j => if j = k then v else f j
theorem f_up_s {α : Type} (f : Int → α) (k : Int) (v : α) : f_up f k v k = v := by simp [f_up]
theorem f_up_n {α : Type} (f : Int → α) {k j : Int} (v : α) (h : j ≠ k) : f_up f k v j = f j := by simp [f_up, h]
theorem f_upI (f : Int → Int) {k v : Int} (h : 0 ≤ k ∧ k ≤ 2147483647) : upd (fun j : Nat => zI (f j)) (zI k).toNatClampNeg (zI v) = fun j : Nat => zI (f_up f k v j) := by
  funext j
  rw [zI_cl h.1 h.2]
  by_cases e : j = k.toNat
  · subst e
    have e2 : ((k.toNat : Nat) : Int) = k := Int.toNat_of_nonneg h.1
    simp [upd, f_up, e2]
  · have e2 : ¬ ((j : Nat) : Int) = k := by omega
    simp [upd, f_up, e, e2]
theorem f_upJ (f : Int → Int) {k v : Int} (h : 0 ≤ k ∧ k ≤ 2147483647) : vp_updL (fun j : Nat => zJ (f j)) (zI k).toNatClampNeg (zJ v) = fun j : Nat => zJ (f_up f k v j) := by
  funext j
  rw [zI_cl h.1 h.2]
  by_cases e : j = k.toNat
  · subst e
    have e2 : ((k.toNat : Nat) : Int) = k := Int.toNat_of_nonneg h.1
    simp [vp_updL, f_up, e2]
  · have e2 : ¬ ((j : Nat) : Int) = k := by omega
    simp [vp_updL, f_up, e, e2]
/-- a local by its place -/
def f_lk : List (Nat × Value) → Nat → Option Value
  | [], _ => none
  | q :: l, i => bif Nat.beq q.1 i then some q.2 else f_lk l i
theorem f_lk_at {ls : Array Slot} {nL : Nat} {lv : List (Nat × Value)} (h : lv_has ls nL lv) {i : Nat} {v : Value} (hk : f_lk lv i = some v) : ls[i]? = some (.val v) := by
  refine h.2.2 (i, v) ?_
  clear h
  induction lv with
  | nil => cases hk
  | cons q l ih =>
    unfold f_lk at hk
    cases e : Nat.beq q.1 i with
    | true =>
      rw [e] at hk
      have e1 : q.1 = i := Nat.eq_of_beq_eq_true e
      have e2 : q.2 = v := Option.some.inj hk
      subst e1; subst e2
      exact List.mem_cons_self
    | false =>
      rw [e] at hk
      exact List.mem_cons_of_mem _ (ih hk)
theorem mulb (a b : Int) {A B C : Int} (hC : A * B = C) (ha : -A ≤ a ∧ a ≤ A) (hb : -B ≤ b ∧ b ≤ B) : -C ≤ a * b ∧ a * b ≤ C := by
  have h : (a * b).natAbs ≤ A.natAbs * B.natAbs := by
    rw [Int.natAbs_mul]
    exact Nat.mul_le_mul (by omega) (by omega)
  have h2 : ((A.natAbs * B.natAbs : Nat) : Int) = C := by
    rw [Int.natCast_mul, Int.natAbs_of_nonneg (by omega), Int.natAbs_of_nonneg (by omega), hC]
  omega
theorem tdivb (x y : Int) {B : Int} (hx : -B ≤ x ∧ x ≤ B) : -B ≤ Int.tdiv x y ∧ Int.tdiv x y ≤ B := by
  have h := Int.natAbs_tdiv_le_natAbs x y
  omega
theorem tmodb (x : Int) {B : Int} (hB : 0 < B) : -B < Int.tmod x B ∧ Int.tmod x B < B := ⟨Int.lt_tmod_of_pos x hB, Int.tmod_lt_of_pos x hB⟩
theorem zJ_remT {x y : Int} (hx : in64 x) (hy : in64 y) : zJ x - zJ x / zJ y * zJ y = zJ (Int.tmod x y) := by
  rw [zJ_divT hx hy, zJ_mul, zJ_sub]
  congr 1
  have := Int.tmod_add_mul_tdiv x y
  rw [Int.mul_comm] at this
  omega
theorem tdivk (x : Int) {y B C : Int} (hy : 0 < y) (h : B < (C + 1) * y) (hx : -B ≤ x ∧ x ≤ B) : -C ≤ Int.tdiv x y ∧ Int.tdiv x y ≤ C := by
  have e : (Int.tdiv x y).natAbs = x.natAbs / y.natAbs := Int.natAbs_tdiv x y
  have h3 : x.natAbs < y.natAbs * (C + 1).toNat := by
    have h4 : ((y.natAbs * (C + 1).toNat : Nat) : Int) = y * ((C + 1).toNat : Int) := by
      rw [Int.natCast_mul, Int.natAbs_of_nonneg (by omega)]
    by_cases hc : 0 ≤ C + 1
    · rw [Int.toNat_of_nonneg hc, Int.mul_comm] at h4
      omega
    · have := Int.mul_nonpos_of_nonpos_of_nonneg (a := C + 1) (b := y) (by omega) (by omega)
      omega
  have h5 : x.natAbs / y.natAbs < (C + 1).toNat := Nat.div_lt_of_lt_mul h3
  omega
theorem mulp (a b : Int) {A B C : Int} (hC : A * B = C) (ha : 0 ≤ a ∧ a ≤ A) (hb : 0 ≤ b ∧ b ≤ B) : 0 ≤ a * b ∧ a * b ≤ C := ⟨Int.mul_nonneg ha.1 hb.1, by have := mulb a b hC ⟨by omega, ha.2⟩ ⟨by omega, hb.2⟩; exact this.2⟩
theorem mulle (a b : Int) {B : Int} (ha : 0 ≤ a) (hb : 0 ≤ b ∧ b ≤ B) : 0 ≤ a * b ∧ a * b ≤ a * B := ⟨Int.mul_nonneg ha hb.1, Int.mul_le_mul_of_nonneg_left hb.2 ha⟩
theorem edivb (x y : Int) (hx : 0 ≤ x) (hy : 0 < y) : 0 ≤ x / y ∧ x / y ≤ x := ⟨Int.ediv_nonneg hx (by omega), Int.ediv_le_self y hx⟩
