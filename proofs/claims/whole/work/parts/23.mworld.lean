/-! ===== PART 23: the reference's world ===== -/
def wM (cI cJ cZ cB : ClassId) (b : Nat → Nat) (st : fS) : va_W :=
  [(b 0, .inr (9, [.int (zI (st.1 0)), .ref (b 1), .ref (b 2), .int (zI (st.1 3)), .ref (b 3), .ref (b 4), .ref (b 5), .ref (b 6), .ref (b 7), .int (zI (st.1 9)), .ref (b 8), .int (zI (st.1 11)), .ref (b 9), .ref (b 10), .int (zI (st.1 14)), .ref (b 11), .ref (b 12), .ref (b 13), .ref (b 14), .ref (b 15), .ref (b 16), .ref (b 17), .ref (b 18), .ref (b 19), .ref (b 20), .int (zI (st.1 25)), .ref (b 21), .ref (b 22), .ref (b 23), .ref (b 24), .ref (b 25), .int (zI (st.1 31)), .ref (b 26), .ref (b 27), .ref (b 28), .ref (b 29), .int (zI (st.1 36)), .ref (b 30), .ref (b 31), .ref (b 32), .ref (b 33), .int (zI (st.1 41)), .ref (b 34)])),
   (b 1, .inl (cI, 4, .inl (fun j : Nat => zI (st.2 1 j)))),
   (b 2, .inl (cI, 24, .inl (fun j : Nat => zI (st.2 2 j)))),
   (b 3, .inl (cI, 24, .inl (fun j : Nat => zI (st.2 4 j)))),
   (b 4, .inl (cI, 24, .inl (fun j : Nat => zI (st.2 5 j)))),
   (b 5, .inl (cI, 24, .inl (fun j : Nat => zI (st.2 6 j)))),
   (b 6, .inl (cI, 24, .inl (fun j : Nat => zI (st.2 7 j)))),
   (b 7, .inl (cI, 24, .inl (fun j : Nat => zI (st.2 8 j)))),
   (b 8, .inl (cI, 600, .inl (fun j : Nat => zI (st.2 10 j)))),
   (b 9, .inl (cI, 300, .inl (fun j : Nat => zI (st.2 12 j)))),
   (b 10, .inl (cI, 300, .inl (fun j : Nat => zI (st.2 13 j)))),
   (b 11, .inl (cI, 6, .inl (fun j : Nat => zI (st.2 15 j)))),
   (b 12, .inl (cI, 6, .inl (fun j : Nat => zI (st.2 16 j)))),
   (b 13, .inl (cZ, 42, .inl (fun j : Nat => zI (st.2 17 j)))),
   (b 14, .inl (cI, 42, .inl (fun j : Nat => zI (st.2 18 j)))),
   (b 15, .inl (cI, 42, .inl (fun j : Nat => zI (st.2 19 j)))),
   (b 16, .inl (cI, 42, .inl (fun j : Nat => zI (st.2 20 j)))),
   (b 17, .inl (cI, 42, .inl (fun j : Nat => zI (st.2 21 j)))),
   (b 18, .inl (cI, 4200, .inl (fun j : Nat => zI (st.2 22 j)))),
   (b 19, .inl (cI, 4200, .inl (fun j : Nat => zI (st.2 23 j)))),
   (b 20, .inl (cJ, 120, .inr (.inl (fun j : Nat => zJ (st.2 24 j))))),
   (b 21, .inl (cI, 8, .inl (fun j : Nat => zI (st.2 26 j)))),
   (b 22, .inl (cI, 8, .inl (fun j : Nat => zI (st.2 27 j)))),
   (b 23, .inl (cI, 8, .inl (fun j : Nat => zI (st.2 28 j)))),
   (b 24, .inl (cI, 8, .inl (fun j : Nat => zI (st.2 29 j)))),
   (b 25, .inl (cJ, 480, .inr (.inl (fun j : Nat => zJ (st.2 30 j))))),
   (b 26, .inl (cI, 24, .inl (fun j : Nat => zI (st.2 32 j)))),
   (b 27, .inl (cJ, 24, .inr (.inl (fun j : Nat => zJ (st.2 33 j))))),
   (b 28, .inl (cI, 24, .inl (fun j : Nat => zI (st.2 34 j)))),
   (b 29, .inl (cI, 24, .inl (fun j : Nat => zI (st.2 35 j)))),
   (b 30, .inl (cI, 24, .inl (fun j : Nat => zI (st.2 37 j)))),
   (b 31, .inl (cJ, 24, .inr (.inl (fun j : Nat => zJ (st.2 38 j))))),
   (b 32, .inl (cI, 24, .inl (fun j : Nat => zI (st.2 39 j)))),
   (b 33, .inl (cI, 24, .inl (fun j : Nat => zI (st.2 40 j)))),
   (b 34, .inl (cB, 900, .inl (fun j : Nat => zI (st.2 42 j))))]
theorem wM_fst (cI cJ cZ cB : ClassId) (b : Nat → Nat) (st : fS) : (wM cI cJ cZ cB b st).map Prod.fst = (List.range 35).map b := rfl
def mA (b : Nat → Nat) : Nat → Prop := fun q => ∃ i : Nat, i < 35 ∧ q = b i
abbrev mInj (b : Nat → Nat) : Prop := ∀ i j : Nat, i < 35 → j < 35 → b i = b j → i = j
theorem mD {b : Nat → Nat} (h : mInj b) (cI cJ cZ cB : ClassId) (st : fS) : va_D (mA b) (wM cI cJ cZ cB b st) := by
  have g : ∀ (i : Nat) (q : Nat × va_E), (wM cI cJ cZ cB b st)[i]? = some q → i < 35 ∧ q.1 = b i := by
    intro i q hq
    have h1 : ((wM cI cJ cZ cB b st).map Prod.fst)[i]? = some q.1 := by rw [List.getElem?_map, hq]; rfl
    rw [wM_fst, List.getElem?_map] at h1
    by_cases hi : i < 35
    · rw [List.getElem?_range hi] at h1
      exact ⟨hi, (Option.some.inj h1).symm⟩
    · rw [List.getElem?_eq_none (by simpa using hi)] at h1
      cases h1
  refine ⟨fun i j p q hp hq e => ?_, fun k q hq => ?_⟩
  · obtain ⟨i1, e1⟩ := g i p hp
    obtain ⟨j1, e2⟩ := g j q hq
    exact h i j i1 j1 (by rw [← e1, ← e2]; exact e)
  · obtain ⟨i1, e1⟩ := g k q hq
    exact ⟨k, i1, e1⟩
def mNg : Nat → Int × Int
  | 0 => (0, 4) | 3 => (0, 24) | 9 => (0, 600) | 11 => (0, 300) | 14 => (0, 6) | 25 => (0, 8) | 31 => (0, 24) | 36 => (0, 24) | 41 => (0, 900) | _ => (-1000000000, 1000000000)
def mRg : Nat → Int × Int
  | 1 => (0, 6) | 2 => (0, 1000) | 4 => (0, 3) | 5 => (0, 5) | 6 => (0, 3599) | 7 => (0, 1000000) | 8 => (0, 3599) | 10 => (0, 255) | 12 => (0, 600) | 13 => (0, 600) | 15 => (0, 3599) | 16 => (0, 3599) | 17 => (0, 1) | 18 => ((-1), 999999) | 19 => ((-1), 999999) | 20 => ((-1), 999999) | 21 => (0, 100) | 22 => (0, 999999) | 23 => (0, 999999) | 24 => ((-1), 1000000000000) | 26 => (0, 3) | 27 => (0, 5) | 28 => (0, 3599) | 29 => (0, 3599) | 30 => ((-10000000000000000), 10000000000000000) | 32 => (0, 23) | 33 => ((-1), 1000000000000) | 34 => ((-1), 5) | 35 => (0, 2) | 37 => (0, 23) | 38 => ((-1), 1000000000000) | 39 => ((-1), 5) | 40 => (0, 2) | 42 => ((-128), 127) | _ => (-1000000000, 1000000000)
abbrev mOk : fS → Prop := fOk mNg mRg
abbrev mHyp (b : Nat → Nat) (E : State → Prop) : Prop := mInj b ∧ fSt (mA b) E
section MM
variable (l : Launch) (D : va_G) (cI cJ cZ cB : ClassId) (b : Nat → Nat) (E : State → Prop)
abbrev mMi (y : MethodName) (ws : List Cond) (rm : Room) (av : List Value) (st : fS) (post : Int → fS → Prop) : Prop := fMi l y ws rm D (fTys cI cJ cZ cB) E (wM cI cJ cZ cB b) mOk (mA b) av st post
abbrev mMl (y : MethodName) (ws : List Cond) (rm : Room) (av : List Value) (st : fS) (post : Int → fS → Prop) : Prop := fMl l y ws rm D (fTys cI cJ cZ cB) E (wM cI cJ cZ cB b) mOk (mA b) av st post
abbrev mMv (y : MethodName) (ws : List Cond) (rm : Room) (av : List Value) (st : fS) (post : fS → Prop) : Prop := fMv l y ws rm D (fTys cI cJ cZ cB) E (wM cI cJ cZ cB b) mOk (mA b) av st post
end MM
