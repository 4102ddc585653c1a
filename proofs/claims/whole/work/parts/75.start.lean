/-! ===== PART 75: new objects ===== -/
def xIni : fS := (fun _ => 0, fun r j => if r = 23 then capsF 120 j else 0)
theorem rel_ini : Rel xIni (mIni 24 120) := by
  have z : ∀ (n : Int) (f g : Int → Int), n ≤ 0 → Eqb n f g := fun n f g hn i i0 i1 => by omega
  refine ⟨⟨rfl, z _ _ _ (by decide), z _ _ _ (by decide), fun i i0 i1 => ?_⟩, fun i i0 i1 => rfl, ⟨rfl, z _ _ _ (by decide), z _ _ _ (by decide), z _ _ _ (by decide), z _ _ _ (by decide), z _ _ _ (by decide)⟩, ⟨rfl, z _ _ _ (by decide)⟩, ⟨rfl, z _ _ _ (by decide), z _ _ _ (by decide), fun e e0 e1 => ?_, fun c c0 c1 => ?_⟩, ⟨rfl, z _ _ _ (by decide), z _ _ _ (by decide), z _ _ _ (by decide), z _ _ _ (by decide)⟩, fun i i0 i1 => ?_, ⟨rfl, z _ _ _ (by decide), z _ _ _ (by decide), z _ _ _ (by decide), z _ _ _ (by decide)⟩, ⟨rfl, by decide, z _ _ _ (by decide)⟩, fun c c0 c1 => ?_, fun c c0 c1 => ?_, ⟨by decide, by decide⟩, fun c c0 c1 => ?_⟩
  · replace i0 : 0 ≤ i := i0
    show (if 0 ≤ i ∧ i < 24 then (1 : Int) else 0) = 1
    rw [if_pos ⟨i0, i1⟩]
  · exact absurd (show e < 0 from e1) (by omega)
  · exact absurd (show c < 6 * 0 from c1) (by omega)
  · rfl
  · exact absurd (show c < 6 * 0 from c1) (by omega)
  · exact absurd (show c < 6 * 0 from c1) (by omega)
  · exact absurd (show c < 6 * 0 from c1) (by omega)
theorem xOk_ini : xOk xIni := by
  refine ⟨fun k => ?_, fun r i => ?_⟩
  · show (xNg k).1 ≤ 0 ∧ 0 ≤ (xNg k).2
    unfold xNg
    split <;> decide
  · show (xRg r).1 ≤ (if r = 23 then capsF 120 i else 0) ∧ (if r = 23 then capsF 120 i else 0) ≤ (xRg r).2
    by_cases c : r = 23
    · subst c
      rw [if_pos rfl]
      unfold capsF
      split <;> decide
    · rw [if_neg c]
      unfold xRg
      split <;> decide
theorem mOk_ini : mOk (mIni 24 120) := by
  refine ⟨fun k => ?_, fun r i => ?_⟩
  · show (mNg k).1 ≤ 0 ∧ 0 ≤ (mNg k).2
    unfold mNg
    split <;> decide
  · show (mRg r).1 ≤ (if r = 2 then (if 0 ≤ i ∧ i < 24 then (1 : Int) else 0) else if r = 24 then (if 0 ≤ i ∧ i < 120 then (-1 : Int) else 0) else 0) ∧ (if r = 2 then (if 0 ≤ i ∧ i < 24 then (1 : Int) else 0) else if r = 24 then (if 0 ≤ i ∧ i < 120 then (-1 : Int) else 0) else 0) ≤ (mRg r).2
    by_cases c : r = 2
    · subst c
      rw [if_pos rfl]
      split <;> decide
    · rw [if_neg c]
      by_cases c2 : r = 24
      · subst c2
        rw [if_pos rfl]
        split <;> decide
      · rw [if_neg c2]
        unfold mRg
        split <;> decide
