/-! ===== PART 89: what is given of the start: strings, statics, nest mates ===== -/
def tmL : Nat → Term := fun i => .string RX6 ([40, 68, 76, 82, 87].getD i 0)
set_option maxRecDepth 100000 in
set_option maxHeartbeats 8000000 in
theorem lw_E {s : State} {args : Array Value} (hts : ∀ w ∈ lw_tbl, w.before args s = true) (hgv : (Jvm.Cond.and given_1 narrow_1).before args s = true) : ∃ (adK adV : Nat → Nat) (fv : Option Nat), xE adK adV fv (fun q => s.heap.size ≤ q) s := by
  have hq := flat_of_before _ hgv
  have hA : ∀ a : Nat, a < s.heap.size → ¬ (fun q => s.heap.size ≤ q) a := fun a h1 h2 => absurd (show s.heap.size ≤ a from h2) (by omega)
  have m1 : ∀ i : Nat, i < 5 → Cond.exactly (tmL i) "java/lang/String" ∈ flatC (Jvm.Cond.and given_1 narrow_1) := by decide +kernel
  have m2 : ∀ i : Nat, i < 5 → Cond.eq (.field (tmL i) "java/lang/String" "coder" "B") (.int 0) ∈ flatC (Jvm.Cond.and given_1 narrow_1) := by decide +kernel
  have m3 : ∀ i : Nat, i < 5 → Cond.arrayOf (.field (tmL i) "java/lang/String" "value" "[B") .byte ∈ flatC (Jvm.Cond.and given_1 narrow_1) := by decide +kernel
  have m4 : ∀ i : Nat, i < 5 → Cond.eq (.length (.field (tmL i) "java/lang/String" "value" "[B")) (.int (Int32.ofNat (sLen.getD i 0))) ∈ flatC (Jvm.Cond.and given_1 narrow_1) := by decide +kernel
  have m5 : ∀ i : Nat, i < 5 → ∀ j : Nat, j < sLen.getD i 0 → Cond.eq (.elem (.field (tmL i) "java/lang/String" "value" "[B") (.int (Int32.ofNat j))) (.int ((sByt.getD i []).getD j 0)) ∈ flatC (Jvm.Cond.and given_1 narrow_1) := by decide +kernel
  have m6 : ∀ i : Nat, i < 5 → ∀ j : Nat, j < 5 → i ≠ j → (Cond.not (Cond.eq (tmL i) (tmL j)) ∈ flatC (Jvm.Cond.and given_1 narrow_1) ∨ Cond.not (Cond.eq (tmL j) (tmL i)) ∈ flatC (Jvm.Cond.and given_1 narrow_1)) := by decide +kernel
  obtain ⟨adK, adV, hS, hev⟩ := vk_Sof (N := 5) (tm := tmL) (len := sLen) (byt := sByt) (A := fun q => s.heap.size ≤ q) (by decide) (fun i hi => hq _ (m1 i hi)) (fun i hi => hq _ (m2 i hi)) (fun i hi => hq _ (m3 i hi)) (fun i hi => hq _ (m4 i hi)) (fun i hi j hj => hq _ (m5 i hi j hj)) (fun i j hi hj hij => (m6 i hi j hj hij).imp (fun h => hq _ h) (fun h => hq _ h)) hA
  have hz := va_Zof (A := fun q => s.heap.size ≤ q) (hts (.laysStatic "java/lang/String" "COMPACT_STRINGS" "Z") (by decide +kernel)) (hts (.initialized "java/lang/String") (by decide +kernel)) (va_eqi (z := 1) (hq _ (by decide +kernel))) hA
  have hz2 := va_Zqof (A := fun q => s.heap.size ≤ q) (hts (.laysStatic "jdk/internal/util/Preconditions" "SIOOBE_FORMATTER" "Ljava/util/function/BiFunction;") (by decide +kernel)) (hts (.initialized "jdk/internal/util/Preconditions") (by decide +kernel)) (hq _ (by decide +kernel)) hA
  have hr : vk_R RX6 40 "kind" (adK 0) s ∧ vk_R RX6 68 "per" (adK 1) s ∧ vk_R RX6 76 "price" (adK 2) s ∧ vk_R RX6 82 "step" (adK 3) s ∧ vk_R RX6 87 "cap" (adK 4) s := ⟨vk_R.of (hts (.stringRef RX6 40 "kind") (by decide +kernel)) (hev 0 (by decide)), vk_R.of (hts (.stringRef RX6 68 "per") (by decide +kernel)) (hev 1 (by decide)), vk_R.of (hts (.stringRef RX6 76 "price") (by decide +kernel)) (hev 2 (by decide)), vk_R.of (hts (.stringRef RX6 82 "step") (by decide +kernel)) (hev 3 (by decide)), vk_R.of (hts (.stringRef RX6 87 "cap") (by decide +kernel)) (hev 4 (by decide))⟩
  rcases hz2 with hz2 | ⟨t, hz2⟩
  · exact ⟨adK, adV, none, hS, hr, hz, hz2⟩
  · exact ⟨adK, adV, some t, hS, hr, hz, hz2⟩
theorem lw_N {s : State} {args : Array Value} (hts : ∀ w ∈ lw_tbl, w.before args s = true) : xN s := by
  have h : ∀ k ∈ ([(11, yX3_init), (18, yX1_init), (25, yX7_init), (32, yX0_init), (48, yX4_init), (70, yX2_init)] : List (Nat × MethodName)), Cond.methodLinkNest RX8 k.1 k.2 "FeeRules" ∈ lw_tbl := by decide +kernel
  intro k hk
  exact va_Nw.of rfl (hts _ (h k hk))
