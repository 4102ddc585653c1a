section
-- ===== PART A: goes FIRST, ahead of the names: the tables' words, and 'selects' of the private methods out of them =====
/-- a private method of a class that the tables say can be made, by its rows of tables_1 -/
def lw_okq (q : MethodName × Nat) : Prop := (q.1.cls ≠ "java/lang/invoke/MethodHandle" ∧ q.1.cls ≠ "java/lang/invoke/VarHandle") ∧ Cond.instantiable q.1.cls q.2 ∈ tables_1 ∧ Cond.privateMethod q.1 ∈ tables_1 ∧ Cond.instanceMethod q.1 ∈ tables_1
theorem lw_p0 : lw_okq (⟨"FeeRules$RuleReader", "takeRule", "()Z"⟩, 2) := ⟨⟨by decide +kernel, by decide +kernel⟩, List.mem_of_getElem? (i := 150) (by decide +kernel), List.mem_of_getElem? (i := 334) (by decide +kernel), List.mem_of_getElem? (i := 335) (by decide +kernel)⟩
theorem lw_p1 : lw_okq (⟨"FeeRules$RuleReader", "takeWord", "(Ljava/lang/String;)Z"⟩, 2) := ⟨⟨by decide +kernel, by decide +kernel⟩, List.mem_of_getElem? (i := 150) (by decide +kernel), List.mem_of_getElem? (i := 339) (by decide +kernel), List.mem_of_getElem? (i := 340) (by decide +kernel)⟩
theorem lw_p2 : lw_okq (⟨"FeeRules$RuleReader", "takePrice", "(I)Z"⟩, 2) := ⟨⟨by decide +kernel, by decide +kernel⟩, List.mem_of_getElem? (i := 150) (by decide +kernel), List.mem_of_getElem? (i := 410) (by decide +kernel), List.mem_of_getElem? (i := 411) (by decide +kernel)⟩
theorem lw_p3 : lw_okq (⟨"FeeRules$RuleReader", "takeNumberAbove", "(J)J"⟩, 2) := ⟨⟨by decide +kernel, by decide +kernel⟩, List.mem_of_getElem? (i := 150) (by decide +kernel), List.mem_of_getElem? (i := 416) (by decide +kernel), List.mem_of_getElem? (i := 417) (by decide +kernel)⟩
theorem lw_p4 : lw_okq (⟨"FeeRules$RuleReader", "takeSteps", "(I)Z"⟩, 2) := ⟨⟨by decide +kernel, by decide +kernel⟩, List.mem_of_getElem? (i := 150) (by decide +kernel), List.mem_of_getElem? (i := 425) (by decide +kernel), List.mem_of_getElem? (i := 426) (by decide +kernel)⟩
theorem lw_p5 : lw_okq (⟨"FeeRules$RuleReader", "takeCap", "(I)Z"⟩, 2) := ⟨⟨by decide +kernel, by decide +kernel⟩, List.mem_of_getElem? (i := 150) (by decide +kernel), List.mem_of_getElem? (i := 434) (by decide +kernel), List.mem_of_getElem? (i := 435) (by decide +kernel)⟩
theorem lw_p6 : lw_okq (⟨"FeeRules", "billOf", "(IIJ)J"⟩, 8) := ⟨⟨by decide +kernel, by decide +kernel⟩, List.mem_of_getElem? (i := 16) (by decide +kernel), List.mem_of_getElem? (i := 508) (by decide +kernel), List.mem_of_getElem? (i := 509) (by decide +kernel)⟩
theorem lw_p7 : lw_okq (⟨"FeeRules", "isAskable", "(IIJ)Z"⟩, 8) := ⟨⟨by decide +kernel, by decide +kernel⟩, List.mem_of_getElem? (i := 16) (by decide +kernel), List.mem_of_getElem? (i := 512) (by decide +kernel), List.mem_of_getElem? (i := 513) (by decide +kernel)⟩
theorem lw_p8 : lw_okq (⟨"FeeRules", "editionOf", "(IJ)I"⟩, 8) := ⟨⟨by decide +kernel, by decide +kernel⟩, List.mem_of_getElem? (i := 16) (by decide +kernel), List.mem_of_getElem? (i := 527) (by decide +kernel), List.mem_of_getElem? (i := 528) (by decide +kernel)⟩
theorem lw_p9 : lw_okq (⟨"FeeRules", "isRelieved", "(I)Z"⟩, 8) := ⟨⟨by decide +kernel, by decide +kernel⟩, List.mem_of_getElem? (i := 16) (by decide +kernel), List.mem_of_getElem? (i := 531) (by decide +kernel), List.mem_of_getElem? (i := 532) (by decide +kernel)⟩
theorem lw_p10 : lw_okq (⟨"FeeRules", "centsOf", "(II)J"⟩, 8) := ⟨⟨by decide +kernel, by decide +kernel⟩, List.mem_of_getElem? (i := 16) (by decide +kernel), List.mem_of_getElem? (i := 556) (by decide +kernel), List.mem_of_getElem? (i := 557) (by decide +kernel)⟩
theorem lw_p11 : lw_okq (⟨"FeeRules$Editions", "priceOf", "(IJ)J"⟩, 12) := ⟨⟨by decide +kernel, by decide +kernel⟩, List.mem_of_getElem? (i := 105) (by decide +kernel), List.mem_of_getElem? (i := 573) (by decide +kernel), List.mem_of_getElem? (i := 574) (by decide +kernel)⟩
theorem lw_p12 : lw_okq (⟨"FeeRules", "hold", "(IJ)V"⟩, 8) := ⟨⟨by decide +kernel, by decide +kernel⟩, List.mem_of_getElem? (i := 16) (by decide +kernel), List.mem_of_getElem? (i := 586) (by decide +kernel), List.mem_of_getElem? (i := 587) (by decide +kernel)⟩
theorem lw_p13 : lw_okq (⟨"FeeRules", "lackOf", "(IIJ)I"⟩, 8) := ⟨⟨by decide +kernel, by decide +kernel⟩, List.mem_of_getElem? (i := 16) (by decide +kernel), List.mem_of_getElem? (i := 590) (by decide +kernel), List.mem_of_getElem? (i := 591) (by decide +kernel)⟩
theorem lw_p14 : lw_okq (⟨"FeeRules$HeldLines", "printNumber", "(J)V"⟩, 7) := ⟨⟨by decide +kernel, by decide +kernel⟩, List.mem_of_getElem? (i := 194) (by decide +kernel), List.mem_of_getElem? (i := 604) (by decide +kernel), List.mem_of_getElem? (i := 605) (by decide +kernel)⟩
theorem lw_p15 : lw_okq (⟨"FeeRules$HeldLines", "printSign", "(I)V"⟩, 7) := ⟨⟨by decide +kernel, by decide +kernel⟩, List.mem_of_getElem? (i := 194) (by decide +kernel), List.mem_of_getElem? (i := 609) (by decide +kernel), List.mem_of_getElem? (i := 610) (by decide +kernel)⟩
def lw_privs_1 : List (MethodName × Nat) := [(⟨"FeeRules$RuleReader", "takeRule", "()Z"⟩, 2), (⟨"FeeRules$RuleReader", "takeWord", "(Ljava/lang/String;)Z"⟩, 2), (⟨"FeeRules$RuleReader", "takePrice", "(I)Z"⟩, 2), (⟨"FeeRules$RuleReader", "takeNumberAbove", "(J)J"⟩, 2), (⟨"FeeRules$RuleReader", "takeSteps", "(I)Z"⟩, 2), (⟨"FeeRules$RuleReader", "takeCap", "(I)Z"⟩, 2), (⟨"FeeRules", "billOf", "(IIJ)J"⟩, 8), (⟨"FeeRules", "isAskable", "(IIJ)Z"⟩, 8), (⟨"FeeRules", "editionOf", "(IJ)I"⟩, 8), (⟨"FeeRules", "isRelieved", "(I)Z"⟩, 8), (⟨"FeeRules", "centsOf", "(II)J"⟩, 8), (⟨"FeeRules$Editions", "priceOf", "(IJ)J"⟩, 12), (⟨"FeeRules", "hold", "(IJ)V"⟩, 8), (⟨"FeeRules", "lackOf", "(IIJ)I"⟩, 8), (⟨"FeeRules$HeldLines", "printNumber", "(J)V"⟩, 7), (⟨"FeeRules$HeldLines", "printSign", "(I)V"⟩, 7)]
theorem lw_r1 : ∀ q ∈ lw_privs_1, lw_okq q := List.forall_mem_cons.mpr ⟨lw_p0, List.forall_mem_cons.mpr ⟨lw_p1, List.forall_mem_cons.mpr ⟨lw_p2, List.forall_mem_cons.mpr ⟨lw_p3, List.forall_mem_cons.mpr ⟨lw_p4, List.forall_mem_cons.mpr ⟨lw_p5, List.forall_mem_cons.mpr ⟨lw_p6, List.forall_mem_cons.mpr ⟨lw_p7, List.forall_mem_cons.mpr ⟨lw_p8, List.forall_mem_cons.mpr ⟨lw_p9, List.forall_mem_cons.mpr ⟨lw_p10, List.forall_mem_cons.mpr ⟨lw_p11, List.forall_mem_cons.mpr ⟨lw_p12, List.forall_mem_cons.mpr ⟨lw_p13, List.forall_mem_cons.mpr ⟨lw_p14, List.forall_mem_cons.mpr ⟨lw_p15, fun _ h => absurd h List.not_mem_nil⟩⟩⟩⟩⟩⟩⟩⟩⟩⟩⟩⟩⟩⟩⟩⟩
theorem lw_p16 : lw_okq (⟨"FeeRulesModel", "isHouse", "(I)Z"⟩, 43) := ⟨⟨by decide +kernel, by decide +kernel⟩, List.mem_of_getElem? (i := 693) (by decide +kernel), List.mem_of_getElem? (i := 840) (by decide +kernel), List.mem_of_getElem? (i := 841) (by decide +kernel)⟩
theorem lw_p17 : lw_okq (⟨"FeeRulesModel", "findWords", "()V"⟩, 43) := ⟨⟨by decide +kernel, by decide +kernel⟩, List.mem_of_getElem? (i := 693) (by decide +kernel), List.mem_of_getElem? (i := 860) (by decide +kernel), List.mem_of_getElem? (i := 861) (by decide +kernel)⟩
theorem lw_p18 : lw_okq (⟨"FeeRulesModel", "rules", "()I"⟩, 43) := ⟨⟨by decide +kernel, by decide +kernel⟩, List.mem_of_getElem? (i := 693) (by decide +kernel), List.mem_of_getElem? (i := 864) (by decide +kernel), List.mem_of_getElem? (i := 865) (by decide +kernel)⟩
theorem lw_p19 : lw_okq (⟨"FeeRulesModel", "isKindWord", "(I)Z"⟩, 43) := ⟨⟨by decide +kernel, by decide +kernel⟩, List.mem_of_getElem? (i := 693) (by decide +kernel), List.mem_of_getElem? (i := 868) (by decide +kernel), List.mem_of_getElem? (i := 869) (by decide +kernel)⟩
theorem lw_p20 : lw_okq (⟨"FeeRulesModel", "is", "(IIIIII)Z"⟩, 43) := ⟨⟨by decide +kernel, by decide +kernel⟩, List.mem_of_getElem? (i := 693) (by decide +kernel), List.mem_of_getElem? (i := 872) (by decide +kernel), List.mem_of_getElem? (i := 873) (by decide +kernel)⟩
theorem lw_p21 : lw_okq (⟨"FeeRulesModel", "number", "(I)I"⟩, 43) := ⟨⟨by decide +kernel, by decide +kernel⟩, List.mem_of_getElem? (i := 693) (by decide +kernel), List.mem_of_getElem? (i := 876) (by decide +kernel), List.mem_of_getElem? (i := 877) (by decide +kernel)⟩
theorem lw_p22 : lw_okq (⟨"FeeRulesModel", "isPer", "(I)Z"⟩, 43) := ⟨⟨by decide +kernel, by decide +kernel⟩, List.mem_of_getElem? (i := 693) (by decide +kernel), List.mem_of_getElem? (i := 880) (by decide +kernel), List.mem_of_getElem? (i := 881) (by decide +kernel)⟩
theorem lw_p23 : lw_okq (⟨"FeeRulesModel", "isPrice", "(I)Z"⟩, 43) := ⟨⟨by decide +kernel, by decide +kernel⟩, List.mem_of_getElem? (i := 693) (by decide +kernel), List.mem_of_getElem? (i := 884) (by decide +kernel), List.mem_of_getElem? (i := 885) (by decide +kernel)⟩
theorem lw_p24 : lw_okq (⟨"FeeRulesModel", "isStep", "(I)Z"⟩, 43) := ⟨⟨by decide +kernel, by decide +kernel⟩, List.mem_of_getElem? (i := 693) (by decide +kernel), List.mem_of_getElem? (i := 888) (by decide +kernel), List.mem_of_getElem? (i := 889) (by decide +kernel)⟩
theorem lw_p25 : lw_okq (⟨"FeeRulesModel", "isCap", "(I)Z"⟩, 43) := ⟨⟨by decide +kernel, by decide +kernel⟩, List.mem_of_getElem? (i := 693) (by decide +kernel), List.mem_of_getElem? (i := 892) (by decide +kernel), List.mem_of_getElem? (i := 893) (by decide +kernel)⟩
theorem lw_p26 : lw_okq (⟨"FeeRulesModel", "isFlat", "(II)Z"⟩, 43) := ⟨⟨by decide +kernel, by decide +kernel⟩, List.mem_of_getElem? (i := 693) (by decide +kernel), List.mem_of_getElem? (i := 916) (by decide +kernel), List.mem_of_getElem? (i := 917) (by decide +kernel)⟩
theorem lw_p27 : lw_okq (⟨"FeeRulesModel", "isAsked", "(IIJ)Z"⟩, 43) := ⟨⟨by decide +kernel, by decide +kernel⟩, List.mem_of_getElem? (i := 693) (by decide +kernel), List.mem_of_getElem? (i := 924) (by decide +kernel), List.mem_of_getElem? (i := 925) (by decide +kernel)⟩
theorem lw_p28 : lw_okq (⟨"FeeRulesModel", "findLines", "(IIJ)V"⟩, 43) := ⟨⟨by decide +kernel, by decide +kernel⟩, List.mem_of_getElem? (i := 693) (by decide +kernel), List.mem_of_getElem? (i := 929) (by decide +kernel), List.mem_of_getElem? (i := 930) (by decide +kernel)⟩
theorem lw_p29 : lw_okq (⟨"FeeRulesModel", "isRelieved", "(I)Z"⟩, 43) := ⟨⟨by decide +kernel, by decide +kernel⟩, List.mem_of_getElem? (i := 693) (by decide +kernel), List.mem_of_getElem? (i := 933) (by decide +kernel), List.mem_of_getElem? (i := 934) (by decide +kernel)⟩
theorem lw_p30 : lw_okq (⟨"FeeRulesModel", "editionOf", "(IJ)I"⟩, 43) := ⟨⟨by decide +kernel, by decide +kernel⟩, List.mem_of_getElem? (i := 693) (by decide +kernel), List.mem_of_getElem? (i := 937) (by decide +kernel), List.mem_of_getElem? (i := 938) (by decide +kernel)⟩
theorem lw_p31 : lw_okq (⟨"FeeRulesModel", "feeOf", "(II)J"⟩, 43) := ⟨⟨by decide +kernel, by decide +kernel⟩, List.mem_of_getElem? (i := 693) (by decide +kernel), List.mem_of_getElem? (i := 941) (by decide +kernel), List.mem_of_getElem? (i := 942) (by decide +kernel)⟩
def lw_privs_2 : List (MethodName × Nat) := [(⟨"FeeRulesModel", "isHouse", "(I)Z"⟩, 43), (⟨"FeeRulesModel", "findWords", "()V"⟩, 43), (⟨"FeeRulesModel", "rules", "()I"⟩, 43), (⟨"FeeRulesModel", "isKindWord", "(I)Z"⟩, 43), (⟨"FeeRulesModel", "is", "(IIIIII)Z"⟩, 43), (⟨"FeeRulesModel", "number", "(I)I"⟩, 43), (⟨"FeeRulesModel", "isPer", "(I)Z"⟩, 43), (⟨"FeeRulesModel", "isPrice", "(I)Z"⟩, 43), (⟨"FeeRulesModel", "isStep", "(I)Z"⟩, 43), (⟨"FeeRulesModel", "isCap", "(I)Z"⟩, 43), (⟨"FeeRulesModel", "isFlat", "(II)Z"⟩, 43), (⟨"FeeRulesModel", "isAsked", "(IIJ)Z"⟩, 43), (⟨"FeeRulesModel", "findLines", "(IIJ)V"⟩, 43), (⟨"FeeRulesModel", "isRelieved", "(I)Z"⟩, 43), (⟨"FeeRulesModel", "editionOf", "(IJ)I"⟩, 43), (⟨"FeeRulesModel", "feeOf", "(II)J"⟩, 43)]
theorem lw_r2 : ∀ q ∈ lw_privs_2, lw_okq q := List.forall_mem_cons.mpr ⟨lw_p16, List.forall_mem_cons.mpr ⟨lw_p17, List.forall_mem_cons.mpr ⟨lw_p18, List.forall_mem_cons.mpr ⟨lw_p19, List.forall_mem_cons.mpr ⟨lw_p20, List.forall_mem_cons.mpr ⟨lw_p21, List.forall_mem_cons.mpr ⟨lw_p22, List.forall_mem_cons.mpr ⟨lw_p23, List.forall_mem_cons.mpr ⟨lw_p24, List.forall_mem_cons.mpr ⟨lw_p25, List.forall_mem_cons.mpr ⟨lw_p26, List.forall_mem_cons.mpr ⟨lw_p27, List.forall_mem_cons.mpr ⟨lw_p28, List.forall_mem_cons.mpr ⟨lw_p29, List.forall_mem_cons.mpr ⟨lw_p30, List.forall_mem_cons.mpr ⟨lw_p31, fun _ h => absurd h List.not_mem_nil⟩⟩⟩⟩⟩⟩⟩⟩⟩⟩⟩⟩⟩⟩⟩⟩
theorem lw_p32 : lw_okq (⟨"FeeRulesModel", "putNumber", "(J)V"⟩, 43) := ⟨⟨by decide +kernel, by decide +kernel⟩, List.mem_of_getElem? (i := 693) (by decide +kernel), List.mem_of_getElem? (i := 949) (by decide +kernel), List.mem_of_getElem? (i := 950) (by decide +kernel)⟩
theorem lw_p33 : lw_okq (⟨"FeeRulesModel", "put", "(I)V"⟩, 43) := ⟨⟨by decide +kernel, by decide +kernel⟩, List.mem_of_getElem? (i := 693) (by decide +kernel), List.mem_of_getElem? (i := 954) (by decide +kernel), List.mem_of_getElem? (i := 955) (by decide +kernel)⟩
def lw_privs_3 : List (MethodName × Nat) := [(⟨"FeeRulesModel", "putNumber", "(J)V"⟩, 43), (⟨"FeeRulesModel", "put", "(I)V"⟩, 43)]
theorem lw_r3 : ∀ q ∈ lw_privs_3, lw_okq q := List.forall_mem_cons.mpr ⟨lw_p32, List.forall_mem_cons.mpr ⟨lw_p33, fun _ h => absurd h List.not_mem_nil⟩⟩
def lw_privs : List (MethodName × Nat) := lw_privs_1 ++ (lw_privs_2 ++ (lw_privs_3))
def lw_tbl : List Cond := k2_sels lw_privs ++ tables_1
theorem lw_privs_ok : ∀ q ∈ lw_privs, lw_okq q := by
  show ∀ q ∈ lw_privs_1 ++ (lw_privs_2 ++ (lw_privs_3)), lw_okq q
  exact List.forall_mem_append.mpr ⟨lw_r1, List.forall_mem_append.mpr ⟨lw_r2, lw_r3⟩⟩
-- ===== end of PART A; then your names; then what follows =====
end
section
/-! ===== BEGIN words of one list among another's, by their places ===== -/
theorem goodIn_r {big : List Cond} (ws : List Cond) (ps : List Nat) (hp : ws = ps.filterMap (fun i => big[i]?)) (h : ws.all goodWord = true) : GoodIn big ws := by
  intro w hw
  have h1 := List.all_eq_true.mp h w hw
  rw [hp] at hw
  obtain ⟨i, -, hi⟩ := List.mem_filterMap.mp hw
  have hm : w ∈ big := by first | exact List.mem_of_getElem? hi | exact List.getElem?_mem hi
  exact ⟨hm, good_of_word h1⟩
theorem goodIn_app {big a b : List Cond} (ha : GoodIn big a) (hb : GoodIn big b) : GoodIn big (a ++ b) := fun w h => (List.mem_append.mp h).elim (ha w) (hb w)
theorem goodIn_ca {big a b : List Cond} {c : Cond} (ha : GoodIn big (c :: a)) (hb : GoodIn big b) : GoodIn big (c :: (a ++ b)) := fun w h => (List.mem_cons.mp h).elim (fun e => ha w (List.mem_cons.mpr (Or.inl e))) (fun h => (List.mem_append.mp h).elim (fun h => ha w (List.mem_cons.mpr (Or.inr h))) (hb w))
theorem goodIn_sub {big ws : List Cond} (hm : ∀ w ∈ ws, w ∈ big) (h : ws.all goodWord = true) : GoodIn big ws := fun w hw => ⟨hm w hw, good_of_word (List.all_eq_true.mp h w hw)⟩
/-! ===== END ===== -/

/-! ===== BEGIN printed: names, fields, word lists, decode rows ===== -/
def RX0 : String := "FeeRules$Editions"
def TX0 : u_T := fun k => match k with
  | 0 => ("FeeRules$Editions", "fromDays", "LFeeRules$Row;", true)
  | 1 => ("FeeRules$Editions", "knownDays", "LFeeRules$Row;", true)
  | 2 => ("FeeRules$Editions", "ruleCounts", "LFeeRules$Row;", true)
  | 3 => ("FeeRules$Editions", "pers", "LFeeRules$Row;", true)
  | 4 => ("FeeRules$Editions", "prices", "LFeeRules$Row;", true)
  | 5 => ("FeeRules$Editions", "caps", "LFeeRules$Row;", true)
  | 6 => ("FeeRules$Editions", "firstSteps", "LFeeRules$Row;", true)
  | 7 => ("FeeRules$Editions", "stepCounts", "LFeeRules$Row;", true)
  | 8 => ("FeeRules$Editions", "stepStarts", "LFeeRules$Row;", true)
  | 9 => ("FeeRules$Editions", "stepPrices", "LFeeRules$Row;", true)
  | 10 => ("FeeRules$Editions", "count", "I", false)
  | _ => ("FeeRules$Editions", "draftSteps", "I", false)
def tyX0 : Nat → FieldType := fun k => match k with
  | 0 => .object "FeeRules$Row"
  | 1 => .object "FeeRules$Row"
  | 2 => .object "FeeRules$Row"
  | 3 => .object "FeeRules$Row"
  | 4 => .object "FeeRules$Row"
  | 5 => .object "FeeRules$Row"
  | 6 => .object "FeeRules$Row"
  | 7 => .object "FeeRules$Row"
  | 8 => .object "FeeRules$Row"
  | 9 => .object "FeeRules$Row"
  | 10 => .int
  | _ => .int
abbrev wsX00 : List Cond := u_ws RX0 TX0 12
theorem nmX0 : ∀ a, a < 12 → ∀ b, b < 12 → a ≠ b → (TX0 a).2.1 ≠ (TX0 b).2.1 := by decide +kernel
theorem tyX0_ok : ∀ k, k < 12 → parseFieldDescriptor (TX0 k).2.2.1 = some (tyX0 k) := by decide +kernel
abbrev cX0_init : ByteArray := prog_2_method_1_code
def yX0_init : MethodName := ⟨RX0, "<init>", "()V"⟩
abbrev cX0_isFull : ByteArray := prog_2_method_2_code
def yX0_isFull : MethodName := ⟨RX0, "isFull", "()Z"⟩
abbrev cX0_has : ByteArray := prog_2_method_3_code
def yX0_has : MethodName := ⟨RX0, "has", "(I)Z"⟩
abbrev cX0_actsFrom : ByteArray := prog_2_method_4_code
def yX0_actsFrom : MethodName := ⟨RX0, "actsFrom", "(I)J"⟩
abbrev cX0_knownFrom : ByteArray := prog_2_method_5_code
def yX0_knownFrom : MethodName := ⟨RX0, "knownFrom", "(I)J"⟩
abbrev cX0_ruleCount : ByteArray := prog_2_method_6_code
def yX0_ruleCount : MethodName := ⟨RX0, "ruleCount", "(I)J"⟩
abbrev cX0_cellOf : ByteArray := prog_2_method_7_code
def yX0_cellOf : MethodName := ⟨RX0, "cellOf", "(II)I"⟩
abbrev cX0_startDraft : ByteArray := prog_2_method_8_code
def yX0_startDraft : MethodName := ⟨RX0, "startDraft", "()V"⟩
abbrev cX0_draftHasRule : ByteArray := prog_2_method_9_code
def yX0_draftHasRule : MethodName := ⟨RX0, "draftHasRule", "(I)Z"⟩
abbrev cX0_tellRule : ByteArray := prog_2_method_10_code
def yX0_tellRule : MethodName := ⟨RX0, "tellRule", "(IJJ)V"⟩
abbrev cX0_tellStep : ByteArray := prog_2_method_11_code
def yX0_tellStep : MethodName := ⟨RX0, "tellStep", "(IJJ)V"⟩
abbrev cX0_tellCap : ByteArray := prog_2_method_12_code
def yX0_tellCap : MethodName := ⟨RX0, "tellCap", "(IJ)V"⟩
abbrev cX0_keepDraft : ByteArray := prog_2_method_13_code
def yX0_keepDraft : MethodName := ⟨RX0, "keepDraft", "(JJI)V"⟩
abbrev cX0_latest : ByteArray := prog_2_method_14_code
def yX0_latest : MethodName := ⟨RX0, "latest", "(JJ)I"⟩
abbrev cX0_hasRule : ByteArray := prog_2_method_15_code
def yX0_hasRule : MethodName := ⟨RX0, "hasRule", "(II)Z"⟩
abbrev cX0_feeOf : ByteArray := prog_2_method_16_code
def yX0_feeOf : MethodName := ⟨RX0, "feeOf", "(IIJ)J"⟩
abbrev cX0_priceOf : ByteArray := prog_2_method_17_code
def yX0_priceOf : MethodName := ⟨RX0, "priceOf", "(IJ)J"⟩
def RX1 : String := "FeeRules$Facts"
def TX1 : u_T := fun k => match k with
  | 0 => ("FeeRules$Facts", "houses", "LFeeRules$Row;", true)
  | 1 => ("FeeRules$Facts", "kinds", "LFeeRules$Row;", true)
  | 2 => ("FeeRules$Facts", "days", "LFeeRules$Row;", true)
  | 3 => ("FeeRules$Facts", "measures", "LFeeRules$Row;", true)
  | 4 => ("FeeRules$Facts", "knownDays", "LFeeRules$Row;", true)
  | _ => ("FeeRules$Facts", "count", "I", false)
def tyX1 : Nat → FieldType := fun k => match k with
  | 0 => .object "FeeRules$Row"
  | 1 => .object "FeeRules$Row"
  | 2 => .object "FeeRules$Row"
  | 3 => .object "FeeRules$Row"
  | 4 => .object "FeeRules$Row"
  | _ => .int
abbrev wsX10 : List Cond := u_ws RX1 TX1 6
theorem nmX1 : ∀ a, a < 6 → ∀ b, b < 6 → a ≠ b → (TX1 a).2.1 ≠ (TX1 b).2.1 := by decide +kernel
theorem tyX1_ok : ∀ k, k < 6 → parseFieldDescriptor (TX1 k).2.2.1 = some (tyX1 k) := by decide +kernel
abbrev cX1_init : ByteArray := prog_3_method_1_code
def yX1_init : MethodName := ⟨RX1, "<init>", "()V"⟩
abbrev cX1_add : ByteArray := prog_3_method_2_code
def yX1_add : MethodName := ⟨RX1, "add", "(IIJJJ)I"⟩
abbrev cX1_count : ByteArray := prog_3_method_3_code
def yX1_count : MethodName := ⟨RX1, "count", "()I"⟩
abbrev cX1_houseOf : ByteArray := prog_3_method_4_code
def yX1_houseOf : MethodName := ⟨RX1, "houseOf", "(I)I"⟩
abbrev cX1_kindOf : ByteArray := prog_3_method_5_code
def yX1_kindOf : MethodName := ⟨RX1, "kindOf", "(I)I"⟩
abbrev cX1_dayOf : ByteArray := prog_3_method_6_code
def yX1_dayOf : MethodName := ⟨RX1, "dayOf", "(I)J"⟩
abbrev cX1_measureOf : ByteArray := prog_3_method_7_code
def yX1_measureOf : MethodName := ⟨RX1, "measureOf", "(I)J"⟩
abbrev cX1_isOf : ByteArray := prog_3_method_8_code
def yX1_isOf : MethodName := ⟨RX1, "isOf", "(IIIJ)Z"⟩
def RX2 : String := "FeeRules$HeldLines"
def TX2 : u_T := fun k => match k with
  | 0 => ("FeeRules$HeldLines", "facts", "LFeeRules$Row;", true)
  | 1 => ("FeeRules$HeldLines", "cents", "LFeeRules$Row;", true)
  | 2 => ("FeeRules$HeldLines", "editions", "LFeeRules$Row;", true)
  | 3 => ("FeeRules$HeldLines", "lacks", "LFeeRules$Row;", true)
  | 4 => ("FeeRules$HeldLines", "printed", "LFeeRules$Row;", true)
  | 5 => ("FeeRules$HeldLines", "count", "I", false)
  | _ => ("FeeRules$HeldLines", "printedCount", "I", false)
def tyX2 : Nat → FieldType := fun k => match k with
  | 0 => .object "FeeRules$Row"
  | 1 => .object "FeeRules$Row"
  | 2 => .object "FeeRules$Row"
  | 3 => .object "FeeRules$Row"
  | 4 => .object "FeeRules$Row"
  | 5 => .int
  | _ => .int
abbrev wsX20 : List Cond := u_ws RX2 TX2 7
theorem nmX2 : ∀ a, a < 7 → ∀ b, b < 7 → a ≠ b → (TX2 a).2.1 ≠ (TX2 b).2.1 := by decide +kernel
theorem tyX2_ok : ∀ k, k < 7 → parseFieldDescriptor (TX2 k).2.2.1 = some (tyX2 k) := by decide +kernel
abbrev cX2_init : ByteArray := prog_4_method_1_code
def yX2_init : MethodName := ⟨RX2, "<init>", "()V"⟩
abbrev cX2_clear : ByteArray := prog_4_method_2_code
def yX2_clear : MethodName := ⟨RX2, "clear", "()V"⟩
abbrev cX2_add : ByteArray := prog_4_method_3_code
def yX2_add : MethodName := ⟨RX2, "add", "(IJII)V"⟩
abbrev cX2_count : ByteArray := prog_4_method_4_code
def yX2_count : MethodName := ⟨RX2, "count", "()I"⟩
abbrev cX2_has : ByteArray := prog_4_method_5_code
def yX2_has : MethodName := ⟨RX2, "has", "(I)Z"⟩
abbrev cX2_factOf : ByteArray := prog_4_method_6_code
def yX2_factOf : MethodName := ⟨RX2, "factOf", "(I)J"⟩
abbrev cX2_centsOf : ByteArray := prog_4_method_7_code
def yX2_centsOf : MethodName := ⟨RX2, "centsOf", "(I)J"⟩
abbrev cX2_editionOf : ByteArray := prog_4_method_8_code
def yX2_editionOf : MethodName := ⟨RX2, "editionOf", "(I)J"⟩
abbrev cX2_lackOf : ByteArray := prog_4_method_9_code
def yX2_lackOf : MethodName := ⟨RX2, "lackOf", "(I)J"⟩
abbrev cX2_openFact : ByteArray := prog_4_method_10_code
def yX2_openFact : MethodName := ⟨RX2, "openFact", "(I)I"⟩
abbrev cX2_printedByte : ByteArray := prog_4_method_11_code
def yX2_printedByte : MethodName := ⟨RX2, "printedByte", "(I)I"⟩
abbrev cX2_print : ByteArray := prog_4_method_12_code
def yX2_print : MethodName := ⟨RX2, "print", "(IJJ)V"⟩
abbrev cX2_printNumber : ByteArray := prog_4_method_13_code
def yX2_printNumber : MethodName := ⟨RX2, "printNumber", "(J)V"⟩
abbrev cX2_printSign : ByteArray := prog_4_method_14_code
def yX2_printSign : MethodName := ⟨RX2, "printSign", "(I)V"⟩
def RX3 : String := "FeeRules$Houses"
def TX3 : u_T := fun k => match k with
  | 0 => ("FeeRules$Houses", "flats", "LFeeRules$Row;", true)
  | 1 => ("FeeRules$Houses", "weights", "LFeeRules$Row;", true)
  | 2 => ("FeeRules$Houses", "issuedCents", "LFeeRules$Row;", true)
  | _ => ("FeeRules$Houses", "count", "I", false)
def tyX3 : Nat → FieldType := fun k => match k with
  | 0 => .object "FeeRules$Row"
  | 1 => .object "FeeRules$Row"
  | 2 => .object "FeeRules$Row"
  | _ => .int
abbrev wsX30 : List Cond := u_ws RX3 TX3 4
theorem nmX3 : ∀ a, a < 4 → ∀ b, b < 4 → a ≠ b → (TX3 a).2.1 ≠ (TX3 b).2.1 := by decide +kernel
theorem tyX3_ok : ∀ k, k < 4 → parseFieldDescriptor (TX3 k).2.2.1 = some (tyX3 k) := by decide +kernel
abbrev cX3_init : ByteArray := prog_5_method_1_code
def yX3_init : MethodName := ⟨RX3, "<init>", "()V"⟩
abbrev cX3_add : ByteArray := prog_5_method_2_code
def yX3_add : MethodName := ⟨RX3, "add", "(I)I"⟩
abbrev cX3_has : ByteArray := prog_5_method_3_code
def yX3_has : MethodName := ⟨RX3, "has", "(I)Z"⟩
abbrev cX3_hasFlat : ByteArray := prog_5_method_4_code
def yX3_hasFlat : MethodName := ⟨RX3, "hasFlat", "(II)Z"⟩
abbrev cX3_setWeight : ByteArray := prog_5_method_5_code
def yX3_setWeight : MethodName := ⟨RX3, "setWeight", "(III)V"⟩
abbrev cX3_weightOf : ByteArray := prog_5_method_6_code
def yX3_weightOf : MethodName := ⟨RX3, "weightOf", "(II)J"⟩
abbrev cX3_shareOf : ByteArray := prog_5_method_7_code
def yX3_shareOf : MethodName := ⟨RX3, "shareOf", "(IIJ)J"⟩
abbrev cX3_issuedOf : ByteArray := prog_5_method_8_code
def yX3_issuedOf : MethodName := ⟨RX3, "issuedOf", "(II)J"⟩
abbrev cX3_setIssued : ByteArray := prog_5_method_9_code
def yX3_setIssued : MethodName := ⟨RX3, "setIssued", "(IIJ)V"⟩
def RX4 : String := "FeeRules$Reliefs"
def TX4 : u_T := fun k => match k with
  | 0 => ("FeeRules$Reliefs", "houses", "LFeeRules$Row;", true)
  | 1 => ("FeeRules$Reliefs", "kinds", "LFeeRules$Row;", true)
  | 2 => ("FeeRules$Reliefs", "firstDays", "LFeeRules$Row;", true)
  | 3 => ("FeeRules$Reliefs", "lastDays", "LFeeRules$Row;", true)
  | _ => ("FeeRules$Reliefs", "count", "I", false)
def tyX4 : Nat → FieldType := fun k => match k with
  | 0 => .object "FeeRules$Row"
  | 1 => .object "FeeRules$Row"
  | 2 => .object "FeeRules$Row"
  | 3 => .object "FeeRules$Row"
  | _ => .int
abbrev wsX40 : List Cond := u_ws RX4 TX4 5
theorem nmX4 : ∀ a, a < 5 → ∀ b, b < 5 → a ≠ b → (TX4 a).2.1 ≠ (TX4 b).2.1 := by decide +kernel
theorem tyX4_ok : ∀ k, k < 5 → parseFieldDescriptor (TX4 k).2.2.1 = some (tyX4 k) := by decide +kernel
abbrev cX4_init : ByteArray := prog_6_method_1_code
def yX4_init : MethodName := ⟨RX4, "<init>", "()V"⟩
abbrev cX4_add : ByteArray := prog_6_method_2_code
def yX4_add : MethodName := ⟨RX4, "add", "(IIJJ)Z"⟩
abbrev cX4_relieve : ByteArray := prog_6_method_3_code
def yX4_relieve : MethodName := ⟨RX4, "relieve", "(IIJ)Z"⟩
def RX5 : String := "FeeRules$Row"
def TX5 : u_T := fun k => match k with
  | _ => ("FeeRules$Row", "cells", "[J", true)
def tyX5 : Nat → FieldType := fun k => match k with
  | _ => .array .long
abbrev wsX50 : List Cond := u_ws RX5 TX5 1
theorem nmX5 : ∀ a, a < 1 → ∀ b, b < 1 → a ≠ b → (TX5 a).2.1 ≠ (TX5 b).2.1 := by decide +kernel
theorem tyX5_ok : ∀ k, k < 1 → parseFieldDescriptor (TX5 k).2.2.1 = some (tyX5 k) := by decide +kernel
abbrev cX5_init : ByteArray := prog_7_method_1_code
def yX5_init : MethodName := ⟨RX5, "<init>", "(I)V"⟩
abbrev cX5_get : ByteArray := prog_7_method_2_code
def yX5_get : MethodName := ⟨RX5, "get", "(I)J"⟩
abbrev cX5_set : ByteArray := prog_7_method_3_code
def yX5_set : MethodName := ⟨RX5, "set", "(IJ)V"⟩
def RX6 : String := "FeeRules$RuleReader"
def TX6 : u_T := fun k => match k with
  | 0 => ("FeeRules$RuleReader", "text", "LFeeRules$Text;", true)
  | _ => ("FeeRules$RuleReader", "editions", "LFeeRules$Editions;", true)
def tyX6 : Nat → FieldType := fun k => match k with
  | 0 => .object "FeeRules$Text"
  | _ => .object "FeeRules$Editions"
abbrev wsX60 : List Cond := u_ws RX6 TX6 2
theorem nmX6 : ∀ a, a < 2 → ∀ b, b < 2 → a ≠ b → (TX6 a).2.1 ≠ (TX6 b).2.1 := by decide +kernel
theorem tyX6_ok : ∀ k, k < 2 → parseFieldDescriptor (TX6 k).2.2.1 = some (tyX6 k) := by decide +kernel
abbrev cX6_init : ByteArray := prog_8_method_1_code
def yX6_init : MethodName := ⟨RX6, "<init>", "(LFeeRules$Text;LFeeRules$Editions;)V"⟩
abbrev cX6_readRules : ByteArray := prog_8_method_2_code
def yX6_readRules : MethodName := ⟨RX6, "readRules", "()I"⟩
abbrev cX6_takeRule : ByteArray := prog_8_method_3_code
def yX6_takeRule : MethodName := ⟨RX6, "takeRule", "()Z"⟩
abbrev cX6_takePrice : ByteArray := prog_8_method_4_code
def yX6_takePrice : MethodName := ⟨RX6, "takePrice", "(I)Z"⟩
abbrev cX6_takeSteps : ByteArray := prog_8_method_5_code
def yX6_takeSteps : MethodName := ⟨RX6, "takeSteps", "(I)Z"⟩
abbrev cX6_takeCap : ByteArray := prog_8_method_6_code
def yX6_takeCap : MethodName := ⟨RX6, "takeCap", "(I)Z"⟩
abbrev cX6_takeWord : ByteArray := prog_8_method_7_code
def yX6_takeWord : MethodName := ⟨RX6, "takeWord", "(Ljava/lang/String;)Z"⟩
abbrev cX6_takeNumberAbove : ByteArray := prog_8_method_8_code
def yX6_takeNumberAbove : MethodName := ⟨RX6, "takeNumberAbove", "(J)J"⟩
def RX7 : String := "FeeRules$Text"
def TX7 : u_T := fun k => match k with
  | 0 => ("FeeRules$Text", "bytes", "LFeeRules$Row;", true)
  | 1 => ("FeeRules$Text", "length", "I", false)
  | 2 => ("FeeRules$Text", "wordStart", "I", false)
  | 3 => ("FeeRules$Text", "wordEnd", "I", false)
  | _ => ("FeeRules$Text", "wordNumber", "I", false)
def tyX7 : Nat → FieldType := fun k => match k with
  | 0 => .object "FeeRules$Row"
  | 1 => .int
  | 2 => .int
  | 3 => .int
  | _ => .int
abbrev wsX70 : List Cond := u_ws RX7 TX7 5
theorem nmX7 : ∀ a, a < 5 → ∀ b, b < 5 → a ≠ b → (TX7 a).2.1 ≠ (TX7 b).2.1 := by decide +kernel
theorem tyX7_ok : ∀ k, k < 5 → parseFieldDescriptor (TX7 k).2.2.1 = some (tyX7 k) := by decide +kernel
abbrev cX7_init : ByteArray := prog_9_method_1_code
def yX7_init : MethodName := ⟨RX7, "<init>", "()V"⟩
abbrev cX7_add : ByteArray := prog_9_method_2_code
def yX7_add : MethodName := ⟨RX7, "add", "(I)Z"⟩
abbrev cX7_clear : ByteArray := prog_9_method_3_code
def yX7_clear : MethodName := ⟨RX7, "clear", "()V"⟩
abbrev cX7_toFirstWord : ByteArray := prog_9_method_4_code
def yX7_toFirstWord : MethodName := ⟨RX7, "toFirstWord", "()V"⟩
abbrev cX7_toNextWord : ByteArray := prog_9_method_5_code
def yX7_toNextWord : MethodName := ⟨RX7, "toNextWord", "()V"⟩
abbrev cX7_isBlank : ByteArray := prog_9_method_6_code
def yX7_isBlank : MethodName := ⟨RX7, "isBlank", "(J)Z"⟩
abbrev cX7_hasWord : ByteArray := prog_9_method_7_code
def yX7_hasWord : MethodName := ⟨RX7, "hasWord", "()Z"⟩
abbrev cX7_numberOfWord : ByteArray := prog_9_method_8_code
def yX7_numberOfWord : MethodName := ⟨RX7, "numberOfWord", "()I"⟩
abbrev cX7_isWord : ByteArray := prog_9_method_9_code
def yX7_isWord : MethodName := ⟨RX7, "isWord", "(Ljava/lang/String;)Z"⟩
abbrev cX7_asNumber : ByteArray := prog_9_method_10_code
def yX7_asNumber : MethodName := ⟨RX7, "asNumber", "()J"⟩
def RX8 : String := "FeeRules"
def TX8 : u_T := fun k => match k with
  | 0 => ("FeeRules", "houses", "LFeeRules$Houses;", true)
  | 1 => ("FeeRules", "facts", "LFeeRules$Facts;", true)
  | 2 => ("FeeRules", "text", "LFeeRules$Text;", true)
  | 3 => ("FeeRules", "editions", "LFeeRules$Editions;", true)
  | 4 => ("FeeRules", "reader", "LFeeRules$RuleReader;", true)
  | 5 => ("FeeRules", "reliefs", "LFeeRules$Reliefs;", true)
  | 6 => ("FeeRules", "monthCaps", "LFeeRules$Row;", true)
  | _ => ("FeeRules", "held", "LFeeRules$HeldLines;", true)
def tyX8 : Nat → FieldType := fun k => match k with
  | 0 => .object "FeeRules$Houses"
  | 1 => .object "FeeRules$Facts"
  | 2 => .object "FeeRules$Text"
  | 3 => .object "FeeRules$Editions"
  | 4 => .object "FeeRules$RuleReader"
  | 5 => .object "FeeRules$Reliefs"
  | 6 => .object "FeeRules$Row"
  | _ => .object "FeeRules$HeldLines"
abbrev wsX80 : List Cond := u_ws RX8 TX8 8
theorem nmX8 : ∀ a, a < 8 → ∀ b, b < 8 → a ≠ b → (TX8 a).2.1 ≠ (TX8 b).2.1 := by decide +kernel
theorem tyX8_ok : ∀ k, k < 8 → parseFieldDescriptor (TX8 k).2.2.1 = some (tyX8 k) := by decide +kernel
abbrev cX8_init : ByteArray := prog_1_method_1_code
def yX8_init : MethodName := ⟨RX8, "<init>", "()V"⟩
abbrev cX8_house : ByteArray := prog_1_method_2_code
def yX8_house : MethodName := ⟨RX8, "house", "(I)I"⟩
abbrev cX8_fact : ByteArray := prog_1_method_3_code
def yX8_fact : MethodName := ⟨RX8, "fact", "(IIJJJ)I"⟩
abbrev cX8_unit : ByteArray := prog_1_method_4_code
def yX8_unit : MethodName := ⟨RX8, "unit", "(I)Z"⟩
abbrev cX8_read : ByteArray := prog_1_method_5_code
def yX8_read : MethodName := ⟨RX8, "read", "(JJ)I"⟩
abbrev cX8_edition : ByteArray := prog_1_method_6_code
def yX8_edition : MethodName := ⟨RX8, "edition", "(II)I"⟩
abbrev cX8_cap : ByteArray := prog_1_method_7_code
def yX8_cap : MethodName := ⟨RX8, "cap", "(IJ)Z"⟩
abbrev cX8_relief : ByteArray := prog_1_method_8_code
def yX8_relief : MethodName := ⟨RX8, "relief", "(IIJJ)Z"⟩
abbrev cX8_weight : ByteArray := prog_1_method_9_code
def yX8_weight : MethodName := ⟨RX8, "weight", "(III)Z"⟩
abbrev cX8_bill : ByteArray := prog_1_method_10_code
def yX8_bill : MethodName := ⟨RX8, "bill", "(IIJ)J"⟩
abbrev cX8_walk : ByteArray := prog_1_method_11_code
def yX8_walk : MethodName := ⟨RX8, "walk", "(IIJ)I"⟩
abbrev cX8_line : ByteArray := prog_1_method_12_code
def yX8_line : MethodName := ⟨RX8, "line", "(II)J"⟩
abbrev cX8_open : ByteArray := prog_1_method_13_code
def yX8_open : MethodName := ⟨RX8, "open", "(I)I"⟩
abbrev cX8_write : ByteArray := prog_1_method_14_code
def yX8_write : MethodName := ⟨RX8, "write", "(I)I"⟩
abbrev cX8_flat : ByteArray := prog_1_method_15_code
def yX8_flat : MethodName := ⟨RX8, "flat", "(IIJI)J"⟩
abbrev cX8_issue : ByteArray := prog_1_method_16_code
def yX8_issue : MethodName := ⟨RX8, "issue", "(IIJ)J"⟩
abbrev cX8_issued : ByteArray := prog_1_method_17_code
def yX8_issued : MethodName := ⟨RX8, "issued", "(II)J"⟩
abbrev cX8_reverse : ByteArray := prog_1_method_18_code
def yX8_reverse : MethodName := ⟨RX8, "reverse", "(II)J"⟩
abbrev cX8_isKind : ByteArray := prog_1_method_19_code
def yX8_isKind : MethodName := ⟨RX8, "isKind", "(I)Z"⟩
abbrev cX8_isDay : ByteArray := prog_1_method_20_code
def yX8_isDay : MethodName := ⟨RX8, "isDay", "(J)Z"⟩
abbrev cX8_isMonth : ByteArray := prog_1_method_21_code
def yX8_isMonth : MethodName := ⟨RX8, "isMonth", "(I)Z"⟩
abbrev cX8_isAskable : ByteArray := prog_1_method_22_code
def yX8_isAskable : MethodName := ⟨RX8, "isAskable", "(IIJ)Z"⟩
abbrev cX8_billOf : ByteArray := prog_1_method_23_code
def yX8_billOf : MethodName := ⟨RX8, "billOf", "(IIJ)J"⟩
abbrev cX8_hold : ByteArray := prog_1_method_24_code
def yX8_hold : MethodName := ⟨RX8, "hold", "(IJ)V"⟩
abbrev cX8_isRelieved : ByteArray := prog_1_method_25_code
def yX8_isRelieved : MethodName := ⟨RX8, "isRelieved", "(I)Z"⟩
abbrev cX8_editionOf : ByteArray := prog_1_method_26_code
def yX8_editionOf : MethodName := ⟨RX8, "editionOf", "(IJ)I"⟩
abbrev cX8_centsOf : ByteArray := prog_1_method_27_code
def yX8_centsOf : MethodName := ⟨RX8, "centsOf", "(II)J"⟩
abbrev cX8_lackOf : ByteArray := prog_1_method_28_code
def yX8_lackOf : MethodName := ⟨RX8, "lackOf", "(IIJ)I"⟩
def RX9 : String := "FeeRulesModel"
def TX9 : u_T := fun k => match k with
  | 0 => ("FeeRulesModel", "houses", "I", false)
  | 1 => ("FeeRulesModel", "flats", "[I", true)
  | 2 => ("FeeRulesModel", "weights", "[I", true)
  | 3 => ("FeeRulesModel", "facts", "I", false)
  | 4 => ("FeeRulesModel", "factHouse", "[I", true)
  | 5 => ("FeeRulesModel", "factKind", "[I", true)
  | 6 => ("FeeRulesModel", "factDay", "[I", true)
  | 7 => ("FeeRulesModel", "factMeasure", "[I", true)
  | 8 => ("FeeRulesModel", "factKnown", "[I", true)
  | 9 => ("FeeRulesModel", "typed", "I", false)
  | 10 => ("FeeRulesModel", "text", "[I", true)
  | 11 => ("FeeRulesModel", "words", "I", false)
  | 12 => ("FeeRulesModel", "begin", "[I", true)
  | 13 => ("FeeRulesModel", "end", "[I", true)
  | 14 => ("FeeRulesModel", "editions", "I", false)
  | 15 => ("FeeRulesModel", "from", "[I", true)
  | 16 => ("FeeRulesModel", "known", "[I", true)
  | 17 => ("FeeRulesModel", "rule", "[Z", true)
  | 18 => ("FeeRulesModel", "per", "[I", true)
  | 19 => ("FeeRulesModel", "price", "[I", true)
  | 20 => ("FeeRulesModel", "most", "[I", true)
  | 21 => ("FeeRulesModel", "steps", "[I", true)
  | 22 => ("FeeRulesModel", "stepAt", "[I", true)
  | 23 => ("FeeRulesModel", "stepPrice", "[I", true)
  | 24 => ("FeeRulesModel", "caps", "[J", true)
  | 25 => ("FeeRulesModel", "reliefs", "I", false)
  | 26 => ("FeeRulesModel", "reliefHouse", "[I", true)
  | 27 => ("FeeRulesModel", "reliefKind", "[I", true)
  | 28 => ("FeeRulesModel", "reliefFrom", "[I", true)
  | 29 => ("FeeRulesModel", "reliefTo", "[I", true)
  | 30 => ("FeeRulesModel", "issued", "[J", true)
  | 31 => ("FeeRulesModel", "lines", "I", false)
  | 32 => ("FeeRulesModel", "lineFact", "[I", true)
  | 33 => ("FeeRulesModel", "lineCents", "[J", true)
  | 34 => ("FeeRulesModel", "lineEdition", "[I", true)
  | 35 => ("FeeRulesModel", "lineLacks", "[I", true)
  | 36 => ("FeeRulesModel", "held", "I", false)
  | 37 => ("FeeRulesModel", "heldFact", "[I", true)
  | 38 => ("FeeRulesModel", "heldCents", "[J", true)
  | 39 => ("FeeRulesModel", "heldEdition", "[I", true)
  | 40 => ("FeeRulesModel", "heldLacks", "[I", true)
  | 41 => ("FeeRulesModel", "written", "I", false)
  | _ => ("FeeRulesModel", "writing", "[B", true)
def tyX9 : Nat → FieldType := fun k => match k with
  | 0 => .int
  | 1 => .array .int
  | 2 => .array .int
  | 3 => .int
  | 4 => .array .int
  | 5 => .array .int
  | 6 => .array .int
  | 7 => .array .int
  | 8 => .array .int
  | 9 => .int
  | 10 => .array .int
  | 11 => .int
  | 12 => .array .int
  | 13 => .array .int
  | 14 => .int
  | 15 => .array .int
  | 16 => .array .int
  | 17 => .array .boolean
  | 18 => .array .int
  | 19 => .array .int
  | 20 => .array .int
  | 21 => .array .int
  | 22 => .array .int
  | 23 => .array .int
  | 24 => .array .long
  | 25 => .int
  | 26 => .array .int
  | 27 => .array .int
  | 28 => .array .int
  | 29 => .array .int
  | 30 => .array .long
  | 31 => .int
  | 32 => .array .int
  | 33 => .array .long
  | 34 => .array .int
  | 35 => .array .int
  | 36 => .int
  | 37 => .array .int
  | 38 => .array .long
  | 39 => .array .int
  | 40 => .array .int
  | 41 => .int
  | _ => .array .byte
abbrev wsX90 : List Cond := u_ws RX9 TX9 43
theorem nmX9 : ∀ a, a < 43 → ∀ b, b < 43 → a ≠ b → (TX9 a).2.1 ≠ (TX9 b).2.1 := by decide +kernel
theorem tyX9_ok : ∀ k, k < 43 → parseFieldDescriptor (TX9 k).2.2.1 = some (tyX9 k) := by decide +kernel
abbrev cX9_init : ByteArray := prog_11_method_1_code
def yX9_init : MethodName := ⟨RX9, "<init>", "()V"⟩
abbrev cX9_isDay : ByteArray := prog_11_method_2_code
def yX9_isDay : MethodName := ⟨RX9, "isDay", "(J)Z"⟩
abbrev cX9_isHouse : ByteArray := prog_11_method_3_code
def yX9_isHouse : MethodName := ⟨RX9, "isHouse", "(I)Z"⟩
abbrev cX9_isKind : ByteArray := prog_11_method_4_code
def yX9_isKind : MethodName := ⟨RX9, "isKind", "(I)Z"⟩
abbrev cX9_isMonth : ByteArray := prog_11_method_5_code
def yX9_isMonth : MethodName := ⟨RX9, "isMonth", "(I)Z"⟩
abbrev cX9_house : ByteArray := prog_11_method_6_code
def yX9_house : MethodName := ⟨RX9, "house", "(I)I"⟩
abbrev cX9_fact : ByteArray := prog_11_method_7_code
def yX9_fact : MethodName := ⟨RX9, "fact", "(IIJJJ)I"⟩
abbrev cX9_unit : ByteArray := prog_11_method_8_code
def yX9_unit : MethodName := ⟨RX9, "unit", "(I)Z"⟩
abbrev cX9_findWords : ByteArray := prog_11_method_9_code
def yX9_findWords : MethodName := ⟨RX9, "findWords", "()V"⟩
abbrev cX9_is : ByteArray := prog_11_method_10_code
def yX9_is : MethodName := ⟨RX9, "is", "(IIIIII)Z"⟩
abbrev cX9_number : ByteArray := prog_11_method_11_code
def yX9_number : MethodName := ⟨RX9, "number", "(I)I"⟩
abbrev cX9_isKindWord : ByteArray := prog_11_method_12_code
def yX9_isKindWord : MethodName := ⟨RX9, "isKindWord", "(I)Z"⟩
abbrev cX9_isPer : ByteArray := prog_11_method_13_code
def yX9_isPer : MethodName := ⟨RX9, "isPer", "(I)Z"⟩
abbrev cX9_isPrice : ByteArray := prog_11_method_14_code
def yX9_isPrice : MethodName := ⟨RX9, "isPrice", "(I)Z"⟩
abbrev cX9_isStep : ByteArray := prog_11_method_15_code
def yX9_isStep : MethodName := ⟨RX9, "isStep", "(I)Z"⟩
abbrev cX9_isCap : ByteArray := prog_11_method_16_code
def yX9_isCap : MethodName := ⟨RX9, "isCap", "(I)Z"⟩
abbrev cX9_rules : ByteArray := prog_11_method_17_code
def yX9_rules : MethodName := ⟨RX9, "rules", "()I"⟩
abbrev cX9_read : ByteArray := prog_11_method_18_code
def yX9_read : MethodName := ⟨RX9, "read", "(JJ)I"⟩
abbrev cX9_edition : ByteArray := prog_11_method_19_code
def yX9_edition : MethodName := ⟨RX9, "edition", "(II)I"⟩
abbrev cX9_cap : ByteArray := prog_11_method_20_code
def yX9_cap : MethodName := ⟨RX9, "cap", "(IJ)Z"⟩
abbrev cX9_relief : ByteArray := prog_11_method_21_code
def yX9_relief : MethodName := ⟨RX9, "relief", "(IIJJ)Z"⟩
abbrev cX9_isFlat : ByteArray := prog_11_method_22_code
def yX9_isFlat : MethodName := ⟨RX9, "isFlat", "(II)Z"⟩
abbrev cX9_weight : ByteArray := prog_11_method_23_code
def yX9_weight : MethodName := ⟨RX9, "weight", "(III)Z"⟩
abbrev cX9_isRelieved : ByteArray := prog_11_method_24_code
def yX9_isRelieved : MethodName := ⟨RX9, "isRelieved", "(I)Z"⟩
abbrev cX9_feeOf : ByteArray := prog_11_method_25_code
def yX9_feeOf : MethodName := ⟨RX9, "feeOf", "(II)J"⟩
abbrev cX9_editionOf : ByteArray := prog_11_method_26_code
def yX9_editionOf : MethodName := ⟨RX9, "editionOf", "(IJ)I"⟩
abbrev cX9_findLines : ByteArray := prog_11_method_27_code
def yX9_findLines : MethodName := ⟨RX9, "findLines", "(IIJ)V"⟩
abbrev cX9_isAsked : ByteArray := prog_11_method_28_code
def yX9_isAsked : MethodName := ⟨RX9, "isAsked", "(IIJ)Z"⟩
abbrev cX9_bill : ByteArray := prog_11_method_29_code
def yX9_bill : MethodName := ⟨RX9, "bill", "(IIJ)J"⟩
abbrev cX9_put : ByteArray := prog_11_method_30_code
def yX9_put : MethodName := ⟨RX9, "put", "(I)V"⟩
abbrev cX9_putNumber : ByteArray := prog_11_method_31_code
def yX9_putNumber : MethodName := ⟨RX9, "putNumber", "(J)V"⟩
abbrev cX9_walk : ByteArray := prog_11_method_32_code
def yX9_walk : MethodName := ⟨RX9, "walk", "(IIJ)I"⟩
abbrev cX9_line : ByteArray := prog_11_method_33_code
def yX9_line : MethodName := ⟨RX9, "line", "(II)J"⟩
abbrev cX9_open : ByteArray := prog_11_method_34_code
def yX9_open : MethodName := ⟨RX9, "open", "(I)I"⟩
abbrev cX9_write : ByteArray := prog_11_method_35_code
def yX9_write : MethodName := ⟨RX9, "write", "(I)I"⟩
abbrev cX9_flat : ByteArray := prog_11_method_36_code
def yX9_flat : MethodName := ⟨RX9, "flat", "(IIJI)J"⟩
abbrev cX9_issue : ByteArray := prog_11_method_37_code
def yX9_issue : MethodName := ⟨RX9, "issue", "(IIJ)J"⟩
abbrev cX9_issued : ByteArray := prog_11_method_38_code
def yX9_issued : MethodName := ⟨RX9, "issued", "(II)J"⟩
abbrev cX9_reverse : ByteArray := prog_11_method_39_code
def yX9_reverse : MethodName := ⟨RX9, "reverse", "(II)J"⟩
def RJ0 : String := "java/lang/String"
def TJ0 : u_T := fun k => match k with
  | _ => ("", "", "", false)
def tyJ0 : Nat → FieldType := fun k => match k with
  | _ => .int
abbrev wsJ00 : List Cond := u_ws RJ0 TJ0 0
theorem nmJ0 : ∀ a, a < 0 → ∀ b, b < 0 → a ≠ b → (TJ0 a).2.1 ≠ (TJ0 b).2.1 := by decide +kernel
theorem tyJ0_ok : ∀ k, k < 0 → parseFieldDescriptor (TJ0 k).2.2.1 = some (tyJ0 k) := by decide +kernel
abbrev cJ0_length_8abf5 : ByteArray := prog_12_method_54_code
def yJ0_length_8abf5 : MethodName := ⟨RJ0, "length", "()I"⟩
abbrev cJ0_charAt_5068e : ByteArray := prog_12_method_56_code
def yJ0_charAt_5068e : MethodName := ⟨RJ0, "charAt", "(I)C"⟩
abbrev cJ0_coder_7d493 : ByteArray := prog_12_method_152_code
def yJ0_coder_7d493 : MethodName := ⟨RJ0, "coder", "()B"⟩
abbrev cJ0_isLatin1_aae02 : ByteArray := prog_12_method_154_code
def yJ0_isLatin1_aae02 : MethodName := ⟨RJ0, "isLatin1", "()Z"⟩
abbrev cJ0_checkIndex_df160 : ByteArray := prog_12_method_155_code
def yJ0_checkIndex_df160 : MethodName := ⟨RJ0, "checkIndex", "(II)V"⟩
def RJ1 : String := "java/lang/StringLatin1"
def TJ1 : u_T := fun k => match k with
  | _ => ("", "", "", false)
def tyJ1 : Nat → FieldType := fun k => match k with
  | _ => .int
abbrev wsJ10 : List Cond := u_ws RJ1 TJ1 0
theorem nmJ1 : ∀ a, a < 0 → ∀ b, b < 0 → a ≠ b → (TJ1 a).2.1 ≠ (TJ1 b).2.1 := by decide +kernel
theorem tyJ1_ok : ∀ k, k < 0 → parseFieldDescriptor (TJ1 k).2.2.1 = some (tyJ1 k) := by decide +kernel
abbrev cJ1_charAt_3b067 : ByteArray := prog_13_method_2_code
def yJ1_charAt_3b067 : MethodName := ⟨RJ1, "charAt", "([BI)C"⟩
def RJ2 : String := "java/lang/StringUTF16"
def TJ2 : u_T := fun k => match k with
  | _ => ("", "", "", false)
def tyJ2 : Nat → FieldType := fun k => match k with
  | _ => .int
abbrev wsJ20 : List Cond := u_ws RJ2 TJ2 0
theorem nmJ2 : ∀ a, a < 0 → ∀ b, b < 0 → a ≠ b → (TJ2 a).2.1 ≠ (TJ2 b).2.1 := by decide +kernel
theorem tyJ2_ok : ∀ k, k < 0 → parseFieldDescriptor (TJ2 k).2.2.1 = some (tyJ2 k) := by decide +kernel
abbrev cJ2_getChar_3b067 : ByteArray := prog_14_method_5_code
def yJ2_getChar_3b067 : MethodName := ⟨RJ2, "getChar", "([BI)C"⟩
abbrev cJ2_length_9d52b : ByteArray := prog_14_method_6_code
def yJ2_length_9d52b : MethodName := ⟨RJ2, "length", "([B)I"⟩
abbrev cJ2_charAt_3b067 : ByteArray := prog_14_method_83_code
def yJ2_charAt_3b067 : MethodName := ⟨RJ2, "charAt", "([BI)C"⟩
abbrev cJ2_checkIndex_2214a : ByteArray := prog_14_method_91_code
def yJ2_checkIndex_2214a : MethodName := ⟨RJ2, "checkIndex", "(I[B)V"⟩
def RJ3 : String := "jdk/internal/util/Preconditions"
def TJ3 : u_T := fun k => match k with
  | _ => ("", "", "", false)
def tyJ3 : Nat → FieldType := fun k => match k with
  | _ => .int
abbrev wsJ30 : List Cond := u_ws RJ3 TJ3 0
theorem nmJ3 : ∀ a, a < 0 → ∀ b, b < 0 → a ≠ b → (TJ3 a).2.1 ≠ (TJ3 b).2.1 := by decide +kernel
theorem tyJ3_ok : ∀ k, k < 0 → parseFieldDescriptor (TJ3 k).2.2.1 = some (tyJ3 k) := by decide +kernel
abbrev cJ3_checkIndex_8e157 : ByteArray := prog_15_method_11_code
def yJ3_checkIndex_8e157 : MethodName := ⟨RJ3, "checkIndex", "(IILjava/util/function/BiFunction;)I"⟩
def RL : String := "FeeRulesLaw"
abbrev cL_law : ByteArray := code
def yL_law : MethodName := ⟨RL, "law", "([I)Z"⟩
def wsX5_init : List Cond := .code yX5_init cX5_init 2 none :: ([.methodLink RX5 1 objectInit, .instanceMethod objectInit, .code objectInit ⟨#[0xb1]⟩ 1 none, .arrayClass .long, .fieldLink RX5 7 "FeeRules$Row" "cells" "[J"] ++ wsX50)
def wsX0_init : List Cond := .code yX0_init cX0_init 1 none :: ([.methodLink RX0 3 objectInit, .instanceMethod objectInit, .code objectInit ⟨#[0xb1]⟩ 1 none, .classLink RX0 9 RX5, .instantiable RX5 1, .initialized RX5, .fieldLink RX0 14 "FeeRules$Editions" "fromDays" "LFeeRules$Row;", .fieldLink RX0 20 "FeeRules$Editions" "knownDays" "LFeeRules$Row;", .fieldLink RX0 23 "FeeRules$Editions" "ruleCounts" "LFeeRules$Row;", .fieldLink RX0 26 "FeeRules$Editions" "pers" "LFeeRules$Row;", .fieldLink RX0 29 "FeeRules$Editions" "prices" "LFeeRules$Row;", .fieldLink RX0 32 "FeeRules$Editions" "caps" "LFeeRules$Row;", .fieldLink RX0 35 "FeeRules$Editions" "firstSteps" "LFeeRules$Row;", .fieldLink RX0 38 "FeeRules$Editions" "stepCounts" "LFeeRules$Row;", .fieldLink RX0 41 "FeeRules$Editions" "stepStarts" "LFeeRules$Row;", .fieldLink RX0 44 "FeeRules$Editions" "stepPrices" "LFeeRules$Row;", .methodLink RX0 11 yX5_init, .instanceMethod yX5_init, .code yX5_init cX5_init 2 none, .methodLink RX5 1 objectInit, .arrayClass .long, .fieldLink RX5 7 "FeeRules$Row" "cells" "[J"] ++ wsX50 ++ wsX00)
def wsX0_isFull : List Cond := .code yX0_isFull cX0_isFull 1 (some .boolean) :: ([.fieldLink RX0 47 "FeeRules$Editions" "count" "I"] ++ wsX00)
def wsX0_has : List Cond := .code yX0_has cX0_has 2 (some .boolean) :: ([.fieldLink RX0 47 "FeeRules$Editions" "count" "I"] ++ wsX00)
def wsX5_get : List Cond := .code yX5_get cX5_get 2 (some .long) :: ([.fieldLink RX5 7 "FeeRules$Row" "cells" "[J"] ++ wsX50)
def wsX0_actsFrom : List Cond := .code yX0_actsFrom cX0_actsFrom 2 (some .long) :: ([.fieldLink RX0 14 "FeeRules$Editions" "fromDays" "LFeeRules$Row;", .methodLink RX0 51 yX5_get, .instanceMethod yX5_get, .selects RX5 yX5_get yX5_get, .initialized RX5, .code yX5_get cX5_get 2 (some .long), .fieldLink RX5 7 "FeeRules$Row" "cells" "[J"] ++ wsX00 ++ wsX50)
def wsX0_knownFrom : List Cond := .code yX0_knownFrom cX0_knownFrom 2 (some .long) :: ([.fieldLink RX0 20 "FeeRules$Editions" "knownDays" "LFeeRules$Row;", .methodLink RX0 51 yX5_get, .instanceMethod yX5_get, .selects RX5 yX5_get yX5_get, .initialized RX5, .code yX5_get cX5_get 2 (some .long), .fieldLink RX5 7 "FeeRules$Row" "cells" "[J"] ++ wsX00 ++ wsX50)
def wsX0_ruleCount : List Cond := .code yX0_ruleCount cX0_ruleCount 2 (some .long) :: ([.fieldLink RX0 23 "FeeRules$Editions" "ruleCounts" "LFeeRules$Row;", .methodLink RX0 51 yX5_get, .instanceMethod yX5_get, .selects RX5 yX5_get yX5_get, .initialized RX5, .code yX5_get cX5_get 2 (some .long), .fieldLink RX5 7 "FeeRules$Row" "cells" "[J"] ++ wsX00 ++ wsX50)
def wsX0_cellOf : List Cond := .code yX0_cellOf cX0_cellOf 2 (some .int) :: ([])
def wsX5_set : List Cond := .code yX5_set cX5_set 4 none :: ([.fieldLink RX5 7 "FeeRules$Row" "cells" "[J"] ++ wsX50)
def wsX0_startDraft : List Cond := .code yX0_startDraft cX0_startDraft 2 none :: ([.fieldLink RX0 55 "FeeRules$Editions" "draftSteps" "I", .fieldLink RX0 26 "FeeRules$Editions" "pers" "LFeeRules$Row;", .fieldLink RX0 47 "FeeRules$Editions" "count" "I", .constantLong RX0 62 (-1), .methodLink RX0 58 yX0_cellOf, .static yX0_cellOf, .initialized RX0, .code yX0_cellOf cX0_cellOf 2 (some .int), .methodLink RX0 64 yX5_set, .instanceMethod yX5_set, .selects RX5 yX5_set yX5_set, .initialized RX5, .code yX5_set cX5_set 4 none, .fieldLink RX5 7 "FeeRules$Row" "cells" "[J"] ++ wsX00 ++ wsX50)
def wsX0_draftHasRule : List Cond := .code yX0_draftHasRule cX0_draftHasRule 2 (some .boolean) :: ([.fieldLink RX0 26 "FeeRules$Editions" "pers" "LFeeRules$Row;", .fieldLink RX0 47 "FeeRules$Editions" "count" "I", .constantLong RX0 62 (-1), .methodLink RX0 58 yX0_cellOf, .static yX0_cellOf, .initialized RX0, .code yX0_cellOf cX0_cellOf 2 (some .int), .methodLink RX0 51 yX5_get, .instanceMethod yX5_get, .selects RX5 yX5_get yX5_get, .initialized RX5, .code yX5_get cX5_get 2 (some .long), .fieldLink RX5 7 "FeeRules$Row" "cells" "[J"] ++ wsX00 ++ wsX50)
def wsX0_tellRule : List Cond := .code yX0_tellRule cX0_tellRule 7 none :: ([.fieldLink RX0 47 "FeeRules$Editions" "count" "I", .fieldLink RX0 26 "FeeRules$Editions" "pers" "LFeeRules$Row;", .fieldLink RX0 29 "FeeRules$Editions" "prices" "LFeeRules$Row;", .fieldLink RX0 32 "FeeRules$Editions" "caps" "LFeeRules$Row;", .constantLong RX0 62 (-1), .fieldLink RX0 35 "FeeRules$Editions" "firstSteps" "LFeeRules$Row;", .fieldLink RX0 55 "FeeRules$Editions" "draftSteps" "I", .fieldLink RX0 38 "FeeRules$Editions" "stepCounts" "LFeeRules$Row;", .methodLink RX0 58 yX0_cellOf, .static yX0_cellOf, .initialized RX0, .code yX0_cellOf cX0_cellOf 2 (some .int), .methodLink RX0 64 yX5_set, .instanceMethod yX5_set, .selects RX5 yX5_set yX5_set, .initialized RX5, .code yX5_set cX5_set 4 none, .fieldLink RX5 7 "FeeRules$Row" "cells" "[J"] ++ wsX00 ++ wsX50)
def wsX0_tellStep : List Cond := .code yX0_tellStep cX0_tellStep 8 none :: ([.fieldLink RX0 47 "FeeRules$Editions" "count" "I", .fieldLink RX0 55 "FeeRules$Editions" "draftSteps" "I", .fieldLink RX0 41 "FeeRules$Editions" "stepStarts" "LFeeRules$Row;", .fieldLink RX0 44 "FeeRules$Editions" "stepPrices" "LFeeRules$Row;", .fieldLink RX0 38 "FeeRules$Editions" "stepCounts" "LFeeRules$Row;", .methodLink RX0 58 yX0_cellOf, .static yX0_cellOf, .initialized RX0, .code yX0_cellOf cX0_cellOf 2 (some .int), .methodLink RX0 64 yX5_set, .instanceMethod yX5_set, .selects RX5 yX5_set yX5_set, .initialized RX5, .code yX5_set cX5_set 4 none, .fieldLink RX5 7 "FeeRules$Row" "cells" "[J", .methodLink RX0 51 yX5_get, .instanceMethod yX5_get, .selects RX5 yX5_get yX5_get, .code yX5_get cX5_get 2 (some .long)] ++ wsX00 ++ wsX50)
def wsX0_tellCap : List Cond := .code yX0_tellCap cX0_tellCap 4 none :: ([.fieldLink RX0 32 "FeeRules$Editions" "caps" "LFeeRules$Row;", .fieldLink RX0 47 "FeeRules$Editions" "count" "I", .methodLink RX0 58 yX0_cellOf, .static yX0_cellOf, .initialized RX0, .code yX0_cellOf cX0_cellOf 2 (some .int), .methodLink RX0 64 yX5_set, .instanceMethod yX5_set, .selects RX5 yX5_set yX5_set, .initialized RX5, .code yX5_set cX5_set 4 none, .fieldLink RX5 7 "FeeRules$Row" "cells" "[J"] ++ wsX00 ++ wsX50)
def wsX0_keepDraft : List Cond := .code yX0_keepDraft cX0_keepDraft 6 none :: ([.fieldLink RX0 14 "FeeRules$Editions" "fromDays" "LFeeRules$Row;", .fieldLink RX0 47 "FeeRules$Editions" "count" "I", .fieldLink RX0 20 "FeeRules$Editions" "knownDays" "LFeeRules$Row;", .fieldLink RX0 23 "FeeRules$Editions" "ruleCounts" "LFeeRules$Row;", .methodLink RX0 64 yX5_set, .instanceMethod yX5_set, .selects RX5 yX5_set yX5_set, .initialized RX5, .code yX5_set cX5_set 4 none, .fieldLink RX5 7 "FeeRules$Row" "cells" "[J"] ++ wsX00 ++ wsX50)
def wsX0_latest : List Cond := .code yX0_latest cX0_latest 8 (some .int) :: ([.fieldLink RX0 47 "FeeRules$Editions" "count" "I", .fieldLink RX0 20 "FeeRules$Editions" "knownDays" "LFeeRules$Row;", .fieldLink RX0 14 "FeeRules$Editions" "fromDays" "LFeeRules$Row;", .methodLink RX0 51 yX5_get, .instanceMethod yX5_get, .selects RX5 yX5_get yX5_get, .initialized RX5, .code yX5_get cX5_get 2 (some .long), .fieldLink RX5 7 "FeeRules$Row" "cells" "[J"] ++ wsX00 ++ wsX50)
def wsX0_hasRule : List Cond := .code yX0_hasRule cX0_hasRule 3 (some .boolean) :: ([.fieldLink RX0 26 "FeeRules$Editions" "pers" "LFeeRules$Row;", .constantLong RX0 62 (-1), .methodLink RX0 68 yX0_has, .instanceMethod yX0_has, .selects RX0 yX0_has yX0_has, .initialized RX0, .code yX0_has cX0_has 2 (some .boolean), .fieldLink RX0 47 "FeeRules$Editions" "count" "I", .methodLink RX0 58 yX0_cellOf, .static yX0_cellOf, .code yX0_cellOf cX0_cellOf 2 (some .int), .methodLink RX0 51 yX5_get, .instanceMethod yX5_get, .selects RX5 yX5_get yX5_get, .initialized RX5, .code yX5_get cX5_get 2 (some .long), .fieldLink RX5 7 "FeeRules$Row" "cells" "[J"] ++ wsX00 ++ wsX50)
def wsX0_priceOf : List Cond := .code yX0_priceOf cX0_priceOf 18 (some .long) :: ([.fieldLink RX0 29 "FeeRules$Editions" "prices" "LFeeRules$Row;", .fieldLink RX0 35 "FeeRules$Editions" "firstSteps" "LFeeRules$Row;", .fieldLink RX0 38 "FeeRules$Editions" "stepCounts" "LFeeRules$Row;", .fieldLink RX0 41 "FeeRules$Editions" "stepStarts" "LFeeRules$Row;", .fieldLink RX0 44 "FeeRules$Editions" "stepPrices" "LFeeRules$Row;", .methodLink RX0 51 yX5_get, .instanceMethod yX5_get, .selects RX5 yX5_get yX5_get, .initialized RX5, .code yX5_get cX5_get 2 (some .long), .fieldLink RX5 7 "FeeRules$Row" "cells" "[J"] ++ wsX00 ++ wsX50)
def wsX0_feeOf_r1 : List Cond := [Cond.constantLong RX0 62 (-1), Cond.fieldLink RX0 26 "FeeRules$Editions" "pers" "LFeeRules$Row;", Cond.fieldLink RX0 32 "FeeRules$Editions" "caps" "LFeeRules$Row;", Cond.methodLink RX0 72 yX0_hasRule, Cond.instanceMethod yX0_hasRule, Cond.selects RX0 yX0_hasRule yX0_hasRule, Cond.initialized RX0, Cond.code yX0_hasRule cX0_hasRule 3 (some .boolean), Cond.methodLink RX0 68 yX0_has, Cond.instanceMethod yX0_has, Cond.selects RX0 yX0_has yX0_has, Cond.code yX0_has cX0_has 2 (some .boolean), Cond.fieldLink RX0 47 "FeeRules$Editions" "count" "I", Cond.methodLink RX0 58 yX0_cellOf, Cond.static yX0_cellOf, Cond.code yX0_cellOf cX0_cellOf 2 (some .int), Cond.methodLink RX0 51 yX5_get, Cond.instanceMethod yX5_get, Cond.selects RX5 yX5_get yX5_get, Cond.initialized RX5, Cond.code yX5_get cX5_get 2 (some .long), Cond.fieldLink RX5 7 "FeeRules$Row" "cells" "[J", Cond.methodLink RX0 76 yX0_priceOf, Cond.instanceMethod yX0_priceOf]
def wsX0_feeOf_r2 : List Cond := [Cond.selects RX0 yX0_priceOf yX0_priceOf, Cond.code yX0_priceOf cX0_priceOf 18 (some .long), Cond.fieldLink RX0 29 "FeeRules$Editions" "prices" "LFeeRules$Row;", Cond.fieldLink RX0 35 "FeeRules$Editions" "firstSteps" "LFeeRules$Row;", Cond.fieldLink RX0 38 "FeeRules$Editions" "stepCounts" "LFeeRules$Row;", Cond.fieldLink RX0 41 "FeeRules$Editions" "stepStarts" "LFeeRules$Row;", Cond.fieldLink RX0 44 "FeeRules$Editions" "stepPrices" "LFeeRules$Row;"]
def wsX0_feeOf : List Cond := .code yX0_feeOf cX0_feeOf 12 (some .long) :: ((wsX0_feeOf_r1 ++ wsX0_feeOf_r2) ++ wsX00 ++ wsX50)
def wsX1_init : List Cond := .code yX1_init cX1_init 1 none :: ([.methodLink RX1 3 objectInit, .instanceMethod objectInit, .code objectInit ⟨#[0xb1]⟩ 1 none, .classLink RX1 9 RX5, .instantiable RX5 1, .initialized RX5, .fieldLink RX1 14 "FeeRules$Facts" "houses" "LFeeRules$Row;", .fieldLink RX1 20 "FeeRules$Facts" "kinds" "LFeeRules$Row;", .fieldLink RX1 23 "FeeRules$Facts" "days" "LFeeRules$Row;", .fieldLink RX1 26 "FeeRules$Facts" "measures" "LFeeRules$Row;", .fieldLink RX1 29 "FeeRules$Facts" "knownDays" "LFeeRules$Row;", .methodLink RX1 11 yX5_init, .instanceMethod yX5_init, .code yX5_init cX5_init 2 none, .methodLink RX5 1 objectInit, .arrayClass .long, .fieldLink RX5 7 "FeeRules$Row" "cells" "[J"] ++ wsX50 ++ wsX10)
def wsX1_add : List Cond := .code yX1_add cX1_add 10 (some .int) :: ([.fieldLink RX1 32 "FeeRules$Facts" "count" "I", .fieldLink RX1 14 "FeeRules$Facts" "houses" "LFeeRules$Row;", .fieldLink RX1 20 "FeeRules$Facts" "kinds" "LFeeRules$Row;", .fieldLink RX1 23 "FeeRules$Facts" "days" "LFeeRules$Row;", .fieldLink RX1 26 "FeeRules$Facts" "measures" "LFeeRules$Row;", .fieldLink RX1 29 "FeeRules$Facts" "knownDays" "LFeeRules$Row;", .methodLink RX1 36 yX5_set, .instanceMethod yX5_set, .selects RX5 yX5_set yX5_set, .initialized RX5, .code yX5_set cX5_set 4 none, .fieldLink RX5 7 "FeeRules$Row" "cells" "[J"] ++ wsX10 ++ wsX50)
def wsX1_count : List Cond := .code yX1_count cX1_count 1 (some .int) :: ([.fieldLink RX1 32 "FeeRules$Facts" "count" "I"] ++ wsX10)
def wsX1_houseOf : List Cond := .code yX1_houseOf cX1_houseOf 2 (some .int) :: ([.fieldLink RX1 14 "FeeRules$Facts" "houses" "LFeeRules$Row;", .methodLink RX1 40 yX5_get, .instanceMethod yX5_get, .selects RX5 yX5_get yX5_get, .initialized RX5, .code yX5_get cX5_get 2 (some .long), .fieldLink RX5 7 "FeeRules$Row" "cells" "[J"] ++ wsX10 ++ wsX50)
def wsX1_kindOf : List Cond := .code yX1_kindOf cX1_kindOf 2 (some .int) :: ([.fieldLink RX1 20 "FeeRules$Facts" "kinds" "LFeeRules$Row;", .methodLink RX1 40 yX5_get, .instanceMethod yX5_get, .selects RX5 yX5_get yX5_get, .initialized RX5, .code yX5_get cX5_get 2 (some .long), .fieldLink RX5 7 "FeeRules$Row" "cells" "[J"] ++ wsX10 ++ wsX50)
def wsX1_dayOf : List Cond := .code yX1_dayOf cX1_dayOf 2 (some .long) :: ([.fieldLink RX1 23 "FeeRules$Facts" "days" "LFeeRules$Row;", .methodLink RX1 40 yX5_get, .instanceMethod yX5_get, .selects RX5 yX5_get yX5_get, .initialized RX5, .code yX5_get cX5_get 2 (some .long), .fieldLink RX5 7 "FeeRules$Row" "cells" "[J"] ++ wsX10 ++ wsX50)
def wsX1_measureOf : List Cond := .code yX1_measureOf cX1_measureOf 2 (some .long) :: ([.fieldLink RX1 26 "FeeRules$Facts" "measures" "LFeeRules$Row;", .methodLink RX1 40 yX5_get, .instanceMethod yX5_get, .selects RX5 yX5_get yX5_get, .initialized RX5, .code yX5_get cX5_get 2 (some .long), .fieldLink RX5 7 "FeeRules$Row" "cells" "[J"] ++ wsX10 ++ wsX50)
def wsX1_isOf : List Cond := .code yX1_isOf cX1_isOf 6 (some .boolean) :: ([.fieldLink RX1 14 "FeeRules$Facts" "houses" "LFeeRules$Row;", .fieldLink RX1 23 "FeeRules$Facts" "days" "LFeeRules$Row;", .constantLong RX1 44 (30), .fieldLink RX1 29 "FeeRules$Facts" "knownDays" "LFeeRules$Row;", .methodLink RX1 40 yX5_get, .instanceMethod yX5_get, .selects RX5 yX5_get yX5_get, .initialized RX5, .code yX5_get cX5_get 2 (some .long), .fieldLink RX5 7 "FeeRules$Row" "cells" "[J"] ++ wsX10 ++ wsX50)
def wsX2_init : List Cond := .code yX2_init cX2_init 1 none :: ([.methodLink RX2 3 objectInit, .instanceMethod objectInit, .code objectInit ⟨#[0xb1]⟩ 1 none, .classLink RX2 9 RX5, .instantiable RX5 1, .initialized RX5, .fieldLink RX2 14 "FeeRules$HeldLines" "facts" "LFeeRules$Row;", .fieldLink RX2 20 "FeeRules$HeldLines" "cents" "LFeeRules$Row;", .fieldLink RX2 23 "FeeRules$HeldLines" "editions" "LFeeRules$Row;", .fieldLink RX2 26 "FeeRules$HeldLines" "lacks" "LFeeRules$Row;", .fieldLink RX2 29 "FeeRules$HeldLines" "printed" "LFeeRules$Row;", .methodLink RX2 11 yX5_init, .instanceMethod yX5_init, .code yX5_init cX5_init 2 none, .methodLink RX5 1 objectInit, .arrayClass .long, .fieldLink RX5 7 "FeeRules$Row" "cells" "[J"] ++ wsX50 ++ wsX20)
def wsX2_clear : List Cond := .code yX2_clear cX2_clear 1 none :: ([.fieldLink RX2 32 "FeeRules$HeldLines" "count" "I", .fieldLink RX2 36 "FeeRules$HeldLines" "printedCount" "I"] ++ wsX20)
def wsX2_add : List Cond := .code yX2_add cX2_add 6 none :: ([.fieldLink RX2 14 "FeeRules$HeldLines" "facts" "LFeeRules$Row;", .fieldLink RX2 32 "FeeRules$HeldLines" "count" "I", .fieldLink RX2 20 "FeeRules$HeldLines" "cents" "LFeeRules$Row;", .fieldLink RX2 23 "FeeRules$HeldLines" "editions" "LFeeRules$Row;", .fieldLink RX2 26 "FeeRules$HeldLines" "lacks" "LFeeRules$Row;", .methodLink RX2 39 yX5_set, .instanceMethod yX5_set, .selects RX5 yX5_set yX5_set, .initialized RX5, .code yX5_set cX5_set 4 none, .fieldLink RX5 7 "FeeRules$Row" "cells" "[J"] ++ wsX20 ++ wsX50)
def wsX2_count : List Cond := .code yX2_count cX2_count 1 (some .int) :: ([.fieldLink RX2 32 "FeeRules$HeldLines" "count" "I"] ++ wsX20)
def wsX2_has : List Cond := .code yX2_has cX2_has 2 (some .boolean) :: ([.fieldLink RX2 32 "FeeRules$HeldLines" "count" "I"] ++ wsX20)
def wsX2_factOf : List Cond := .code yX2_factOf cX2_factOf 2 (some .long) :: ([.fieldLink RX2 14 "FeeRules$HeldLines" "facts" "LFeeRules$Row;", .methodLink RX2 43 yX5_get, .instanceMethod yX5_get, .selects RX5 yX5_get yX5_get, .initialized RX5, .code yX5_get cX5_get 2 (some .long), .fieldLink RX5 7 "FeeRules$Row" "cells" "[J"] ++ wsX20 ++ wsX50)
def wsX2_centsOf : List Cond := .code yX2_centsOf cX2_centsOf 2 (some .long) :: ([.fieldLink RX2 20 "FeeRules$HeldLines" "cents" "LFeeRules$Row;", .methodLink RX2 43 yX5_get, .instanceMethod yX5_get, .selects RX5 yX5_get yX5_get, .initialized RX5, .code yX5_get cX5_get 2 (some .long), .fieldLink RX5 7 "FeeRules$Row" "cells" "[J"] ++ wsX20 ++ wsX50)
def wsX2_editionOf : List Cond := .code yX2_editionOf cX2_editionOf 2 (some .long) :: ([.fieldLink RX2 23 "FeeRules$HeldLines" "editions" "LFeeRules$Row;", .methodLink RX2 43 yX5_get, .instanceMethod yX5_get, .selects RX5 yX5_get yX5_get, .initialized RX5, .code yX5_get cX5_get 2 (some .long), .fieldLink RX5 7 "FeeRules$Row" "cells" "[J"] ++ wsX20 ++ wsX50)
def wsX2_lackOf : List Cond := .code yX2_lackOf cX2_lackOf 2 (some .long) :: ([.fieldLink RX2 26 "FeeRules$HeldLines" "lacks" "LFeeRules$Row;", .methodLink RX2 43 yX5_get, .instanceMethod yX5_get, .selects RX5 yX5_get yX5_get, .initialized RX5, .code yX5_get cX5_get 2 (some .long), .fieldLink RX5 7 "FeeRules$Row" "cells" "[J"] ++ wsX20 ++ wsX50)
def wsX2_openFact : List Cond := .code yX2_openFact cX2_openFact 4 (some .int) :: ([.fieldLink RX2 32 "FeeRules$HeldLines" "count" "I", .fieldLink RX2 26 "FeeRules$HeldLines" "lacks" "LFeeRules$Row;", .fieldLink RX2 14 "FeeRules$HeldLines" "facts" "LFeeRules$Row;", .methodLink RX2 43 yX5_get, .instanceMethod yX5_get, .selects RX5 yX5_get yX5_get, .initialized RX5, .code yX5_get cX5_get 2 (some .long), .fieldLink RX5 7 "FeeRules$Row" "cells" "[J"] ++ wsX20 ++ wsX50)
def wsX2_printedByte : List Cond := .code yX2_printedByte cX2_printedByte 2 (some .int) :: ([.fieldLink RX2 36 "FeeRules$HeldLines" "printedCount" "I", .fieldLink RX2 29 "FeeRules$HeldLines" "printed" "LFeeRules$Row;", .methodLink RX2 43 yX5_get, .instanceMethod yX5_get, .selects RX5 yX5_get yX5_get, .initialized RX5, .code yX5_get cX5_get 2 (some .long), .fieldLink RX5 7 "FeeRules$Row" "cells" "[J"] ++ wsX20 ++ wsX50)
def wsX2_printSign : List Cond := .code yX2_printSign cX2_printSign 2 none :: ([.fieldLink RX2 29 "FeeRules$HeldLines" "printed" "LFeeRules$Row;", .fieldLink RX2 36 "FeeRules$HeldLines" "printedCount" "I", .methodLink RX2 39 yX5_set, .instanceMethod yX5_set, .selects RX5 yX5_set yX5_set, .initialized RX5, .code yX5_set cX5_set 4 none, .fieldLink RX5 7 "FeeRules$Row" "cells" "[J"] ++ wsX20 ++ wsX50)
def wsX2_printNumber : List Cond := .code yX2_printNumber cX2_printNumber 6 none :: ([.constantLong RX2 56 (10), .methodLink RX2 51 yX2_printSign, .instanceMethod yX2_printSign, .selects RX2 yX2_printSign yX2_printSign, .initialized RX2, .code yX2_printSign cX2_printSign 2 none, .fieldLink RX2 29 "FeeRules$HeldLines" "printed" "LFeeRules$Row;", .fieldLink RX2 36 "FeeRules$HeldLines" "printedCount" "I", .methodLink RX2 39 yX5_set, .instanceMethod yX5_set, .selects RX5 yX5_set yX5_set, .initialized RX5, .code yX5_set cX5_set 4 none, .fieldLink RX5 7 "FeeRules$Row" "cells" "[J"] ++ wsX20 ++ wsX50)
def wsX2_print : List Cond := .code yX2_print cX2_print 6 none :: ([.constantLong RX2 54 (-1), .methodLink RX2 47 yX2_printNumber, .instanceMethod yX2_printNumber, .selects RX2 yX2_printNumber yX2_printNumber, .initialized RX2, .code yX2_printNumber cX2_printNumber 6 none, .constantLong RX2 56 (10), .methodLink RX2 51 yX2_printSign, .instanceMethod yX2_printSign, .selects RX2 yX2_printSign yX2_printSign, .code yX2_printSign cX2_printSign 2 none, .fieldLink RX2 29 "FeeRules$HeldLines" "printed" "LFeeRules$Row;", .fieldLink RX2 36 "FeeRules$HeldLines" "printedCount" "I", .methodLink RX2 39 yX5_set, .instanceMethod yX5_set, .selects RX5 yX5_set yX5_set, .initialized RX5, .code yX5_set cX5_set 4 none, .fieldLink RX5 7 "FeeRules$Row" "cells" "[J"] ++ wsX20 ++ wsX50)
def wsX3_init : List Cond := .code yX3_init cX3_init 1 none :: ([.methodLink RX3 3 objectInit, .instanceMethod objectInit, .code objectInit ⟨#[0xb1]⟩ 1 none, .classLink RX3 9 RX5, .instantiable RX5 1, .initialized RX5, .fieldLink RX3 14 "FeeRules$Houses" "flats" "LFeeRules$Row;", .fieldLink RX3 20 "FeeRules$Houses" "weights" "LFeeRules$Row;", .fieldLink RX3 23 "FeeRules$Houses" "issuedCents" "LFeeRules$Row;", .methodLink RX3 11 yX5_init, .instanceMethod yX5_init, .code yX5_init cX5_init 2 none, .methodLink RX5 1 objectInit, .arrayClass .long, .fieldLink RX5 7 "FeeRules$Row" "cells" "[J"] ++ wsX50 ++ wsX30)
def wsX3_setWeight : List Cond := .code yX3_setWeight cX3_setWeight 4 none :: ([.fieldLink RX3 20 "FeeRules$Houses" "weights" "LFeeRules$Row;", .methodLink RX3 30 yX5_set, .instanceMethod yX5_set, .selects RX5 yX5_set yX5_set, .initialized RX5, .code yX5_set cX5_set 4 none, .fieldLink RX5 7 "FeeRules$Row" "cells" "[J"] ++ wsX30 ++ wsX50)
def wsX3_add : List Cond := .code yX3_add cX3_add 4 (some .int) :: ([.fieldLink RX3 26 "FeeRules$Houses" "count" "I", .fieldLink RX3 14 "FeeRules$Houses" "flats" "LFeeRules$Row;", .methodLink RX3 30 yX5_set, .instanceMethod yX5_set, .selects RX5 yX5_set yX5_set, .initialized RX5, .code yX5_set cX5_set 4 none, .fieldLink RX5 7 "FeeRules$Row" "cells" "[J", .methodLink RX3 34 yX3_setWeight, .instanceMethod yX3_setWeight, .selects RX3 yX3_setWeight yX3_setWeight, .initialized RX3, .code yX3_setWeight cX3_setWeight 4 none, .fieldLink RX3 20 "FeeRules$Houses" "weights" "LFeeRules$Row;"] ++ wsX30 ++ wsX50)
def wsX3_has : List Cond := .code yX3_has cX3_has 2 (some .boolean) :: ([.fieldLink RX3 26 "FeeRules$Houses" "count" "I"] ++ wsX30)
def wsX3_hasFlat : List Cond := .code yX3_hasFlat cX3_hasFlat 3 (some .boolean) :: ([.fieldLink RX3 14 "FeeRules$Houses" "flats" "LFeeRules$Row;", .methodLink RX3 38 yX3_has, .instanceMethod yX3_has, .selects RX3 yX3_has yX3_has, .initialized RX3, .code yX3_has cX3_has 2 (some .boolean), .fieldLink RX3 26 "FeeRules$Houses" "count" "I", .methodLink RX3 42 yX5_get, .instanceMethod yX5_get, .selects RX5 yX5_get yX5_get, .initialized RX5, .code yX5_get cX5_get 2 (some .long), .fieldLink RX5 7 "FeeRules$Row" "cells" "[J"] ++ wsX30 ++ wsX50)
def wsX3_weightOf : List Cond := .code yX3_weightOf cX3_weightOf 3 (some .long) :: ([.fieldLink RX3 20 "FeeRules$Houses" "weights" "LFeeRules$Row;", .methodLink RX3 42 yX5_get, .instanceMethod yX5_get, .selects RX5 yX5_get yX5_get, .initialized RX5, .code yX5_get cX5_get 2 (some .long), .fieldLink RX5 7 "FeeRules$Row" "cells" "[J"] ++ wsX30 ++ wsX50)
def wsX3_shareOf : List Cond := .code yX3_shareOf cX3_shareOf 15 (some .long) :: ([.constantLong RX3 54 (-9223372036854775808), .methodLink RX3 46 yX3_hasFlat, .instanceMethod yX3_hasFlat, .selects RX3 yX3_hasFlat yX3_hasFlat, .initialized RX3, .code yX3_hasFlat cX3_hasFlat 3 (some .boolean), .fieldLink RX3 14 "FeeRules$Houses" "flats" "LFeeRules$Row;", .methodLink RX3 38 yX3_has, .instanceMethod yX3_has, .selects RX3 yX3_has yX3_has, .code yX3_has cX3_has 2 (some .boolean), .fieldLink RX3 26 "FeeRules$Houses" "count" "I", .methodLink RX3 42 yX5_get, .instanceMethod yX5_get, .selects RX5 yX5_get yX5_get, .initialized RX5, .code yX5_get cX5_get 2 (some .long), .fieldLink RX5 7 "FeeRules$Row" "cells" "[J", .methodLink RX3 50 yX3_weightOf, .instanceMethod yX3_weightOf, .selects RX3 yX3_weightOf yX3_weightOf, .code yX3_weightOf cX3_weightOf 3 (some .long), .fieldLink RX3 20 "FeeRules$Houses" "weights" "LFeeRules$Row;"] ++ wsX30 ++ wsX50)
def wsX3_issuedOf : List Cond := .code yX3_issuedOf cX3_issuedOf 3 (some .long) :: ([.fieldLink RX3 23 "FeeRules$Houses" "issuedCents" "LFeeRules$Row;", .methodLink RX3 42 yX5_get, .instanceMethod yX5_get, .selects RX5 yX5_get yX5_get, .initialized RX5, .code yX5_get cX5_get 2 (some .long), .fieldLink RX5 7 "FeeRules$Row" "cells" "[J"] ++ wsX30 ++ wsX50)
def wsX3_setIssued : List Cond := .code yX3_setIssued cX3_setIssued 5 none :: ([.fieldLink RX3 23 "FeeRules$Houses" "issuedCents" "LFeeRules$Row;", .methodLink RX3 30 yX5_set, .instanceMethod yX5_set, .selects RX5 yX5_set yX5_set, .initialized RX5, .code yX5_set cX5_set 4 none, .fieldLink RX5 7 "FeeRules$Row" "cells" "[J"] ++ wsX30 ++ wsX50)
def wsX4_init : List Cond := .code yX4_init cX4_init 1 none :: ([.methodLink RX4 3 objectInit, .instanceMethod objectInit, .code objectInit ⟨#[0xb1]⟩ 1 none, .classLink RX4 9 RX5, .instantiable RX5 1, .initialized RX5, .fieldLink RX4 14 "FeeRules$Reliefs" "houses" "LFeeRules$Row;", .fieldLink RX4 20 "FeeRules$Reliefs" "kinds" "LFeeRules$Row;", .fieldLink RX4 23 "FeeRules$Reliefs" "firstDays" "LFeeRules$Row;", .fieldLink RX4 26 "FeeRules$Reliefs" "lastDays" "LFeeRules$Row;", .methodLink RX4 11 yX5_init, .instanceMethod yX5_init, .code yX5_init cX5_init 2 none, .methodLink RX5 1 objectInit, .arrayClass .long, .fieldLink RX5 7 "FeeRules$Row" "cells" "[J"] ++ wsX50 ++ wsX40)
def wsX4_add : List Cond := .code yX4_add cX4_add 7 (some .boolean) :: ([.fieldLink RX4 29 "FeeRules$Reliefs" "count" "I", .fieldLink RX4 14 "FeeRules$Reliefs" "houses" "LFeeRules$Row;", .fieldLink RX4 20 "FeeRules$Reliefs" "kinds" "LFeeRules$Row;", .fieldLink RX4 23 "FeeRules$Reliefs" "firstDays" "LFeeRules$Row;", .fieldLink RX4 26 "FeeRules$Reliefs" "lastDays" "LFeeRules$Row;", .methodLink RX4 33 yX5_set, .instanceMethod yX5_set, .selects RX5 yX5_set yX5_set, .initialized RX5, .code yX5_set cX5_set 4 none, .fieldLink RX5 7 "FeeRules$Row" "cells" "[J"] ++ wsX40 ++ wsX50)
def wsX4_relieve : List Cond := .code yX4_relieve cX4_relieve 6 (some .boolean) :: ([.fieldLink RX4 29 "FeeRules$Reliefs" "count" "I", .fieldLink RX4 14 "FeeRules$Reliefs" "houses" "LFeeRules$Row;", .fieldLink RX4 20 "FeeRules$Reliefs" "kinds" "LFeeRules$Row;", .fieldLink RX4 23 "FeeRules$Reliefs" "firstDays" "LFeeRules$Row;", .fieldLink RX4 26 "FeeRules$Reliefs" "lastDays" "LFeeRules$Row;", .methodLink RX4 37 yX5_get, .instanceMethod yX5_get, .selects RX5 yX5_get yX5_get, .initialized RX5, .code yX5_get cX5_get 2 (some .long), .fieldLink RX5 7 "FeeRules$Row" "cells" "[J"] ++ wsX40 ++ wsX50)
def wsX6_init : List Cond := .code yX6_init cX6_init 3 none :: ([.methodLink RX6 3 objectInit, .instanceMethod objectInit, .code objectInit ⟨#[0xb1]⟩ 1 none, .fieldLink RX6 9 "FeeRules$RuleReader" "text" "LFeeRules$Text;", .fieldLink RX6 15 "FeeRules$RuleReader" "editions" "LFeeRules$Editions;"] ++ wsX60)
def wsX7_isBlank : List Cond := .code yX7_isBlank cX7_isBlank 2 (some .boolean) :: ([.constantLong RX7 48 (32), .constantLong RX7 50 (10)])
def wsX7_toNextWord : List Cond := .code yX7_toNextWord cX7_toNextWord 1 none :: ([.fieldLink RX7 28 "FeeRules$Text" "wordEnd" "I", .fieldLink RX7 37 "FeeRules$Text" "wordStart" "I", .fieldLink RX7 20 "FeeRules$Text" "length" "I", .fieldLink RX7 14 "FeeRules$Text" "bytes" "LFeeRules$Row;", .fieldLink RX7 34 "FeeRules$Text" "wordNumber" "I", .methodLink RX7 40 yX5_get, .instanceMethod yX5_get, .selects RX5 yX5_get yX5_get, .initialized RX5, .code yX5_get cX5_get 2 (some .long), .fieldLink RX5 7 "FeeRules$Row" "cells" "[J", .methodLink RX7 44 yX7_isBlank, .static yX7_isBlank, .initialized RX7, .code yX7_isBlank cX7_isBlank 2 (some .boolean), .constantLong RX7 48 (32), .constantLong RX7 50 (10)] ++ wsX70 ++ wsX50)
def wsX7_toFirstWord : List Cond := .code yX7_toFirstWord cX7_toFirstWord 1 none :: ([.fieldLink RX7 28 "FeeRules$Text" "wordEnd" "I", .fieldLink RX7 34 "FeeRules$Text" "wordNumber" "I", .methodLink RX7 31 yX7_toNextWord, .instanceMethod yX7_toNextWord, .selects RX7 yX7_toNextWord yX7_toNextWord, .initialized RX7, .code yX7_toNextWord cX7_toNextWord 1 none, .fieldLink RX7 37 "FeeRules$Text" "wordStart" "I", .fieldLink RX7 20 "FeeRules$Text" "length" "I", .fieldLink RX7 14 "FeeRules$Text" "bytes" "LFeeRules$Row;", .methodLink RX7 40 yX5_get, .instanceMethod yX5_get, .selects RX5 yX5_get yX5_get, .initialized RX5, .code yX5_get cX5_get 2 (some .long), .fieldLink RX5 7 "FeeRules$Row" "cells" "[J", .methodLink RX7 44 yX7_isBlank, .static yX7_isBlank, .code yX7_isBlank cX7_isBlank 2 (some .boolean), .constantLong RX7 48 (32), .constantLong RX7 50 (10)] ++ wsX70 ++ wsX50)
def wsX7_hasWord : List Cond := .code yX7_hasWord cX7_hasWord 1 (some .boolean) :: ([.fieldLink RX7 37 "FeeRules$Text" "wordStart" "I", .fieldLink RX7 28 "FeeRules$Text" "wordEnd" "I"] ++ wsX70)
def wsJ0_coder_7d493 : List Cond := .code yJ0_coder_7d493 cJ0_coder_7d493 1 (some .byte) :: ([.fieldLink RJ0 38 "java/lang/String" "COMPACT_STRINGS" "Z", .fieldLink RJ0 15 "java/lang/String" "coder" "B"])
def wsJ0_length_8abf5 : List Cond := .code yJ0_length_8abf5 cJ0_length_8abf5 1 (some .int) :: ([.fieldLink RJ0 9 "java/lang/String" "value" "[B", .methodLink RJ0 335 yJ0_coder_7d493, .instanceMethod yJ0_coder_7d493, .selects RJ0 yJ0_coder_7d493 yJ0_coder_7d493, .initialized RJ0, .code yJ0_coder_7d493 cJ0_coder_7d493 1 (some .byte), .fieldLink RJ0 38 "java/lang/String" "COMPACT_STRINGS" "Z", .fieldLink RJ0 15 "java/lang/String" "coder" "B"])
def wsJ0_isLatin1_aae02 : List Cond := .code yJ0_isLatin1_aae02 cJ0_isLatin1_aae02 1 (some .boolean) :: ([.fieldLink RJ0 38 "java/lang/String" "COMPACT_STRINGS" "Z", .fieldLink RJ0 15 "java/lang/String" "coder" "B"])
def wsJ3_checkIndex_8e157 : List Cond := .code yJ3_checkIndex_8e157 cJ3_checkIndex_8e157 3 (some .int) :: ([])
def wsJ0_checkIndex_df160 : List Cond := .code yJ0_checkIndex_df160 cJ0_checkIndex_df160 2 none :: ([.fieldLink RJ0 1053 "jdk/internal/util/Preconditions" "SIOOBE_FORMATTER" "Ljava/util/function/BiFunction;", .methodLink RJ0 1059 yJ3_checkIndex_8e157, .static yJ3_checkIndex_8e157, .initialized RJ3, .code yJ3_checkIndex_8e157 cJ3_checkIndex_8e157 3 (some .int)])
def wsJ1_charAt_3b067 : List Cond := .code yJ1_charAt_3b067 cJ1_charAt_3b067 2 (some .char) :: ([.methodLink RJ1 9 yJ0_checkIndex_df160, .static yJ0_checkIndex_df160, .initialized RJ0, .code yJ0_checkIndex_df160 cJ0_checkIndex_df160 2 none, .fieldLink RJ0 1053 "jdk/internal/util/Preconditions" "SIOOBE_FORMATTER" "Ljava/util/function/BiFunction;", .methodLink RJ0 1059 yJ3_checkIndex_8e157, .static yJ3_checkIndex_8e157, .initialized RJ3, .code yJ3_checkIndex_8e157 cJ3_checkIndex_8e157 3 (some .int)])
def wsJ2_length_9d52b : List Cond := .code yJ2_length_9d52b cJ2_length_9d52b 1 (some .int) :: ([])
def wsJ2_checkIndex_2214a : List Cond := .code yJ2_checkIndex_2214a cJ2_checkIndex_2214a 2 none :: ([.methodLink RJ2 48 yJ2_length_9d52b, .static yJ2_length_9d52b, .initialized RJ2, .code yJ2_length_9d52b cJ2_length_9d52b 1 (some .int), .methodLink RJ2 414 yJ0_checkIndex_df160, .static yJ0_checkIndex_df160, .initialized RJ0, .code yJ0_checkIndex_df160 cJ0_checkIndex_df160 2 none, .fieldLink RJ0 1053 "jdk/internal/util/Preconditions" "SIOOBE_FORMATTER" "Ljava/util/function/BiFunction;", .methodLink RJ0 1059 yJ3_checkIndex_8e157, .static yJ3_checkIndex_8e157, .initialized RJ3, .code yJ3_checkIndex_8e157 cJ3_checkIndex_8e157 3 (some .int)])
def wsJ2_getChar_3b067 : List Cond := .code yJ2_getChar_3b067 cJ2_getChar_3b067 2 (some .char) :: ([.fieldLink RJ2 44 "java/lang/StringUTF16" "$assertionsDisabled" "Z", .fieldLink RJ2 59 "java/lang/StringUTF16" "HI_BYTE_SHIFT" "I", .fieldLink RJ2 63 "java/lang/StringUTF16" "LO_BYTE_SHIFT" "I", .methodLink RJ2 48 yJ2_length_9d52b, .static yJ2_length_9d52b, .initialized RJ2, .code yJ2_length_9d52b cJ2_length_9d52b 1 (some .int)])
def wsJ2_charAt_3b067 : List Cond := .code yJ2_charAt_3b067 cJ2_charAt_3b067 2 (some .char) :: ([.methodLink RJ2 67 yJ2_checkIndex_2214a, .static yJ2_checkIndex_2214a, .initialized RJ2, .code yJ2_checkIndex_2214a cJ2_checkIndex_2214a 2 none, .methodLink RJ2 48 yJ2_length_9d52b, .static yJ2_length_9d52b, .code yJ2_length_9d52b cJ2_length_9d52b 1 (some .int), .methodLink RJ2 414 yJ0_checkIndex_df160, .static yJ0_checkIndex_df160, .initialized RJ0, .code yJ0_checkIndex_df160 cJ0_checkIndex_df160 2 none, .fieldLink RJ0 1053 "jdk/internal/util/Preconditions" "SIOOBE_FORMATTER" "Ljava/util/function/BiFunction;", .methodLink RJ0 1059 yJ3_checkIndex_8e157, .static yJ3_checkIndex_8e157, .initialized RJ3, .code yJ3_checkIndex_8e157 cJ3_checkIndex_8e157 3 (some .int), .methodLink RJ2 71 yJ2_getChar_3b067, .static yJ2_getChar_3b067, .code yJ2_getChar_3b067 cJ2_getChar_3b067 2 (some .char), .fieldLink RJ2 44 "java/lang/StringUTF16" "$assertionsDisabled" "Z", .fieldLink RJ2 59 "java/lang/StringUTF16" "HI_BYTE_SHIFT" "I", .fieldLink RJ2 63 "java/lang/StringUTF16" "LO_BYTE_SHIFT" "I"])
def wsJ0_charAt_5068e_r1 : List Cond := [Cond.fieldLink RJ0 9 "java/lang/String" "value" "[B", Cond.methodLink RJ0 492 yJ0_isLatin1_aae02, Cond.instanceMethod yJ0_isLatin1_aae02, Cond.selects RJ0 yJ0_isLatin1_aae02 yJ0_isLatin1_aae02, Cond.initialized RJ0, Cond.code yJ0_isLatin1_aae02 cJ0_isLatin1_aae02 1 (some .boolean), Cond.fieldLink RJ0 38 "java/lang/String" "COMPACT_STRINGS" "Z", Cond.fieldLink RJ0 15 "java/lang/String" "coder" "B", Cond.methodLink RJ0 495 yJ1_charAt_3b067, Cond.static yJ1_charAt_3b067, Cond.initialized RJ1, Cond.code yJ1_charAt_3b067 cJ1_charAt_3b067 2 (some .char), Cond.methodLink RJ1 9 yJ0_checkIndex_df160, Cond.static yJ0_checkIndex_df160, Cond.code yJ0_checkIndex_df160 cJ0_checkIndex_df160 2 none, Cond.fieldLink RJ0 1053 "jdk/internal/util/Preconditions" "SIOOBE_FORMATTER" "Ljava/util/function/BiFunction;", Cond.methodLink RJ0 1059 yJ3_checkIndex_8e157, Cond.static yJ3_checkIndex_8e157, Cond.initialized RJ3, Cond.code yJ3_checkIndex_8e157 cJ3_checkIndex_8e157 3 (some .int), Cond.methodLink RJ0 498 yJ2_charAt_3b067, Cond.static yJ2_charAt_3b067, Cond.initialized RJ2, Cond.code yJ2_charAt_3b067 cJ2_charAt_3b067 2 (some .char)]
def wsJ0_charAt_5068e_r2 : List Cond := [Cond.methodLink RJ2 67 yJ2_checkIndex_2214a, Cond.static yJ2_checkIndex_2214a, Cond.code yJ2_checkIndex_2214a cJ2_checkIndex_2214a 2 none, Cond.methodLink RJ2 48 yJ2_length_9d52b, Cond.static yJ2_length_9d52b, Cond.code yJ2_length_9d52b cJ2_length_9d52b 1 (some .int), Cond.methodLink RJ2 414 yJ0_checkIndex_df160, Cond.methodLink RJ2 71 yJ2_getChar_3b067, Cond.static yJ2_getChar_3b067, Cond.code yJ2_getChar_3b067 cJ2_getChar_3b067 2 (some .char), Cond.fieldLink RJ2 44 "java/lang/StringUTF16" "$assertionsDisabled" "Z", Cond.fieldLink RJ2 59 "java/lang/StringUTF16" "HI_BYTE_SHIFT" "I", Cond.fieldLink RJ2 63 "java/lang/StringUTF16" "LO_BYTE_SHIFT" "I"]
def wsJ0_charAt_5068e : List Cond := .code yJ0_charAt_5068e cJ0_charAt_5068e 2 (some .char) :: ((wsJ0_charAt_5068e_r1 ++ wsJ0_charAt_5068e_r2))
def wsX7_isWord_r1 : List Cond := [Cond.fieldLink RX7 28 "FeeRules$Text" "wordEnd" "I", Cond.fieldLink RX7 37 "FeeRules$Text" "wordStart" "I", Cond.fieldLink RX7 14 "FeeRules$Text" "bytes" "LFeeRules$Row;", Cond.methodLink RX7 52 yJ0_length_8abf5, Cond.instanceMethod yJ0_length_8abf5, Cond.selects RJ0 yJ0_length_8abf5 yJ0_length_8abf5, Cond.initialized RJ0, Cond.code yJ0_length_8abf5 cJ0_length_8abf5 1 (some .int), Cond.fieldLink RJ0 9 "java/lang/String" "value" "[B", Cond.methodLink RJ0 335 yJ0_coder_7d493, Cond.instanceMethod yJ0_coder_7d493, Cond.selects RJ0 yJ0_coder_7d493 yJ0_coder_7d493, Cond.code yJ0_coder_7d493 cJ0_coder_7d493 1 (some .byte), Cond.fieldLink RJ0 38 "java/lang/String" "COMPACT_STRINGS" "Z", Cond.fieldLink RJ0 15 "java/lang/String" "coder" "B", Cond.methodLink RX7 40 yX5_get, Cond.instanceMethod yX5_get, Cond.selects RX5 yX5_get yX5_get, Cond.initialized RX5, Cond.code yX5_get cX5_get 2 (some .long), Cond.fieldLink RX5 7 "FeeRules$Row" "cells" "[J", Cond.methodLink RX7 57 yJ0_charAt_5068e, Cond.instanceMethod yJ0_charAt_5068e, Cond.selects RJ0 yJ0_charAt_5068e yJ0_charAt_5068e]
def wsX7_isWord_r2 : List Cond := [Cond.code yJ0_charAt_5068e cJ0_charAt_5068e 2 (some .char), Cond.methodLink RJ0 492 yJ0_isLatin1_aae02, Cond.instanceMethod yJ0_isLatin1_aae02, Cond.selects RJ0 yJ0_isLatin1_aae02 yJ0_isLatin1_aae02, Cond.code yJ0_isLatin1_aae02 cJ0_isLatin1_aae02 1 (some .boolean), Cond.methodLink RJ0 495 yJ1_charAt_3b067, Cond.static yJ1_charAt_3b067, Cond.initialized RJ1, Cond.code yJ1_charAt_3b067 cJ1_charAt_3b067 2 (some .char), Cond.methodLink RJ1 9 yJ0_checkIndex_df160, Cond.static yJ0_checkIndex_df160, Cond.code yJ0_checkIndex_df160 cJ0_checkIndex_df160 2 none, Cond.fieldLink RJ0 1053 "jdk/internal/util/Preconditions" "SIOOBE_FORMATTER" "Ljava/util/function/BiFunction;", Cond.methodLink RJ0 1059 yJ3_checkIndex_8e157, Cond.static yJ3_checkIndex_8e157, Cond.initialized RJ3, Cond.code yJ3_checkIndex_8e157 cJ3_checkIndex_8e157 3 (some .int), Cond.methodLink RJ0 498 yJ2_charAt_3b067, Cond.static yJ2_charAt_3b067, Cond.initialized RJ2, Cond.code yJ2_charAt_3b067 cJ2_charAt_3b067 2 (some .char), Cond.methodLink RJ2 67 yJ2_checkIndex_2214a, Cond.static yJ2_checkIndex_2214a, Cond.code yJ2_checkIndex_2214a cJ2_checkIndex_2214a 2 none]
def wsX7_isWord_r3 : List Cond := [Cond.methodLink RJ2 48 yJ2_length_9d52b, Cond.static yJ2_length_9d52b, Cond.code yJ2_length_9d52b cJ2_length_9d52b 1 (some .int), Cond.methodLink RJ2 414 yJ0_checkIndex_df160, Cond.methodLink RJ2 71 yJ2_getChar_3b067, Cond.static yJ2_getChar_3b067, Cond.code yJ2_getChar_3b067 cJ2_getChar_3b067 2 (some .char), Cond.fieldLink RJ2 44 "java/lang/StringUTF16" "$assertionsDisabled" "Z", Cond.fieldLink RJ2 59 "java/lang/StringUTF16" "HI_BYTE_SHIFT" "I", Cond.fieldLink RJ2 63 "java/lang/StringUTF16" "LO_BYTE_SHIFT" "I"]
def wsX7_isWord : List Cond := .code yX7_isWord cX7_isWord 3 (some .boolean) :: ((wsX7_isWord_r1 ++ (wsX7_isWord_r2 ++ wsX7_isWord_r3)) ++ wsX70 ++ wsX50)
def wsX6_takeWord_r1 : List Cond := [Cond.fieldLink RX6 9 "FeeRules$RuleReader" "text" "LFeeRules$Text;", Cond.methodLink RX6 93 yX7_isWord, Cond.instanceMethod yX7_isWord, Cond.selects RX7 yX7_isWord yX7_isWord, Cond.initialized RX7, Cond.code yX7_isWord cX7_isWord 3 (some .boolean), Cond.fieldLink RX7 28 "FeeRules$Text" "wordEnd" "I", Cond.fieldLink RX7 37 "FeeRules$Text" "wordStart" "I", Cond.fieldLink RX7 14 "FeeRules$Text" "bytes" "LFeeRules$Row;", Cond.methodLink RX7 52 yJ0_length_8abf5, Cond.instanceMethod yJ0_length_8abf5, Cond.selects RJ0 yJ0_length_8abf5 yJ0_length_8abf5, Cond.initialized RJ0, Cond.code yJ0_length_8abf5 cJ0_length_8abf5 1 (some .int), Cond.fieldLink RJ0 9 "java/lang/String" "value" "[B", Cond.methodLink RJ0 335 yJ0_coder_7d493, Cond.instanceMethod yJ0_coder_7d493, Cond.selects RJ0 yJ0_coder_7d493 yJ0_coder_7d493, Cond.code yJ0_coder_7d493 cJ0_coder_7d493 1 (some .byte), Cond.fieldLink RJ0 38 "java/lang/String" "COMPACT_STRINGS" "Z", Cond.fieldLink RJ0 15 "java/lang/String" "coder" "B", Cond.methodLink RX7 40 yX5_get, Cond.instanceMethod yX5_get, Cond.selects RX5 yX5_get yX5_get]
def wsX6_takeWord_r2 : List Cond := [Cond.initialized RX5, Cond.code yX5_get cX5_get 2 (some .long), Cond.fieldLink RX5 7 "FeeRules$Row" "cells" "[J", Cond.methodLink RX7 57 yJ0_charAt_5068e, Cond.instanceMethod yJ0_charAt_5068e, Cond.selects RJ0 yJ0_charAt_5068e yJ0_charAt_5068e, Cond.code yJ0_charAt_5068e cJ0_charAt_5068e 2 (some .char), Cond.methodLink RJ0 492 yJ0_isLatin1_aae02, Cond.instanceMethod yJ0_isLatin1_aae02, Cond.selects RJ0 yJ0_isLatin1_aae02 yJ0_isLatin1_aae02, Cond.code yJ0_isLatin1_aae02 cJ0_isLatin1_aae02 1 (some .boolean), Cond.methodLink RJ0 495 yJ1_charAt_3b067, Cond.static yJ1_charAt_3b067, Cond.initialized RJ1, Cond.code yJ1_charAt_3b067 cJ1_charAt_3b067 2 (some .char), Cond.methodLink RJ1 9 yJ0_checkIndex_df160, Cond.static yJ0_checkIndex_df160, Cond.code yJ0_checkIndex_df160 cJ0_checkIndex_df160 2 none, Cond.fieldLink RJ0 1053 "jdk/internal/util/Preconditions" "SIOOBE_FORMATTER" "Ljava/util/function/BiFunction;", Cond.methodLink RJ0 1059 yJ3_checkIndex_8e157, Cond.static yJ3_checkIndex_8e157, Cond.initialized RJ3, Cond.code yJ3_checkIndex_8e157 cJ3_checkIndex_8e157 3 (some .int), Cond.methodLink RJ0 498 yJ2_charAt_3b067]
def wsX6_takeWord_r3 : List Cond := [Cond.static yJ2_charAt_3b067, Cond.initialized RJ2, Cond.code yJ2_charAt_3b067 cJ2_charAt_3b067 2 (some .char), Cond.methodLink RJ2 67 yJ2_checkIndex_2214a, Cond.static yJ2_checkIndex_2214a, Cond.code yJ2_checkIndex_2214a cJ2_checkIndex_2214a 2 none, Cond.methodLink RJ2 48 yJ2_length_9d52b, Cond.static yJ2_length_9d52b, Cond.code yJ2_length_9d52b cJ2_length_9d52b 1 (some .int), Cond.methodLink RJ2 414 yJ0_checkIndex_df160, Cond.methodLink RJ2 71 yJ2_getChar_3b067, Cond.static yJ2_getChar_3b067, Cond.code yJ2_getChar_3b067 cJ2_getChar_3b067 2 (some .char), Cond.fieldLink RJ2 44 "java/lang/StringUTF16" "$assertionsDisabled" "Z", Cond.fieldLink RJ2 59 "java/lang/StringUTF16" "HI_BYTE_SHIFT" "I", Cond.fieldLink RJ2 63 "java/lang/StringUTF16" "LO_BYTE_SHIFT" "I", Cond.methodLink RX6 56 yX7_toNextWord, Cond.instanceMethod yX7_toNextWord, Cond.selects RX7 yX7_toNextWord yX7_toNextWord, Cond.code yX7_toNextWord cX7_toNextWord 1 none, Cond.fieldLink RX7 20 "FeeRules$Text" "length" "I", Cond.fieldLink RX7 34 "FeeRules$Text" "wordNumber" "I", Cond.methodLink RX7 44 yX7_isBlank, Cond.static yX7_isBlank]
def wsX6_takeWord_r4 : List Cond := [Cond.code yX7_isBlank cX7_isBlank 2 (some .boolean), Cond.constantLong RX7 48 (32), Cond.constantLong RX7 50 (10)]
def wsX6_takeWord : List Cond := .code yX6_takeWord cX6_takeWord 2 (some .boolean) :: ((wsX6_takeWord_r1 ++ (wsX6_takeWord_r2 ++ (wsX6_takeWord_r3 ++ wsX6_takeWord_r4))) ++ wsX60 ++ wsX70 ++ wsX50)
def wsX7_asNumber : List Cond := .code yX7_asNumber cX7_asNumber 6 (some .long) :: ([.fieldLink RX7 28 "FeeRules$Text" "wordEnd" "I", .fieldLink RX7 37 "FeeRules$Text" "wordStart" "I", .constantLong RX7 65 (-1), .fieldLink RX7 14 "FeeRules$Text" "bytes" "LFeeRules$Row;", .constantLong RX7 67 (48), .constantLong RX7 69 (9), .constantLong RX7 50 (10), .methodLink RX7 61 yX7_hasWord, .instanceMethod yX7_hasWord, .selects RX7 yX7_hasWord yX7_hasWord, .initialized RX7, .code yX7_hasWord cX7_hasWord 1 (some .boolean), .methodLink RX7 40 yX5_get, .instanceMethod yX5_get, .selects RX5 yX5_get yX5_get, .initialized RX5, .code yX5_get cX5_get 2 (some .long), .fieldLink RX5 7 "FeeRules$Row" "cells" "[J"] ++ wsX70 ++ wsX50)
def wsX6_takeNumberAbove_r1 : List Cond := [Cond.fieldLink RX6 9 "FeeRules$RuleReader" "text" "LFeeRules$Text;", Cond.constantLong RX6 70 (-1), Cond.methodLink RX6 46 yX7_asNumber, Cond.instanceMethod yX7_asNumber, Cond.selects RX7 yX7_asNumber yX7_asNumber, Cond.initialized RX7, Cond.code yX7_asNumber cX7_asNumber 6 (some .long), Cond.fieldLink RX7 28 "FeeRules$Text" "wordEnd" "I", Cond.fieldLink RX7 37 "FeeRules$Text" "wordStart" "I", Cond.constantLong RX7 65 (-1), Cond.fieldLink RX7 14 "FeeRules$Text" "bytes" "LFeeRules$Row;", Cond.constantLong RX7 67 (48), Cond.constantLong RX7 69 (9), Cond.constantLong RX7 50 (10), Cond.methodLink RX7 61 yX7_hasWord, Cond.instanceMethod yX7_hasWord, Cond.selects RX7 yX7_hasWord yX7_hasWord, Cond.code yX7_hasWord cX7_hasWord 1 (some .boolean), Cond.methodLink RX7 40 yX5_get, Cond.instanceMethod yX5_get, Cond.selects RX5 yX5_get yX5_get, Cond.initialized RX5, Cond.code yX5_get cX5_get 2 (some .long), Cond.fieldLink RX5 7 "FeeRules$Row" "cells" "[J"]
def wsX6_takeNumberAbove_r2 : List Cond := [Cond.methodLink RX6 56 yX7_toNextWord, Cond.instanceMethod yX7_toNextWord, Cond.selects RX7 yX7_toNextWord yX7_toNextWord, Cond.code yX7_toNextWord cX7_toNextWord 1 none, Cond.fieldLink RX7 20 "FeeRules$Text" "length" "I", Cond.fieldLink RX7 34 "FeeRules$Text" "wordNumber" "I", Cond.methodLink RX7 44 yX7_isBlank, Cond.static yX7_isBlank, Cond.code yX7_isBlank cX7_isBlank 2 (some .boolean), Cond.constantLong RX7 48 (32)]
def wsX6_takeNumberAbove : List Cond := .code yX6_takeNumberAbove cX6_takeNumberAbove 5 (some .long) :: ((wsX6_takeNumberAbove_r1 ++ wsX6_takeNumberAbove_r2) ++ wsX60 ++ wsX70 ++ wsX50)
def wsX6_takePrice_r1 : List Cond := [Cond.constantLong RX6 70 (-1), Cond.fieldLink RX6 15 "FeeRules$RuleReader" "editions" "LFeeRules$Editions;", Cond.methodLink RX6 42 yX6_takeWord, Cond.instanceMethod yX6_takeWord, Cond.selects RX6 yX6_takeWord yX6_takeWord, Cond.initialized RX6, Cond.code yX6_takeWord cX6_takeWord 2 (some .boolean), Cond.fieldLink RX6 9 "FeeRules$RuleReader" "text" "LFeeRules$Text;", Cond.methodLink RX6 93 yX7_isWord, Cond.instanceMethod yX7_isWord, Cond.selects RX7 yX7_isWord yX7_isWord, Cond.initialized RX7, Cond.code yX7_isWord cX7_isWord 3 (some .boolean), Cond.fieldLink RX7 28 "FeeRules$Text" "wordEnd" "I", Cond.fieldLink RX7 37 "FeeRules$Text" "wordStart" "I", Cond.fieldLink RX7 14 "FeeRules$Text" "bytes" "LFeeRules$Row;", Cond.methodLink RX7 52 yJ0_length_8abf5, Cond.instanceMethod yJ0_length_8abf5, Cond.selects RJ0 yJ0_length_8abf5 yJ0_length_8abf5, Cond.initialized RJ0, Cond.code yJ0_length_8abf5 cJ0_length_8abf5 1 (some .int), Cond.fieldLink RJ0 9 "java/lang/String" "value" "[B", Cond.methodLink RJ0 335 yJ0_coder_7d493, Cond.instanceMethod yJ0_coder_7d493]
def wsX6_takePrice_r2 : List Cond := [Cond.selects RJ0 yJ0_coder_7d493 yJ0_coder_7d493, Cond.code yJ0_coder_7d493 cJ0_coder_7d493 1 (some .byte), Cond.fieldLink RJ0 38 "java/lang/String" "COMPACT_STRINGS" "Z", Cond.fieldLink RJ0 15 "java/lang/String" "coder" "B", Cond.methodLink RX7 40 yX5_get, Cond.instanceMethod yX5_get, Cond.selects RX5 yX5_get yX5_get, Cond.initialized RX5, Cond.code yX5_get cX5_get 2 (some .long), Cond.fieldLink RX5 7 "FeeRules$Row" "cells" "[J", Cond.methodLink RX7 57 yJ0_charAt_5068e, Cond.instanceMethod yJ0_charAt_5068e, Cond.selects RJ0 yJ0_charAt_5068e yJ0_charAt_5068e, Cond.code yJ0_charAt_5068e cJ0_charAt_5068e 2 (some .char), Cond.methodLink RJ0 492 yJ0_isLatin1_aae02, Cond.instanceMethod yJ0_isLatin1_aae02, Cond.selects RJ0 yJ0_isLatin1_aae02 yJ0_isLatin1_aae02, Cond.code yJ0_isLatin1_aae02 cJ0_isLatin1_aae02 1 (some .boolean), Cond.methodLink RJ0 495 yJ1_charAt_3b067, Cond.static yJ1_charAt_3b067, Cond.initialized RJ1, Cond.code yJ1_charAt_3b067 cJ1_charAt_3b067 2 (some .char), Cond.methodLink RJ1 9 yJ0_checkIndex_df160, Cond.static yJ0_checkIndex_df160]
def wsX6_takePrice_r3 : List Cond := [Cond.code yJ0_checkIndex_df160 cJ0_checkIndex_df160 2 none, Cond.fieldLink RJ0 1053 "jdk/internal/util/Preconditions" "SIOOBE_FORMATTER" "Ljava/util/function/BiFunction;", Cond.methodLink RJ0 1059 yJ3_checkIndex_8e157, Cond.static yJ3_checkIndex_8e157, Cond.initialized RJ3, Cond.code yJ3_checkIndex_8e157 cJ3_checkIndex_8e157 3 (some .int), Cond.methodLink RJ0 498 yJ2_charAt_3b067, Cond.static yJ2_charAt_3b067, Cond.initialized RJ2, Cond.code yJ2_charAt_3b067 cJ2_charAt_3b067 2 (some .char), Cond.methodLink RJ2 67 yJ2_checkIndex_2214a, Cond.static yJ2_checkIndex_2214a, Cond.code yJ2_checkIndex_2214a cJ2_checkIndex_2214a 2 none, Cond.methodLink RJ2 48 yJ2_length_9d52b, Cond.static yJ2_length_9d52b, Cond.code yJ2_length_9d52b cJ2_length_9d52b 1 (some .int), Cond.methodLink RJ2 414 yJ0_checkIndex_df160, Cond.methodLink RJ2 71 yJ2_getChar_3b067, Cond.static yJ2_getChar_3b067, Cond.code yJ2_getChar_3b067 cJ2_getChar_3b067 2 (some .char), Cond.fieldLink RJ2 44 "java/lang/StringUTF16" "$assertionsDisabled" "Z", Cond.fieldLink RJ2 59 "java/lang/StringUTF16" "HI_BYTE_SHIFT" "I", Cond.fieldLink RJ2 63 "java/lang/StringUTF16" "LO_BYTE_SHIFT" "I", Cond.methodLink RX6 56 yX7_toNextWord]
def wsX6_takePrice_r4 : List Cond := [Cond.instanceMethod yX7_toNextWord, Cond.selects RX7 yX7_toNextWord yX7_toNextWord, Cond.code yX7_toNextWord cX7_toNextWord 1 none, Cond.fieldLink RX7 20 "FeeRules$Text" "length" "I", Cond.fieldLink RX7 34 "FeeRules$Text" "wordNumber" "I", Cond.methodLink RX7 44 yX7_isBlank, Cond.static yX7_isBlank, Cond.code yX7_isBlank cX7_isBlank 2 (some .boolean), Cond.constantLong RX7 48 (32), Cond.constantLong RX7 50 (10), Cond.methodLink RX6 72 yX6_takeNumberAbove, Cond.instanceMethod yX6_takeNumberAbove, Cond.selects RX6 yX6_takeNumberAbove yX6_takeNumberAbove, Cond.code yX6_takeNumberAbove cX6_takeNumberAbove 5 (some .long), Cond.methodLink RX6 46 yX7_asNumber, Cond.instanceMethod yX7_asNumber, Cond.selects RX7 yX7_asNumber yX7_asNumber, Cond.code yX7_asNumber cX7_asNumber 6 (some .long), Cond.constantLong RX7 65 (-1), Cond.constantLong RX7 67 (48), Cond.constantLong RX7 69 (9), Cond.methodLink RX7 61 yX7_hasWord, Cond.instanceMethod yX7_hasWord, Cond.selects RX7 yX7_hasWord yX7_hasWord]
def wsX6_takePrice_r5 : List Cond := [Cond.code yX7_hasWord cX7_hasWord 1 (some .boolean), Cond.methodLink RX6 78 yX0_tellRule, Cond.instanceMethod yX0_tellRule, Cond.selects RX0 yX0_tellRule yX0_tellRule, Cond.initialized RX0, Cond.code yX0_tellRule cX0_tellRule 7 none, Cond.fieldLink RX0 47 "FeeRules$Editions" "count" "I", Cond.fieldLink RX0 26 "FeeRules$Editions" "pers" "LFeeRules$Row;", Cond.fieldLink RX0 29 "FeeRules$Editions" "prices" "LFeeRules$Row;", Cond.fieldLink RX0 32 "FeeRules$Editions" "caps" "LFeeRules$Row;", Cond.constantLong RX0 62 (-1), Cond.fieldLink RX0 35 "FeeRules$Editions" "firstSteps" "LFeeRules$Row;", Cond.fieldLink RX0 55 "FeeRules$Editions" "draftSteps" "I", Cond.fieldLink RX0 38 "FeeRules$Editions" "stepCounts" "LFeeRules$Row;", Cond.methodLink RX0 58 yX0_cellOf, Cond.static yX0_cellOf, Cond.code yX0_cellOf cX0_cellOf 2 (some .int), Cond.methodLink RX0 64 yX5_set, Cond.instanceMethod yX5_set, Cond.selects RX5 yX5_set yX5_set, Cond.code yX5_set cX5_set 4 none]
def wsX6_takePrice : List Cond := .code yX6_takePrice cX6_takePrice 6 (some .boolean) :: ((wsX6_takePrice_r1 ++ (wsX6_takePrice_r2 ++ (wsX6_takePrice_r3 ++ (wsX6_takePrice_r4 ++ wsX6_takePrice_r5)))) ++ wsX60 ++ wsX70 ++ wsX50 ++ wsX00)
def wsX6_takeSteps_r1 : List Cond := [Cond.constantLong RX6 70 (-1), Cond.fieldLink RX6 15 "FeeRules$RuleReader" "editions" "LFeeRules$Editions;", Cond.methodLink RX6 42 yX6_takeWord, Cond.instanceMethod yX6_takeWord, Cond.selects RX6 yX6_takeWord yX6_takeWord, Cond.initialized RX6, Cond.code yX6_takeWord cX6_takeWord 2 (some .boolean), Cond.fieldLink RX6 9 "FeeRules$RuleReader" "text" "LFeeRules$Text;", Cond.methodLink RX6 93 yX7_isWord, Cond.instanceMethod yX7_isWord, Cond.selects RX7 yX7_isWord yX7_isWord, Cond.initialized RX7, Cond.code yX7_isWord cX7_isWord 3 (some .boolean), Cond.fieldLink RX7 28 "FeeRules$Text" "wordEnd" "I", Cond.fieldLink RX7 37 "FeeRules$Text" "wordStart" "I", Cond.fieldLink RX7 14 "FeeRules$Text" "bytes" "LFeeRules$Row;", Cond.methodLink RX7 52 yJ0_length_8abf5, Cond.instanceMethod yJ0_length_8abf5, Cond.selects RJ0 yJ0_length_8abf5 yJ0_length_8abf5, Cond.initialized RJ0, Cond.code yJ0_length_8abf5 cJ0_length_8abf5 1 (some .int), Cond.fieldLink RJ0 9 "java/lang/String" "value" "[B", Cond.methodLink RJ0 335 yJ0_coder_7d493, Cond.instanceMethod yJ0_coder_7d493]
def wsX6_takeSteps_r2 : List Cond := [Cond.selects RJ0 yJ0_coder_7d493 yJ0_coder_7d493, Cond.code yJ0_coder_7d493 cJ0_coder_7d493 1 (some .byte), Cond.fieldLink RJ0 38 "java/lang/String" "COMPACT_STRINGS" "Z", Cond.fieldLink RJ0 15 "java/lang/String" "coder" "B", Cond.methodLink RX7 40 yX5_get, Cond.instanceMethod yX5_get, Cond.selects RX5 yX5_get yX5_get, Cond.initialized RX5, Cond.code yX5_get cX5_get 2 (some .long), Cond.fieldLink RX5 7 "FeeRules$Row" "cells" "[J", Cond.methodLink RX7 57 yJ0_charAt_5068e, Cond.instanceMethod yJ0_charAt_5068e, Cond.selects RJ0 yJ0_charAt_5068e yJ0_charAt_5068e, Cond.code yJ0_charAt_5068e cJ0_charAt_5068e 2 (some .char), Cond.methodLink RJ0 492 yJ0_isLatin1_aae02, Cond.instanceMethod yJ0_isLatin1_aae02, Cond.selects RJ0 yJ0_isLatin1_aae02 yJ0_isLatin1_aae02, Cond.code yJ0_isLatin1_aae02 cJ0_isLatin1_aae02 1 (some .boolean), Cond.methodLink RJ0 495 yJ1_charAt_3b067, Cond.static yJ1_charAt_3b067, Cond.initialized RJ1, Cond.code yJ1_charAt_3b067 cJ1_charAt_3b067 2 (some .char), Cond.methodLink RJ1 9 yJ0_checkIndex_df160, Cond.static yJ0_checkIndex_df160]
def wsX6_takeSteps_r3 : List Cond := [Cond.code yJ0_checkIndex_df160 cJ0_checkIndex_df160 2 none, Cond.fieldLink RJ0 1053 "jdk/internal/util/Preconditions" "SIOOBE_FORMATTER" "Ljava/util/function/BiFunction;", Cond.methodLink RJ0 1059 yJ3_checkIndex_8e157, Cond.static yJ3_checkIndex_8e157, Cond.initialized RJ3, Cond.code yJ3_checkIndex_8e157 cJ3_checkIndex_8e157 3 (some .int), Cond.methodLink RJ0 498 yJ2_charAt_3b067, Cond.static yJ2_charAt_3b067, Cond.initialized RJ2, Cond.code yJ2_charAt_3b067 cJ2_charAt_3b067 2 (some .char), Cond.methodLink RJ2 67 yJ2_checkIndex_2214a, Cond.static yJ2_checkIndex_2214a, Cond.code yJ2_checkIndex_2214a cJ2_checkIndex_2214a 2 none, Cond.methodLink RJ2 48 yJ2_length_9d52b, Cond.static yJ2_length_9d52b, Cond.code yJ2_length_9d52b cJ2_length_9d52b 1 (some .int), Cond.methodLink RJ2 414 yJ0_checkIndex_df160, Cond.methodLink RJ2 71 yJ2_getChar_3b067, Cond.static yJ2_getChar_3b067, Cond.code yJ2_getChar_3b067 cJ2_getChar_3b067 2 (some .char), Cond.fieldLink RJ2 44 "java/lang/StringUTF16" "$assertionsDisabled" "Z", Cond.fieldLink RJ2 59 "java/lang/StringUTF16" "HI_BYTE_SHIFT" "I", Cond.fieldLink RJ2 63 "java/lang/StringUTF16" "LO_BYTE_SHIFT" "I", Cond.methodLink RX6 56 yX7_toNextWord]
def wsX6_takeSteps_r4 : List Cond := [Cond.instanceMethod yX7_toNextWord, Cond.selects RX7 yX7_toNextWord yX7_toNextWord, Cond.code yX7_toNextWord cX7_toNextWord 1 none, Cond.fieldLink RX7 20 "FeeRules$Text" "length" "I", Cond.fieldLink RX7 34 "FeeRules$Text" "wordNumber" "I", Cond.methodLink RX7 44 yX7_isBlank, Cond.static yX7_isBlank, Cond.code yX7_isBlank cX7_isBlank 2 (some .boolean), Cond.constantLong RX7 48 (32), Cond.constantLong RX7 50 (10), Cond.methodLink RX6 72 yX6_takeNumberAbove, Cond.instanceMethod yX6_takeNumberAbove, Cond.selects RX6 yX6_takeNumberAbove yX6_takeNumberAbove, Cond.code yX6_takeNumberAbove cX6_takeNumberAbove 5 (some .long), Cond.methodLink RX6 46 yX7_asNumber, Cond.instanceMethod yX7_asNumber, Cond.selects RX7 yX7_asNumber yX7_asNumber, Cond.code yX7_asNumber cX7_asNumber 6 (some .long), Cond.constantLong RX7 65 (-1), Cond.constantLong RX7 67 (48), Cond.constantLong RX7 69 (9), Cond.methodLink RX7 61 yX7_hasWord, Cond.instanceMethod yX7_hasWord, Cond.selects RX7 yX7_hasWord yX7_hasWord]
def wsX6_takeSteps_r5 : List Cond := [Cond.code yX7_hasWord cX7_hasWord 1 (some .boolean), Cond.methodLink RX6 84 yX0_tellStep, Cond.instanceMethod yX0_tellStep, Cond.selects RX0 yX0_tellStep yX0_tellStep, Cond.initialized RX0, Cond.code yX0_tellStep cX0_tellStep 8 none, Cond.fieldLink RX0 47 "FeeRules$Editions" "count" "I", Cond.fieldLink RX0 55 "FeeRules$Editions" "draftSteps" "I", Cond.fieldLink RX0 41 "FeeRules$Editions" "stepStarts" "LFeeRules$Row;", Cond.fieldLink RX0 44 "FeeRules$Editions" "stepPrices" "LFeeRules$Row;", Cond.fieldLink RX0 38 "FeeRules$Editions" "stepCounts" "LFeeRules$Row;", Cond.methodLink RX0 58 yX0_cellOf, Cond.static yX0_cellOf, Cond.code yX0_cellOf cX0_cellOf 2 (some .int), Cond.methodLink RX0 64 yX5_set, Cond.instanceMethod yX5_set, Cond.selects RX5 yX5_set yX5_set, Cond.code yX5_set cX5_set 4 none, Cond.methodLink RX0 51 yX5_get]
def wsX6_takeSteps : List Cond := .code yX6_takeSteps cX6_takeSteps 9 (some .boolean) :: ((wsX6_takeSteps_r1 ++ (wsX6_takeSteps_r2 ++ (wsX6_takeSteps_r3 ++ (wsX6_takeSteps_r4 ++ wsX6_takeSteps_r5)))) ++ wsX60 ++ wsX70 ++ wsX50 ++ wsX00)
def wsX6_takeCap_r1 : List Cond := [Cond.constantLong RX6 70 (-1), Cond.fieldLink RX6 15 "FeeRules$RuleReader" "editions" "LFeeRules$Editions;", Cond.methodLink RX6 42 yX6_takeWord, Cond.instanceMethod yX6_takeWord, Cond.selects RX6 yX6_takeWord yX6_takeWord, Cond.initialized RX6, Cond.code yX6_takeWord cX6_takeWord 2 (some .boolean), Cond.fieldLink RX6 9 "FeeRules$RuleReader" "text" "LFeeRules$Text;", Cond.methodLink RX6 93 yX7_isWord, Cond.instanceMethod yX7_isWord, Cond.selects RX7 yX7_isWord yX7_isWord, Cond.initialized RX7, Cond.code yX7_isWord cX7_isWord 3 (some .boolean), Cond.fieldLink RX7 28 "FeeRules$Text" "wordEnd" "I", Cond.fieldLink RX7 37 "FeeRules$Text" "wordStart" "I", Cond.fieldLink RX7 14 "FeeRules$Text" "bytes" "LFeeRules$Row;", Cond.methodLink RX7 52 yJ0_length_8abf5, Cond.instanceMethod yJ0_length_8abf5, Cond.selects RJ0 yJ0_length_8abf5 yJ0_length_8abf5, Cond.initialized RJ0, Cond.code yJ0_length_8abf5 cJ0_length_8abf5 1 (some .int), Cond.fieldLink RJ0 9 "java/lang/String" "value" "[B", Cond.methodLink RJ0 335 yJ0_coder_7d493, Cond.instanceMethod yJ0_coder_7d493]
def wsX6_takeCap_r2 : List Cond := [Cond.selects RJ0 yJ0_coder_7d493 yJ0_coder_7d493, Cond.code yJ0_coder_7d493 cJ0_coder_7d493 1 (some .byte), Cond.fieldLink RJ0 38 "java/lang/String" "COMPACT_STRINGS" "Z", Cond.fieldLink RJ0 15 "java/lang/String" "coder" "B", Cond.methodLink RX7 40 yX5_get, Cond.instanceMethod yX5_get, Cond.selects RX5 yX5_get yX5_get, Cond.initialized RX5, Cond.code yX5_get cX5_get 2 (some .long), Cond.fieldLink RX5 7 "FeeRules$Row" "cells" "[J", Cond.methodLink RX7 57 yJ0_charAt_5068e, Cond.instanceMethod yJ0_charAt_5068e, Cond.selects RJ0 yJ0_charAt_5068e yJ0_charAt_5068e, Cond.code yJ0_charAt_5068e cJ0_charAt_5068e 2 (some .char), Cond.methodLink RJ0 492 yJ0_isLatin1_aae02, Cond.instanceMethod yJ0_isLatin1_aae02, Cond.selects RJ0 yJ0_isLatin1_aae02 yJ0_isLatin1_aae02, Cond.code yJ0_isLatin1_aae02 cJ0_isLatin1_aae02 1 (some .boolean), Cond.methodLink RJ0 495 yJ1_charAt_3b067, Cond.static yJ1_charAt_3b067, Cond.initialized RJ1, Cond.code yJ1_charAt_3b067 cJ1_charAt_3b067 2 (some .char), Cond.methodLink RJ1 9 yJ0_checkIndex_df160, Cond.static yJ0_checkIndex_df160]
def wsX6_takeCap_r3 : List Cond := [Cond.code yJ0_checkIndex_df160 cJ0_checkIndex_df160 2 none, Cond.fieldLink RJ0 1053 "jdk/internal/util/Preconditions" "SIOOBE_FORMATTER" "Ljava/util/function/BiFunction;", Cond.methodLink RJ0 1059 yJ3_checkIndex_8e157, Cond.static yJ3_checkIndex_8e157, Cond.initialized RJ3, Cond.code yJ3_checkIndex_8e157 cJ3_checkIndex_8e157 3 (some .int), Cond.methodLink RJ0 498 yJ2_charAt_3b067, Cond.static yJ2_charAt_3b067, Cond.initialized RJ2, Cond.code yJ2_charAt_3b067 cJ2_charAt_3b067 2 (some .char), Cond.methodLink RJ2 67 yJ2_checkIndex_2214a, Cond.static yJ2_checkIndex_2214a, Cond.code yJ2_checkIndex_2214a cJ2_checkIndex_2214a 2 none, Cond.methodLink RJ2 48 yJ2_length_9d52b, Cond.static yJ2_length_9d52b, Cond.code yJ2_length_9d52b cJ2_length_9d52b 1 (some .int), Cond.methodLink RJ2 414 yJ0_checkIndex_df160, Cond.methodLink RJ2 71 yJ2_getChar_3b067, Cond.static yJ2_getChar_3b067, Cond.code yJ2_getChar_3b067 cJ2_getChar_3b067 2 (some .char), Cond.fieldLink RJ2 44 "java/lang/StringUTF16" "$assertionsDisabled" "Z", Cond.fieldLink RJ2 59 "java/lang/StringUTF16" "HI_BYTE_SHIFT" "I", Cond.fieldLink RJ2 63 "java/lang/StringUTF16" "LO_BYTE_SHIFT" "I", Cond.methodLink RX6 56 yX7_toNextWord]
def wsX6_takeCap_r4 : List Cond := [Cond.instanceMethod yX7_toNextWord, Cond.selects RX7 yX7_toNextWord yX7_toNextWord, Cond.code yX7_toNextWord cX7_toNextWord 1 none, Cond.fieldLink RX7 20 "FeeRules$Text" "length" "I", Cond.fieldLink RX7 34 "FeeRules$Text" "wordNumber" "I", Cond.methodLink RX7 44 yX7_isBlank, Cond.static yX7_isBlank, Cond.code yX7_isBlank cX7_isBlank 2 (some .boolean), Cond.constantLong RX7 48 (32), Cond.constantLong RX7 50 (10), Cond.methodLink RX6 72 yX6_takeNumberAbove, Cond.instanceMethod yX6_takeNumberAbove, Cond.selects RX6 yX6_takeNumberAbove yX6_takeNumberAbove, Cond.code yX6_takeNumberAbove cX6_takeNumberAbove 5 (some .long), Cond.methodLink RX6 46 yX7_asNumber, Cond.instanceMethod yX7_asNumber, Cond.selects RX7 yX7_asNumber yX7_asNumber, Cond.code yX7_asNumber cX7_asNumber 6 (some .long), Cond.constantLong RX7 65 (-1), Cond.constantLong RX7 67 (48), Cond.constantLong RX7 69 (9), Cond.methodLink RX7 61 yX7_hasWord, Cond.instanceMethod yX7_hasWord, Cond.selects RX7 yX7_hasWord yX7_hasWord]
def wsX6_takeCap_r5 : List Cond := [Cond.code yX7_hasWord cX7_hasWord 1 (some .boolean), Cond.methodLink RX6 89 yX0_tellCap, Cond.instanceMethod yX0_tellCap, Cond.selects RX0 yX0_tellCap yX0_tellCap, Cond.initialized RX0, Cond.code yX0_tellCap cX0_tellCap 4 none, Cond.fieldLink RX0 32 "FeeRules$Editions" "caps" "LFeeRules$Row;", Cond.fieldLink RX0 47 "FeeRules$Editions" "count" "I", Cond.methodLink RX0 58 yX0_cellOf, Cond.static yX0_cellOf, Cond.code yX0_cellOf cX0_cellOf 2 (some .int), Cond.methodLink RX0 64 yX5_set, Cond.instanceMethod yX5_set, Cond.selects RX5 yX5_set yX5_set, Cond.code yX5_set cX5_set 4 none]
def wsX6_takeCap : List Cond := .code yX6_takeCap cX6_takeCap 4 (some .boolean) :: ((wsX6_takeCap_r1 ++ (wsX6_takeCap_r2 ++ (wsX6_takeCap_r3 ++ (wsX6_takeCap_r4 ++ wsX6_takeCap_r5)))) ++ wsX60 ++ wsX70 ++ wsX50 ++ wsX00)
def wsX6_takeRule_r1 : List Cond := [Cond.fieldLink RX6 9 "FeeRules$RuleReader" "text" "LFeeRules$Text;", Cond.constantLong RX6 50 (6), Cond.fieldLink RX6 15 "FeeRules$RuleReader" "editions" "LFeeRules$Editions;", Cond.methodLink RX6 42 yX6_takeWord, Cond.instanceMethod yX6_takeWord, Cond.selects RX6 yX6_takeWord yX6_takeWord, Cond.initialized RX6, Cond.code yX6_takeWord cX6_takeWord 2 (some .boolean), Cond.methodLink RX6 93 yX7_isWord, Cond.instanceMethod yX7_isWord, Cond.selects RX7 yX7_isWord yX7_isWord, Cond.initialized RX7, Cond.code yX7_isWord cX7_isWord 3 (some .boolean), Cond.fieldLink RX7 28 "FeeRules$Text" "wordEnd" "I", Cond.fieldLink RX7 37 "FeeRules$Text" "wordStart" "I", Cond.fieldLink RX7 14 "FeeRules$Text" "bytes" "LFeeRules$Row;", Cond.methodLink RX7 52 yJ0_length_8abf5, Cond.instanceMethod yJ0_length_8abf5, Cond.selects RJ0 yJ0_length_8abf5 yJ0_length_8abf5, Cond.initialized RJ0, Cond.code yJ0_length_8abf5 cJ0_length_8abf5 1 (some .int), Cond.fieldLink RJ0 9 "java/lang/String" "value" "[B", Cond.methodLink RJ0 335 yJ0_coder_7d493, Cond.instanceMethod yJ0_coder_7d493]
def wsX6_takeRule_r2 : List Cond := [Cond.selects RJ0 yJ0_coder_7d493 yJ0_coder_7d493, Cond.code yJ0_coder_7d493 cJ0_coder_7d493 1 (some .byte), Cond.fieldLink RJ0 38 "java/lang/String" "COMPACT_STRINGS" "Z", Cond.fieldLink RJ0 15 "java/lang/String" "coder" "B", Cond.methodLink RX7 40 yX5_get, Cond.instanceMethod yX5_get, Cond.selects RX5 yX5_get yX5_get, Cond.initialized RX5, Cond.code yX5_get cX5_get 2 (some .long), Cond.fieldLink RX5 7 "FeeRules$Row" "cells" "[J", Cond.methodLink RX7 57 yJ0_charAt_5068e, Cond.instanceMethod yJ0_charAt_5068e, Cond.selects RJ0 yJ0_charAt_5068e yJ0_charAt_5068e, Cond.code yJ0_charAt_5068e cJ0_charAt_5068e 2 (some .char), Cond.methodLink RJ0 492 yJ0_isLatin1_aae02, Cond.instanceMethod yJ0_isLatin1_aae02, Cond.selects RJ0 yJ0_isLatin1_aae02 yJ0_isLatin1_aae02, Cond.code yJ0_isLatin1_aae02 cJ0_isLatin1_aae02 1 (some .boolean), Cond.methodLink RJ0 495 yJ1_charAt_3b067, Cond.static yJ1_charAt_3b067, Cond.initialized RJ1, Cond.code yJ1_charAt_3b067 cJ1_charAt_3b067 2 (some .char), Cond.methodLink RJ1 9 yJ0_checkIndex_df160, Cond.static yJ0_checkIndex_df160]
def wsX6_takeRule_r3 : List Cond := [Cond.code yJ0_checkIndex_df160 cJ0_checkIndex_df160 2 none, Cond.fieldLink RJ0 1053 "jdk/internal/util/Preconditions" "SIOOBE_FORMATTER" "Ljava/util/function/BiFunction;", Cond.methodLink RJ0 1059 yJ3_checkIndex_8e157, Cond.static yJ3_checkIndex_8e157, Cond.initialized RJ3, Cond.code yJ3_checkIndex_8e157 cJ3_checkIndex_8e157 3 (some .int), Cond.methodLink RJ0 498 yJ2_charAt_3b067, Cond.static yJ2_charAt_3b067, Cond.initialized RJ2, Cond.code yJ2_charAt_3b067 cJ2_charAt_3b067 2 (some .char), Cond.methodLink RJ2 67 yJ2_checkIndex_2214a, Cond.static yJ2_checkIndex_2214a, Cond.code yJ2_checkIndex_2214a cJ2_checkIndex_2214a 2 none, Cond.methodLink RJ2 48 yJ2_length_9d52b, Cond.static yJ2_length_9d52b, Cond.code yJ2_length_9d52b cJ2_length_9d52b 1 (some .int), Cond.methodLink RJ2 414 yJ0_checkIndex_df160, Cond.methodLink RJ2 71 yJ2_getChar_3b067, Cond.static yJ2_getChar_3b067, Cond.code yJ2_getChar_3b067 cJ2_getChar_3b067 2 (some .char), Cond.fieldLink RJ2 44 "java/lang/StringUTF16" "$assertionsDisabled" "Z", Cond.fieldLink RJ2 59 "java/lang/StringUTF16" "HI_BYTE_SHIFT" "I", Cond.fieldLink RJ2 63 "java/lang/StringUTF16" "LO_BYTE_SHIFT" "I", Cond.methodLink RX6 56 yX7_toNextWord]
def wsX6_takeRule_r4 : List Cond := [Cond.instanceMethod yX7_toNextWord, Cond.selects RX7 yX7_toNextWord yX7_toNextWord, Cond.code yX7_toNextWord cX7_toNextWord 1 none, Cond.fieldLink RX7 20 "FeeRules$Text" "length" "I", Cond.fieldLink RX7 34 "FeeRules$Text" "wordNumber" "I", Cond.methodLink RX7 44 yX7_isBlank, Cond.static yX7_isBlank, Cond.code yX7_isBlank cX7_isBlank 2 (some .boolean), Cond.constantLong RX7 48 (32), Cond.constantLong RX7 50 (10), Cond.methodLink RX6 46 yX7_asNumber, Cond.instanceMethod yX7_asNumber, Cond.selects RX7 yX7_asNumber yX7_asNumber, Cond.code yX7_asNumber cX7_asNumber 6 (some .long), Cond.constantLong RX7 65 (-1), Cond.constantLong RX7 67 (48), Cond.constantLong RX7 69 (9), Cond.methodLink RX7 61 yX7_hasWord, Cond.instanceMethod yX7_hasWord, Cond.selects RX7 yX7_hasWord yX7_hasWord, Cond.code yX7_hasWord cX7_hasWord 1 (some .boolean), Cond.methodLink RX6 52 yX0_draftHasRule, Cond.instanceMethod yX0_draftHasRule, Cond.selects RX0 yX0_draftHasRule yX0_draftHasRule]
def wsX6_takeRule_r5 : List Cond := [Cond.initialized RX0, Cond.code yX0_draftHasRule cX0_draftHasRule 2 (some .boolean), Cond.fieldLink RX0 26 "FeeRules$Editions" "pers" "LFeeRules$Row;", Cond.fieldLink RX0 47 "FeeRules$Editions" "count" "I", Cond.constantLong RX0 62 (-1), Cond.methodLink RX0 58 yX0_cellOf, Cond.static yX0_cellOf, Cond.code yX0_cellOf cX0_cellOf 2 (some .int), Cond.methodLink RX0 51 yX5_get, Cond.methodLink RX6 59 yX6_takePrice, Cond.instanceMethod yX6_takePrice, Cond.selects RX6 yX6_takePrice yX6_takePrice, Cond.code yX6_takePrice cX6_takePrice 6 (some .boolean), Cond.constantLong RX6 70 (-1), Cond.methodLink RX6 72 yX6_takeNumberAbove, Cond.instanceMethod yX6_takeNumberAbove, Cond.selects RX6 yX6_takeNumberAbove yX6_takeNumberAbove, Cond.code yX6_takeNumberAbove cX6_takeNumberAbove 5 (some .long), Cond.methodLink RX6 78 yX0_tellRule, Cond.instanceMethod yX0_tellRule, Cond.selects RX0 yX0_tellRule yX0_tellRule, Cond.code yX0_tellRule cX0_tellRule 7 none, Cond.fieldLink RX0 29 "FeeRules$Editions" "prices" "LFeeRules$Row;", Cond.fieldLink RX0 32 "FeeRules$Editions" "caps" "LFeeRules$Row;"]
def wsX6_takeRule_r6 : List Cond := [Cond.fieldLink RX0 35 "FeeRules$Editions" "firstSteps" "LFeeRules$Row;", Cond.fieldLink RX0 55 "FeeRules$Editions" "draftSteps" "I", Cond.fieldLink RX0 38 "FeeRules$Editions" "stepCounts" "LFeeRules$Row;", Cond.methodLink RX0 64 yX5_set, Cond.instanceMethod yX5_set, Cond.selects RX5 yX5_set yX5_set, Cond.code yX5_set cX5_set 4 none, Cond.methodLink RX6 62 yX6_takeSteps, Cond.instanceMethod yX6_takeSteps, Cond.selects RX6 yX6_takeSteps yX6_takeSteps, Cond.code yX6_takeSteps cX6_takeSteps 9 (some .boolean), Cond.methodLink RX6 84 yX0_tellStep, Cond.instanceMethod yX0_tellStep, Cond.selects RX0 yX0_tellStep yX0_tellStep, Cond.code yX0_tellStep cX0_tellStep 8 none, Cond.fieldLink RX0 41 "FeeRules$Editions" "stepStarts" "LFeeRules$Row;", Cond.fieldLink RX0 44 "FeeRules$Editions" "stepPrices" "LFeeRules$Row;", Cond.methodLink RX6 65 yX6_takeCap, Cond.instanceMethod yX6_takeCap, Cond.selects RX6 yX6_takeCap yX6_takeCap, Cond.code yX6_takeCap cX6_takeCap 4 (some .boolean), Cond.methodLink RX6 89 yX0_tellCap, Cond.instanceMethod yX0_tellCap, Cond.selects RX0 yX0_tellCap yX0_tellCap]
def wsX6_takeRule_r7 : List Cond := [Cond.code yX0_tellCap cX0_tellCap 4 none]
def wsX6_takeRule : List Cond := .code yX6_takeRule cX6_takeRule 4 (some .boolean) :: ((wsX6_takeRule_r1 ++ (wsX6_takeRule_r2 ++ (wsX6_takeRule_r3 ++ (wsX6_takeRule_r4 ++ (wsX6_takeRule_r5 ++ (wsX6_takeRule_r6 ++ wsX6_takeRule_r7)))))) ++ wsX60 ++ wsX70 ++ wsX50 ++ wsX00)
def wsX7_numberOfWord : List Cond := .code yX7_numberOfWord cX7_numberOfWord 1 (some .int) :: ([.fieldLink RX7 34 "FeeRules$Text" "wordNumber" "I"] ++ wsX70)
def wsX6_readRules_r1 : List Cond := [Cond.fieldLink RX6 15 "FeeRules$RuleReader" "editions" "LFeeRules$Editions;", Cond.fieldLink RX6 9 "FeeRules$RuleReader" "text" "LFeeRules$Text;", Cond.methodLink RX6 19 yX0_startDraft, Cond.instanceMethod yX0_startDraft, Cond.selects RX0 yX0_startDraft yX0_startDraft, Cond.initialized RX0, Cond.code yX0_startDraft cX0_startDraft 2 none, Cond.fieldLink RX0 55 "FeeRules$Editions" "draftSteps" "I", Cond.fieldLink RX0 26 "FeeRules$Editions" "pers" "LFeeRules$Row;", Cond.fieldLink RX0 47 "FeeRules$Editions" "count" "I", Cond.constantLong RX0 62 (-1), Cond.methodLink RX0 58 yX0_cellOf, Cond.static yX0_cellOf, Cond.code yX0_cellOf cX0_cellOf 2 (some .int), Cond.methodLink RX0 64 yX5_set, Cond.instanceMethod yX5_set, Cond.selects RX5 yX5_set yX5_set, Cond.initialized RX5, Cond.code yX5_set cX5_set 4 none, Cond.fieldLink RX5 7 "FeeRules$Row" "cells" "[J", Cond.methodLink RX6 24 yX7_toFirstWord, Cond.instanceMethod yX7_toFirstWord, Cond.selects RX7 yX7_toFirstWord yX7_toFirstWord, Cond.initialized RX7]
def wsX6_readRules_r2 : List Cond := [Cond.code yX7_toFirstWord cX7_toFirstWord 1 none, Cond.fieldLink RX7 28 "FeeRules$Text" "wordEnd" "I", Cond.fieldLink RX7 34 "FeeRules$Text" "wordNumber" "I", Cond.methodLink RX7 31 yX7_toNextWord, Cond.instanceMethod yX7_toNextWord, Cond.selects RX7 yX7_toNextWord yX7_toNextWord, Cond.code yX7_toNextWord cX7_toNextWord 1 none, Cond.fieldLink RX7 37 "FeeRules$Text" "wordStart" "I", Cond.fieldLink RX7 20 "FeeRules$Text" "length" "I", Cond.fieldLink RX7 14 "FeeRules$Text" "bytes" "LFeeRules$Row;", Cond.methodLink RX7 40 yX5_get, Cond.instanceMethod yX5_get, Cond.selects RX5 yX5_get yX5_get, Cond.code yX5_get cX5_get 2 (some .long), Cond.methodLink RX7 44 yX7_isBlank, Cond.static yX7_isBlank, Cond.code yX7_isBlank cX7_isBlank 2 (some .boolean), Cond.constantLong RX7 48 (32), Cond.constantLong RX7 50 (10), Cond.methodLink RX6 29 yX7_hasWord, Cond.instanceMethod yX7_hasWord, Cond.selects RX7 yX7_hasWord yX7_hasWord, Cond.code yX7_hasWord cX7_hasWord 1 (some .boolean), Cond.methodLink RX6 33 yX6_takeRule]
def wsX6_readRules_r3 : List Cond := [Cond.instanceMethod yX6_takeRule, Cond.selects RX6 yX6_takeRule yX6_takeRule, Cond.initialized RX6, Cond.code yX6_takeRule cX6_takeRule 4 (some .boolean), Cond.constantLong RX6 50 (6), Cond.methodLink RX6 42 yX6_takeWord, Cond.instanceMethod yX6_takeWord, Cond.selects RX6 yX6_takeWord yX6_takeWord, Cond.code yX6_takeWord cX6_takeWord 2 (some .boolean), Cond.methodLink RX6 93 yX7_isWord, Cond.instanceMethod yX7_isWord, Cond.selects RX7 yX7_isWord yX7_isWord, Cond.code yX7_isWord cX7_isWord 3 (some .boolean), Cond.methodLink RX7 52 yJ0_length_8abf5, Cond.instanceMethod yJ0_length_8abf5, Cond.selects RJ0 yJ0_length_8abf5 yJ0_length_8abf5, Cond.initialized RJ0, Cond.code yJ0_length_8abf5 cJ0_length_8abf5 1 (some .int), Cond.fieldLink RJ0 9 "java/lang/String" "value" "[B", Cond.methodLink RJ0 335 yJ0_coder_7d493, Cond.instanceMethod yJ0_coder_7d493, Cond.selects RJ0 yJ0_coder_7d493 yJ0_coder_7d493, Cond.code yJ0_coder_7d493 cJ0_coder_7d493 1 (some .byte), Cond.fieldLink RJ0 38 "java/lang/String" "COMPACT_STRINGS" "Z"]
def wsX6_readRules_r4 : List Cond := [Cond.fieldLink RJ0 15 "java/lang/String" "coder" "B", Cond.methodLink RX7 57 yJ0_charAt_5068e, Cond.instanceMethod yJ0_charAt_5068e, Cond.selects RJ0 yJ0_charAt_5068e yJ0_charAt_5068e, Cond.code yJ0_charAt_5068e cJ0_charAt_5068e 2 (some .char), Cond.methodLink RJ0 492 yJ0_isLatin1_aae02, Cond.instanceMethod yJ0_isLatin1_aae02, Cond.selects RJ0 yJ0_isLatin1_aae02 yJ0_isLatin1_aae02, Cond.code yJ0_isLatin1_aae02 cJ0_isLatin1_aae02 1 (some .boolean), Cond.methodLink RJ0 495 yJ1_charAt_3b067, Cond.static yJ1_charAt_3b067, Cond.initialized RJ1, Cond.code yJ1_charAt_3b067 cJ1_charAt_3b067 2 (some .char), Cond.methodLink RJ1 9 yJ0_checkIndex_df160, Cond.static yJ0_checkIndex_df160, Cond.code yJ0_checkIndex_df160 cJ0_checkIndex_df160 2 none, Cond.fieldLink RJ0 1053 "jdk/internal/util/Preconditions" "SIOOBE_FORMATTER" "Ljava/util/function/BiFunction;", Cond.methodLink RJ0 1059 yJ3_checkIndex_8e157, Cond.static yJ3_checkIndex_8e157, Cond.initialized RJ3, Cond.code yJ3_checkIndex_8e157 cJ3_checkIndex_8e157 3 (some .int), Cond.methodLink RJ0 498 yJ2_charAt_3b067, Cond.static yJ2_charAt_3b067, Cond.initialized RJ2]
def wsX6_readRules_r5 : List Cond := [Cond.code yJ2_charAt_3b067 cJ2_charAt_3b067 2 (some .char), Cond.methodLink RJ2 67 yJ2_checkIndex_2214a, Cond.static yJ2_checkIndex_2214a, Cond.code yJ2_checkIndex_2214a cJ2_checkIndex_2214a 2 none, Cond.methodLink RJ2 48 yJ2_length_9d52b, Cond.static yJ2_length_9d52b, Cond.code yJ2_length_9d52b cJ2_length_9d52b 1 (some .int), Cond.methodLink RJ2 414 yJ0_checkIndex_df160, Cond.methodLink RJ2 71 yJ2_getChar_3b067, Cond.static yJ2_getChar_3b067, Cond.code yJ2_getChar_3b067 cJ2_getChar_3b067 2 (some .char), Cond.fieldLink RJ2 44 "java/lang/StringUTF16" "$assertionsDisabled" "Z", Cond.fieldLink RJ2 59 "java/lang/StringUTF16" "HI_BYTE_SHIFT" "I", Cond.fieldLink RJ2 63 "java/lang/StringUTF16" "LO_BYTE_SHIFT" "I", Cond.methodLink RX6 56 yX7_toNextWord, Cond.methodLink RX6 46 yX7_asNumber, Cond.instanceMethod yX7_asNumber, Cond.selects RX7 yX7_asNumber yX7_asNumber, Cond.code yX7_asNumber cX7_asNumber 6 (some .long), Cond.constantLong RX7 65 (-1), Cond.constantLong RX7 67 (48), Cond.constantLong RX7 69 (9), Cond.methodLink RX7 61 yX7_hasWord, Cond.methodLink RX6 52 yX0_draftHasRule]
def wsX6_readRules_r6 : List Cond := [Cond.instanceMethod yX0_draftHasRule, Cond.selects RX0 yX0_draftHasRule yX0_draftHasRule, Cond.code yX0_draftHasRule cX0_draftHasRule 2 (some .boolean), Cond.methodLink RX0 51 yX5_get, Cond.methodLink RX6 59 yX6_takePrice, Cond.instanceMethod yX6_takePrice, Cond.selects RX6 yX6_takePrice yX6_takePrice, Cond.code yX6_takePrice cX6_takePrice 6 (some .boolean), Cond.constantLong RX6 70 (-1), Cond.methodLink RX6 72 yX6_takeNumberAbove, Cond.instanceMethod yX6_takeNumberAbove, Cond.selects RX6 yX6_takeNumberAbove yX6_takeNumberAbove, Cond.code yX6_takeNumberAbove cX6_takeNumberAbove 5 (some .long), Cond.methodLink RX6 78 yX0_tellRule, Cond.instanceMethod yX0_tellRule, Cond.selects RX0 yX0_tellRule yX0_tellRule, Cond.code yX0_tellRule cX0_tellRule 7 none, Cond.fieldLink RX0 29 "FeeRules$Editions" "prices" "LFeeRules$Row;", Cond.fieldLink RX0 32 "FeeRules$Editions" "caps" "LFeeRules$Row;", Cond.fieldLink RX0 35 "FeeRules$Editions" "firstSteps" "LFeeRules$Row;", Cond.fieldLink RX0 38 "FeeRules$Editions" "stepCounts" "LFeeRules$Row;", Cond.methodLink RX6 62 yX6_takeSteps, Cond.instanceMethod yX6_takeSteps, Cond.selects RX6 yX6_takeSteps yX6_takeSteps]
def wsX6_readRules_r7 : List Cond := [Cond.code yX6_takeSteps cX6_takeSteps 9 (some .boolean), Cond.methodLink RX6 84 yX0_tellStep, Cond.instanceMethod yX0_tellStep, Cond.selects RX0 yX0_tellStep yX0_tellStep, Cond.code yX0_tellStep cX0_tellStep 8 none, Cond.fieldLink RX0 41 "FeeRules$Editions" "stepStarts" "LFeeRules$Row;", Cond.fieldLink RX0 44 "FeeRules$Editions" "stepPrices" "LFeeRules$Row;", Cond.methodLink RX6 65 yX6_takeCap, Cond.instanceMethod yX6_takeCap, Cond.selects RX6 yX6_takeCap yX6_takeCap, Cond.code yX6_takeCap cX6_takeCap 4 (some .boolean), Cond.methodLink RX6 89 yX0_tellCap, Cond.instanceMethod yX0_tellCap, Cond.selects RX0 yX0_tellCap yX0_tellCap, Cond.code yX0_tellCap cX0_tellCap 4 none, Cond.methodLink RX6 36 yX7_numberOfWord, Cond.instanceMethod yX7_numberOfWord, Cond.selects RX7 yX7_numberOfWord yX7_numberOfWord, Cond.code yX7_numberOfWord cX7_numberOfWord 1 (some .int)]
def wsX6_readRules : List Cond := .code yX6_readRules cX6_readRules 2 (some .int) :: ((wsX6_readRules_r1 ++ (wsX6_readRules_r2 ++ (wsX6_readRules_r3 ++ (wsX6_readRules_r4 ++ (wsX6_readRules_r5 ++ (wsX6_readRules_r6 ++ wsX6_readRules_r7)))))) ++ wsX60 ++ wsX00 ++ wsX50 ++ wsX70)
def wsX7_init : List Cond := .code yX7_init cX7_init 1 none :: ([.methodLink RX7 3 objectInit, .instanceMethod objectInit, .code objectInit ⟨#[0xb1]⟩ 1 none, .classLink RX7 9 RX5, .instantiable RX5 1, .initialized RX5, .fieldLink RX7 14 "FeeRules$Text" "bytes" "LFeeRules$Row;", .methodLink RX7 11 yX5_init, .instanceMethod yX5_init, .code yX5_init cX5_init 2 none, .methodLink RX5 1 objectInit, .arrayClass .long, .fieldLink RX5 7 "FeeRules$Row" "cells" "[J"] ++ wsX50 ++ wsX70)
def wsX7_add : List Cond := .code yX7_add cX7_add 2 (some .boolean) :: ([.fieldLink RX7 20 "FeeRules$Text" "length" "I", .fieldLink RX7 14 "FeeRules$Text" "bytes" "LFeeRules$Row;", .methodLink RX7 24 yX5_set, .instanceMethod yX5_set, .selects RX5 yX5_set yX5_set, .initialized RX5, .code yX5_set cX5_set 4 none, .fieldLink RX5 7 "FeeRules$Row" "cells" "[J"] ++ wsX70 ++ wsX50)
def wsX7_clear : List Cond := .code yX7_clear cX7_clear 1 none :: ([.fieldLink RX7 20 "FeeRules$Text" "length" "I"] ++ wsX70)
def wsX8_init_r1 : List Cond := [Cond.methodLink RX8 3 objectInit, Cond.instanceMethod objectInit, Cond.code objectInit ⟨#[0xb1]⟩ 1 none, Cond.classLink RX8 9 RX3, Cond.instantiable RX3 4, Cond.initialized RX3, Cond.fieldLink RX8 12 "FeeRules" "houses" "LFeeRules$Houses;", Cond.classLink RX8 16 RX1, Cond.instantiable RX1 6, Cond.initialized RX1, Cond.fieldLink RX8 19 "FeeRules" "facts" "LFeeRules$Facts;", Cond.classLink RX8 23 RX7, Cond.instantiable RX7 5, Cond.initialized RX7, Cond.fieldLink RX8 26 "FeeRules" "text" "LFeeRules$Text;", Cond.classLink RX8 30 RX0, Cond.instantiable RX0 12, Cond.initialized RX0, Cond.fieldLink RX8 33 "FeeRules" "editions" "LFeeRules$Editions;", Cond.classLink RX8 37 RX6, Cond.instantiable RX6 2, Cond.initialized RX6, Cond.fieldLink RX8 42 "FeeRules" "reader" "LFeeRules$RuleReader;", Cond.classLink RX8 46 RX4]
def wsX8_init_r2 : List Cond := [Cond.instantiable RX4 5, Cond.initialized RX4, Cond.fieldLink RX8 49 "FeeRules" "reliefs" "LFeeRules$Reliefs;", Cond.classLink RX8 53 RX5, Cond.instantiable RX5 1, Cond.initialized RX5, Cond.fieldLink RX8 58 "FeeRules" "monthCaps" "LFeeRules$Row;", Cond.constantLong RX8 62 (-1), Cond.classLink RX8 68 RX2, Cond.instantiable RX2 7, Cond.initialized RX2, Cond.fieldLink RX8 71 "FeeRules" "held" "LFeeRules$HeldLines;", Cond.instanceMethod yX3_init, Cond.code yX3_init cX3_init 1 none, Cond.methodLink RX3 3 objectInit, Cond.classLink RX3 9 RX5, Cond.fieldLink RX3 14 "FeeRules$Houses" "flats" "LFeeRules$Row;", Cond.fieldLink RX3 20 "FeeRules$Houses" "weights" "LFeeRules$Row;", Cond.fieldLink RX3 23 "FeeRules$Houses" "issuedCents" "LFeeRules$Row;", Cond.methodLink RX3 11 yX5_init, Cond.instanceMethod yX5_init, Cond.code yX5_init cX5_init 2 none, Cond.methodLink RX5 1 objectInit, Cond.arrayClass .long]
def wsX8_init_r3 : List Cond := [Cond.fieldLink RX5 7 "FeeRules$Row" "cells" "[J", Cond.instanceMethod yX1_init, Cond.code yX1_init cX1_init 1 none, Cond.methodLink RX1 3 objectInit, Cond.classLink RX1 9 RX5, Cond.fieldLink RX1 14 "FeeRules$Facts" "houses" "LFeeRules$Row;", Cond.fieldLink RX1 20 "FeeRules$Facts" "kinds" "LFeeRules$Row;", Cond.fieldLink RX1 23 "FeeRules$Facts" "days" "LFeeRules$Row;", Cond.fieldLink RX1 26 "FeeRules$Facts" "measures" "LFeeRules$Row;", Cond.fieldLink RX1 29 "FeeRules$Facts" "knownDays" "LFeeRules$Row;", Cond.methodLink RX1 11 yX5_init, Cond.instanceMethod yX7_init, Cond.code yX7_init cX7_init 1 none, Cond.methodLink RX7 3 objectInit, Cond.classLink RX7 9 RX5, Cond.fieldLink RX7 14 "FeeRules$Text" "bytes" "LFeeRules$Row;", Cond.methodLink RX7 11 yX5_init, Cond.instanceMethod yX0_init, Cond.code yX0_init cX0_init 1 none, Cond.methodLink RX0 3 objectInit, Cond.classLink RX0 9 RX5, Cond.fieldLink RX0 14 "FeeRules$Editions" "fromDays" "LFeeRules$Row;", Cond.fieldLink RX0 20 "FeeRules$Editions" "knownDays" "LFeeRules$Row;", Cond.fieldLink RX0 23 "FeeRules$Editions" "ruleCounts" "LFeeRules$Row;"]
def wsX8_init_r4 : List Cond := [Cond.fieldLink RX0 26 "FeeRules$Editions" "pers" "LFeeRules$Row;", Cond.fieldLink RX0 29 "FeeRules$Editions" "prices" "LFeeRules$Row;", Cond.fieldLink RX0 32 "FeeRules$Editions" "caps" "LFeeRules$Row;", Cond.fieldLink RX0 35 "FeeRules$Editions" "firstSteps" "LFeeRules$Row;", Cond.fieldLink RX0 38 "FeeRules$Editions" "stepCounts" "LFeeRules$Row;", Cond.fieldLink RX0 41 "FeeRules$Editions" "stepStarts" "LFeeRules$Row;", Cond.fieldLink RX0 44 "FeeRules$Editions" "stepPrices" "LFeeRules$Row;", Cond.methodLink RX0 11 yX5_init, Cond.methodLink RX8 39 yX6_init, Cond.instanceMethod yX6_init, Cond.code yX6_init cX6_init 3 none, Cond.methodLink RX6 3 objectInit, Cond.fieldLink RX6 9 "FeeRules$RuleReader" "text" "LFeeRules$Text;", Cond.fieldLink RX6 15 "FeeRules$RuleReader" "editions" "LFeeRules$Editions;", Cond.instanceMethod yX4_init, Cond.code yX4_init cX4_init 1 none, Cond.methodLink RX4 3 objectInit, Cond.classLink RX4 9 RX5, Cond.fieldLink RX4 14 "FeeRules$Reliefs" "houses" "LFeeRules$Row;", Cond.fieldLink RX4 20 "FeeRules$Reliefs" "kinds" "LFeeRules$Row;", Cond.fieldLink RX4 23 "FeeRules$Reliefs" "firstDays" "LFeeRules$Row;", Cond.fieldLink RX4 26 "FeeRules$Reliefs" "lastDays" "LFeeRules$Row;", Cond.methodLink RX4 11 yX5_init, Cond.methodLink RX8 55 yX5_init]
def wsX8_init_r5 : List Cond := [Cond.methodLink RX8 64 yX5_set, Cond.instanceMethod yX5_set, Cond.selects RX5 yX5_set yX5_set, Cond.code yX5_set cX5_set 4 none, Cond.instanceMethod yX2_init, Cond.code yX2_init cX2_init 1 none, Cond.methodLink RX2 3 objectInit, Cond.classLink RX2 9 RX5, Cond.fieldLink RX2 14 "FeeRules$HeldLines" "facts" "LFeeRules$Row;", Cond.fieldLink RX2 20 "FeeRules$HeldLines" "cents" "LFeeRules$Row;", Cond.fieldLink RX2 23 "FeeRules$HeldLines" "editions" "LFeeRules$Row;", Cond.fieldLink RX2 26 "FeeRules$HeldLines" "lacks" "LFeeRules$Row;", Cond.fieldLink RX2 29 "FeeRules$HeldLines" "printed" "LFeeRules$Row;", Cond.methodLink RX2 11 yX5_init]
def wsX8_init : List Cond := .code yX8_init cX8_init 2 none :: ((wsX8_init_r1 ++ (wsX8_init_r2 ++ (wsX8_init_r3 ++ (wsX8_init_r4 ++ wsX8_init_r5)))) ++ wsX30 ++ wsX80 ++ wsX10 ++ wsX70 ++ wsX00 ++ wsX60 ++ wsX40 ++ wsX50 ++ wsX20)
def wsX8_house : List Cond := .code yX8_house cX8_house 2 (some .int) :: ([.fieldLink RX8 12 "FeeRules" "houses" "LFeeRules$Houses;", .methodLink RX8 75 yX3_add, .instanceMethod yX3_add, .selects RX3 yX3_add yX3_add, .initialized RX3, .code yX3_add cX3_add 4 (some .int), .fieldLink RX3 26 "FeeRules$Houses" "count" "I", .fieldLink RX3 14 "FeeRules$Houses" "flats" "LFeeRules$Row;", .methodLink RX3 30 yX5_set, .instanceMethod yX5_set, .selects RX5 yX5_set yX5_set, .initialized RX5, .code yX5_set cX5_set 4 none, .fieldLink RX5 7 "FeeRules$Row" "cells" "[J", .methodLink RX3 34 yX3_setWeight, .instanceMethod yX3_setWeight, .selects RX3 yX3_setWeight yX3_setWeight, .code yX3_setWeight cX3_setWeight 4 none, .fieldLink RX3 20 "FeeRules$Houses" "weights" "LFeeRules$Row;"] ++ wsX80 ++ wsX30 ++ wsX50)
def wsX8_isKind : List Cond := .code yX8_isKind cX8_isKind 1 (some .boolean) :: ([])
def wsX8_isDay : List Cond := .code yX8_isDay cX8_isDay 2 (some .boolean) :: ([.constantLong RX8 191 (3600)])
def wsX8_fact_r1 : List Cond := [Cond.fieldLink RX8 12 "FeeRules" "houses" "LFeeRules$Houses;", Cond.constantLong RX8 90 (1000000), Cond.fieldLink RX8 19 "FeeRules" "facts" "LFeeRules$Facts;", Cond.methodLink RX8 79 yX3_has, Cond.instanceMethod yX3_has, Cond.selects RX3 yX3_has yX3_has, Cond.initialized RX3, Cond.code yX3_has cX3_has 2 (some .boolean), Cond.fieldLink RX3 26 "FeeRules$Houses" "count" "I", Cond.methodLink RX8 83 yX8_isKind, Cond.static yX8_isKind, Cond.initialized RX8, Cond.code yX8_isKind cX8_isKind 1 (some .boolean), Cond.methodLink RX8 86 yX8_isDay, Cond.static yX8_isDay, Cond.code yX8_isDay cX8_isDay 2 (some .boolean), Cond.constantLong RX8 191 (3600), Cond.methodLink RX8 92 yX1_add, Cond.instanceMethod yX1_add, Cond.selects RX1 yX1_add yX1_add, Cond.initialized RX1, Cond.code yX1_add cX1_add 10 (some .int), Cond.fieldLink RX1 32 "FeeRules$Facts" "count" "I", Cond.fieldLink RX1 14 "FeeRules$Facts" "houses" "LFeeRules$Row;"]
def wsX8_fact_r2 : List Cond := [Cond.fieldLink RX1 20 "FeeRules$Facts" "kinds" "LFeeRules$Row;", Cond.fieldLink RX1 23 "FeeRules$Facts" "days" "LFeeRules$Row;", Cond.fieldLink RX1 26 "FeeRules$Facts" "measures" "LFeeRules$Row;", Cond.fieldLink RX1 29 "FeeRules$Facts" "knownDays" "LFeeRules$Row;", Cond.methodLink RX1 36 yX5_set, Cond.instanceMethod yX5_set, Cond.selects RX5 yX5_set yX5_set, Cond.initialized RX5, Cond.code yX5_set cX5_set 4 none, Cond.fieldLink RX5 7 "FeeRules$Row" "cells" "[J"]
def wsX8_fact : List Cond := .code yX8_fact cX8_fact 9 (some .int) :: ((wsX8_fact_r1 ++ wsX8_fact_r2) ++ wsX80 ++ wsX30 ++ wsX10 ++ wsX50)
def wsX8_unit : List Cond := .code yX8_unit cX8_unit 2 (some .boolean) :: ([.fieldLink RX8 26 "FeeRules" "text" "LFeeRules$Text;", .methodLink RX8 95 yX7_add, .instanceMethod yX7_add, .selects RX7 yX7_add yX7_add, .initialized RX7, .code yX7_add cX7_add 2 (some .boolean), .fieldLink RX7 20 "FeeRules$Text" "length" "I", .fieldLink RX7 14 "FeeRules$Text" "bytes" "LFeeRules$Row;", .methodLink RX7 24 yX5_set, .instanceMethod yX5_set, .selects RX5 yX5_set yX5_set, .initialized RX5, .code yX5_set cX5_set 4 none, .fieldLink RX5 7 "FeeRules$Row" "cells" "[J"] ++ wsX80 ++ wsX70 ++ wsX50)
def wsX8_read_r1 : List Cond := [Cond.fieldLink RX8 33 "FeeRules" "editions" "LFeeRules$Editions;", Cond.fieldLink RX8 42 "FeeRules" "reader" "LFeeRules$RuleReader;", Cond.fieldLink RX8 26 "FeeRules" "text" "LFeeRules$Text;", Cond.methodLink RX8 86 yX8_isDay, Cond.static yX8_isDay, Cond.initialized RX8, Cond.code yX8_isDay cX8_isDay 2 (some .boolean), Cond.constantLong RX8 191 (3600), Cond.methodLink RX8 97 yX0_isFull, Cond.instanceMethod yX0_isFull, Cond.selects RX0 yX0_isFull yX0_isFull, Cond.initialized RX0, Cond.code yX0_isFull cX0_isFull 1 (some .boolean), Cond.fieldLink RX0 47 "FeeRules$Editions" "count" "I", Cond.methodLink RX8 101 yX6_readRules, Cond.instanceMethod yX6_readRules, Cond.selects RX6 yX6_readRules yX6_readRules, Cond.initialized RX6, Cond.code yX6_readRules cX6_readRules 2 (some .int), Cond.fieldLink RX6 15 "FeeRules$RuleReader" "editions" "LFeeRules$Editions;", Cond.fieldLink RX6 9 "FeeRules$RuleReader" "text" "LFeeRules$Text;", Cond.methodLink RX6 19 yX0_startDraft, Cond.instanceMethod yX0_startDraft, Cond.selects RX0 yX0_startDraft yX0_startDraft]
def wsX8_read_r2 : List Cond := [Cond.code yX0_startDraft cX0_startDraft 2 none, Cond.fieldLink RX0 55 "FeeRules$Editions" "draftSteps" "I", Cond.fieldLink RX0 26 "FeeRules$Editions" "pers" "LFeeRules$Row;", Cond.constantLong RX0 62 (-1), Cond.methodLink RX0 58 yX0_cellOf, Cond.static yX0_cellOf, Cond.code yX0_cellOf cX0_cellOf 2 (some .int), Cond.methodLink RX0 64 yX5_set, Cond.instanceMethod yX5_set, Cond.selects RX5 yX5_set yX5_set, Cond.initialized RX5, Cond.code yX5_set cX5_set 4 none, Cond.fieldLink RX5 7 "FeeRules$Row" "cells" "[J", Cond.methodLink RX6 24 yX7_toFirstWord, Cond.instanceMethod yX7_toFirstWord, Cond.selects RX7 yX7_toFirstWord yX7_toFirstWord, Cond.initialized RX7, Cond.code yX7_toFirstWord cX7_toFirstWord 1 none, Cond.fieldLink RX7 28 "FeeRules$Text" "wordEnd" "I", Cond.fieldLink RX7 34 "FeeRules$Text" "wordNumber" "I", Cond.methodLink RX7 31 yX7_toNextWord, Cond.instanceMethod yX7_toNextWord, Cond.selects RX7 yX7_toNextWord yX7_toNextWord, Cond.code yX7_toNextWord cX7_toNextWord 1 none]
def wsX8_read_r3 : List Cond := [Cond.fieldLink RX7 37 "FeeRules$Text" "wordStart" "I", Cond.fieldLink RX7 20 "FeeRules$Text" "length" "I", Cond.fieldLink RX7 14 "FeeRules$Text" "bytes" "LFeeRules$Row;", Cond.methodLink RX7 40 yX5_get, Cond.instanceMethod yX5_get, Cond.selects RX5 yX5_get yX5_get, Cond.code yX5_get cX5_get 2 (some .long), Cond.methodLink RX7 44 yX7_isBlank, Cond.static yX7_isBlank, Cond.code yX7_isBlank cX7_isBlank 2 (some .boolean), Cond.constantLong RX7 48 (32), Cond.constantLong RX7 50 (10), Cond.methodLink RX6 29 yX7_hasWord, Cond.instanceMethod yX7_hasWord, Cond.selects RX7 yX7_hasWord yX7_hasWord, Cond.code yX7_hasWord cX7_hasWord 1 (some .boolean), Cond.methodLink RX6 33 yX6_takeRule, Cond.instanceMethod yX6_takeRule, Cond.selects RX6 yX6_takeRule yX6_takeRule, Cond.code yX6_takeRule cX6_takeRule 4 (some .boolean), Cond.constantLong RX6 50 (6), Cond.methodLink RX6 42 yX6_takeWord, Cond.instanceMethod yX6_takeWord, Cond.selects RX6 yX6_takeWord yX6_takeWord]
def wsX8_read_r4 : List Cond := [Cond.code yX6_takeWord cX6_takeWord 2 (some .boolean), Cond.methodLink RX6 93 yX7_isWord, Cond.instanceMethod yX7_isWord, Cond.selects RX7 yX7_isWord yX7_isWord, Cond.code yX7_isWord cX7_isWord 3 (some .boolean), Cond.methodLink RX7 52 yJ0_length_8abf5, Cond.instanceMethod yJ0_length_8abf5, Cond.selects RJ0 yJ0_length_8abf5 yJ0_length_8abf5, Cond.initialized RJ0, Cond.code yJ0_length_8abf5 cJ0_length_8abf5 1 (some .int), Cond.fieldLink RJ0 9 "java/lang/String" "value" "[B", Cond.methodLink RJ0 335 yJ0_coder_7d493, Cond.instanceMethod yJ0_coder_7d493, Cond.selects RJ0 yJ0_coder_7d493 yJ0_coder_7d493, Cond.code yJ0_coder_7d493 cJ0_coder_7d493 1 (some .byte), Cond.fieldLink RJ0 38 "java/lang/String" "COMPACT_STRINGS" "Z", Cond.fieldLink RJ0 15 "java/lang/String" "coder" "B", Cond.methodLink RX7 57 yJ0_charAt_5068e, Cond.instanceMethod yJ0_charAt_5068e, Cond.selects RJ0 yJ0_charAt_5068e yJ0_charAt_5068e, Cond.code yJ0_charAt_5068e cJ0_charAt_5068e 2 (some .char), Cond.methodLink RJ0 492 yJ0_isLatin1_aae02, Cond.instanceMethod yJ0_isLatin1_aae02, Cond.selects RJ0 yJ0_isLatin1_aae02 yJ0_isLatin1_aae02]
def wsX8_read_r5 : List Cond := [Cond.code yJ0_isLatin1_aae02 cJ0_isLatin1_aae02 1 (some .boolean), Cond.methodLink RJ0 495 yJ1_charAt_3b067, Cond.static yJ1_charAt_3b067, Cond.initialized RJ1, Cond.code yJ1_charAt_3b067 cJ1_charAt_3b067 2 (some .char), Cond.methodLink RJ1 9 yJ0_checkIndex_df160, Cond.static yJ0_checkIndex_df160, Cond.code yJ0_checkIndex_df160 cJ0_checkIndex_df160 2 none, Cond.fieldLink RJ0 1053 "jdk/internal/util/Preconditions" "SIOOBE_FORMATTER" "Ljava/util/function/BiFunction;", Cond.methodLink RJ0 1059 yJ3_checkIndex_8e157, Cond.static yJ3_checkIndex_8e157, Cond.initialized RJ3, Cond.code yJ3_checkIndex_8e157 cJ3_checkIndex_8e157 3 (some .int), Cond.methodLink RJ0 498 yJ2_charAt_3b067, Cond.static yJ2_charAt_3b067, Cond.initialized RJ2, Cond.code yJ2_charAt_3b067 cJ2_charAt_3b067 2 (some .char), Cond.methodLink RJ2 67 yJ2_checkIndex_2214a, Cond.static yJ2_checkIndex_2214a, Cond.code yJ2_checkIndex_2214a cJ2_checkIndex_2214a 2 none, Cond.methodLink RJ2 48 yJ2_length_9d52b, Cond.static yJ2_length_9d52b, Cond.code yJ2_length_9d52b cJ2_length_9d52b 1 (some .int), Cond.methodLink RJ2 414 yJ0_checkIndex_df160]
def wsX8_read_r6 : List Cond := [Cond.methodLink RJ2 71 yJ2_getChar_3b067, Cond.static yJ2_getChar_3b067, Cond.code yJ2_getChar_3b067 cJ2_getChar_3b067 2 (some .char), Cond.fieldLink RJ2 44 "java/lang/StringUTF16" "$assertionsDisabled" "Z", Cond.fieldLink RJ2 59 "java/lang/StringUTF16" "HI_BYTE_SHIFT" "I", Cond.fieldLink RJ2 63 "java/lang/StringUTF16" "LO_BYTE_SHIFT" "I", Cond.methodLink RX6 56 yX7_toNextWord, Cond.methodLink RX6 46 yX7_asNumber, Cond.instanceMethod yX7_asNumber, Cond.selects RX7 yX7_asNumber yX7_asNumber, Cond.code yX7_asNumber cX7_asNumber 6 (some .long), Cond.constantLong RX7 65 (-1), Cond.constantLong RX7 67 (48), Cond.constantLong RX7 69 (9), Cond.methodLink RX7 61 yX7_hasWord, Cond.methodLink RX6 52 yX0_draftHasRule, Cond.instanceMethod yX0_draftHasRule, Cond.selects RX0 yX0_draftHasRule yX0_draftHasRule, Cond.code yX0_draftHasRule cX0_draftHasRule 2 (some .boolean), Cond.methodLink RX0 51 yX5_get, Cond.methodLink RX6 59 yX6_takePrice, Cond.instanceMethod yX6_takePrice, Cond.selects RX6 yX6_takePrice yX6_takePrice, Cond.code yX6_takePrice cX6_takePrice 6 (some .boolean)]
def wsX8_read_r7 : List Cond := [Cond.constantLong RX6 70 (-1), Cond.methodLink RX6 72 yX6_takeNumberAbove, Cond.instanceMethod yX6_takeNumberAbove, Cond.selects RX6 yX6_takeNumberAbove yX6_takeNumberAbove, Cond.code yX6_takeNumberAbove cX6_takeNumberAbove 5 (some .long), Cond.methodLink RX6 78 yX0_tellRule, Cond.instanceMethod yX0_tellRule, Cond.selects RX0 yX0_tellRule yX0_tellRule, Cond.code yX0_tellRule cX0_tellRule 7 none, Cond.fieldLink RX0 29 "FeeRules$Editions" "prices" "LFeeRules$Row;", Cond.fieldLink RX0 32 "FeeRules$Editions" "caps" "LFeeRules$Row;", Cond.fieldLink RX0 35 "FeeRules$Editions" "firstSteps" "LFeeRules$Row;", Cond.fieldLink RX0 38 "FeeRules$Editions" "stepCounts" "LFeeRules$Row;", Cond.methodLink RX6 62 yX6_takeSteps, Cond.instanceMethod yX6_takeSteps, Cond.selects RX6 yX6_takeSteps yX6_takeSteps, Cond.code yX6_takeSteps cX6_takeSteps 9 (some .boolean), Cond.methodLink RX6 84 yX0_tellStep, Cond.instanceMethod yX0_tellStep, Cond.selects RX0 yX0_tellStep yX0_tellStep, Cond.code yX0_tellStep cX0_tellStep 8 none, Cond.fieldLink RX0 41 "FeeRules$Editions" "stepStarts" "LFeeRules$Row;", Cond.fieldLink RX0 44 "FeeRules$Editions" "stepPrices" "LFeeRules$Row;", Cond.methodLink RX6 65 yX6_takeCap]
def wsX8_read_r8 : List Cond := [Cond.instanceMethod yX6_takeCap, Cond.selects RX6 yX6_takeCap yX6_takeCap, Cond.code yX6_takeCap cX6_takeCap 4 (some .boolean), Cond.methodLink RX6 89 yX0_tellCap, Cond.instanceMethod yX0_tellCap, Cond.selects RX0 yX0_tellCap yX0_tellCap, Cond.code yX0_tellCap cX0_tellCap 4 none, Cond.methodLink RX6 36 yX7_numberOfWord, Cond.instanceMethod yX7_numberOfWord, Cond.selects RX7 yX7_numberOfWord yX7_numberOfWord, Cond.code yX7_numberOfWord cX7_numberOfWord 1 (some .int), Cond.methodLink RX8 105 yX0_keepDraft, Cond.instanceMethod yX0_keepDraft, Cond.selects RX0 yX0_keepDraft yX0_keepDraft, Cond.code yX0_keepDraft cX0_keepDraft 6 none, Cond.fieldLink RX0 14 "FeeRules$Editions" "fromDays" "LFeeRules$Row;", Cond.fieldLink RX0 20 "FeeRules$Editions" "knownDays" "LFeeRules$Row;", Cond.fieldLink RX0 23 "FeeRules$Editions" "ruleCounts" "LFeeRules$Row;", Cond.methodLink RX8 109 yX7_clear, Cond.instanceMethod yX7_clear, Cond.selects RX7 yX7_clear yX7_clear, Cond.code yX7_clear cX7_clear 1 none]
def wsX8_read : List Cond := .code yX8_read cX8_read 6 (some .int) :: ((wsX8_read_r1 ++ (wsX8_read_r2 ++ (wsX8_read_r3 ++ (wsX8_read_r4 ++ (wsX8_read_r5 ++ (wsX8_read_r6 ++ (wsX8_read_r7 ++ wsX8_read_r8))))))) ++ wsX80 ++ wsX00 ++ wsX60 ++ wsX50 ++ wsX70)
def wsX8_edition_r1 : List Cond := [Cond.fieldLink RX8 33 "FeeRules" "editions" "LFeeRules$Editions;", Cond.methodLink RX8 112 yX0_has, Cond.instanceMethod yX0_has, Cond.selects RX0 yX0_has yX0_has, Cond.initialized RX0, Cond.code yX0_has cX0_has 2 (some .boolean), Cond.fieldLink RX0 47 "FeeRules$Editions" "count" "I", Cond.methodLink RX8 113 yX0_actsFrom, Cond.instanceMethod yX0_actsFrom, Cond.selects RX0 yX0_actsFrom yX0_actsFrom, Cond.code yX0_actsFrom cX0_actsFrom 2 (some .long), Cond.fieldLink RX0 14 "FeeRules$Editions" "fromDays" "LFeeRules$Row;", Cond.methodLink RX0 51 yX5_get, Cond.instanceMethod yX5_get, Cond.selects RX5 yX5_get yX5_get, Cond.initialized RX5, Cond.code yX5_get cX5_get 2 (some .long), Cond.fieldLink RX5 7 "FeeRules$Row" "cells" "[J", Cond.methodLink RX8 117 yX0_knownFrom, Cond.instanceMethod yX0_knownFrom, Cond.selects RX0 yX0_knownFrom yX0_knownFrom, Cond.code yX0_knownFrom cX0_knownFrom 2 (some .long), Cond.fieldLink RX0 20 "FeeRules$Editions" "knownDays" "LFeeRules$Row;", Cond.methodLink RX8 120 yX0_ruleCount]
def wsX8_edition_r2 : List Cond := [Cond.instanceMethod yX0_ruleCount, Cond.selects RX0 yX0_ruleCount yX0_ruleCount, Cond.code yX0_ruleCount cX0_ruleCount 2 (some .long), Cond.fieldLink RX0 23 "FeeRules$Editions" "ruleCounts" "LFeeRules$Row;"]
def wsX8_edition : List Cond := .code yX8_edition cX8_edition 3 (some .int) :: ((wsX8_edition_r1 ++ wsX8_edition_r2) ++ wsX80 ++ wsX00 ++ wsX50)
def wsX8_isMonth : List Cond := .code yX8_isMonth cX8_isMonth 1 (some .boolean) :: ([])
def wsX8_cap : List Cond := .code yX8_cap cX8_cap 4 (some .boolean) :: ([.constantLong RX8 126 (1000000000000), .fieldLink RX8 58 "FeeRules" "monthCaps" "LFeeRules$Row;", .methodLink RX8 123 yX8_isMonth, .static yX8_isMonth, .initialized RX8, .code yX8_isMonth cX8_isMonth 1 (some .boolean), .methodLink RX8 64 yX5_set, .instanceMethod yX5_set, .selects RX5 yX5_set yX5_set, .initialized RX5, .code yX5_set cX5_set 4 none, .fieldLink RX5 7 "FeeRules$Row" "cells" "[J"] ++ wsX80 ++ wsX50)
def wsX8_relief_r1 : List Cond := [Cond.fieldLink RX8 12 "FeeRules" "houses" "LFeeRules$Houses;", Cond.fieldLink RX8 49 "FeeRules" "reliefs" "LFeeRules$Reliefs;", Cond.methodLink RX8 79 yX3_has, Cond.instanceMethod yX3_has, Cond.selects RX3 yX3_has yX3_has, Cond.initialized RX3, Cond.code yX3_has cX3_has 2 (some .boolean), Cond.fieldLink RX3 26 "FeeRules$Houses" "count" "I", Cond.methodLink RX8 83 yX8_isKind, Cond.static yX8_isKind, Cond.initialized RX8, Cond.code yX8_isKind cX8_isKind 1 (some .boolean), Cond.methodLink RX8 86 yX8_isDay, Cond.static yX8_isDay, Cond.code yX8_isDay cX8_isDay 2 (some .boolean), Cond.constantLong RX8 191 (3600), Cond.methodLink RX8 128 yX4_add, Cond.instanceMethod yX4_add, Cond.selects RX4 yX4_add yX4_add, Cond.initialized RX4, Cond.code yX4_add cX4_add 7 (some .boolean), Cond.fieldLink RX4 29 "FeeRules$Reliefs" "count" "I", Cond.fieldLink RX4 14 "FeeRules$Reliefs" "houses" "LFeeRules$Row;", Cond.fieldLink RX4 20 "FeeRules$Reliefs" "kinds" "LFeeRules$Row;"]
def wsX8_relief_r2 : List Cond := [Cond.fieldLink RX4 23 "FeeRules$Reliefs" "firstDays" "LFeeRules$Row;", Cond.fieldLink RX4 26 "FeeRules$Reliefs" "lastDays" "LFeeRules$Row;", Cond.methodLink RX4 33 yX5_set, Cond.instanceMethod yX5_set, Cond.selects RX5 yX5_set yX5_set, Cond.initialized RX5, Cond.code yX5_set cX5_set 4 none, Cond.fieldLink RX5 7 "FeeRules$Row" "cells" "[J"]
def wsX8_relief : List Cond := .code yX8_relief cX8_relief 7 (some .boolean) :: ((wsX8_relief_r1 ++ wsX8_relief_r2) ++ wsX80 ++ wsX30 ++ wsX40 ++ wsX50)
def wsX8_weight_r1 : List Cond := [Cond.fieldLink RX8 12 "FeeRules" "houses" "LFeeRules$Houses;", Cond.methodLink RX8 131 yX3_hasFlat, Cond.instanceMethod yX3_hasFlat, Cond.selects RX3 yX3_hasFlat yX3_hasFlat, Cond.initialized RX3, Cond.code yX3_hasFlat cX3_hasFlat 3 (some .boolean), Cond.fieldLink RX3 14 "FeeRules$Houses" "flats" "LFeeRules$Row;", Cond.methodLink RX3 38 yX3_has, Cond.instanceMethod yX3_has, Cond.selects RX3 yX3_has yX3_has, Cond.code yX3_has cX3_has 2 (some .boolean), Cond.fieldLink RX3 26 "FeeRules$Houses" "count" "I", Cond.methodLink RX3 42 yX5_get, Cond.instanceMethod yX5_get, Cond.selects RX5 yX5_get yX5_get, Cond.initialized RX5, Cond.code yX5_get cX5_get 2 (some .long), Cond.fieldLink RX5 7 "FeeRules$Row" "cells" "[J", Cond.methodLink RX8 135 yX3_setWeight, Cond.instanceMethod yX3_setWeight, Cond.selects RX3 yX3_setWeight yX3_setWeight, Cond.code yX3_setWeight cX3_setWeight 4 none, Cond.fieldLink RX3 20 "FeeRules$Houses" "weights" "LFeeRules$Row;", Cond.methodLink RX3 30 yX5_set]
def wsX8_weight_r2 : List Cond := [Cond.instanceMethod yX5_set, Cond.selects RX5 yX5_set yX5_set, Cond.code yX5_set cX5_set 4 none]
def wsX8_weight : List Cond := .code yX8_weight cX8_weight 4 (some .boolean) :: ((wsX8_weight_r1 ++ wsX8_weight_r2) ++ wsX80 ++ wsX30 ++ wsX50)
def wsX8_isAskable : List Cond := .code yX8_isAskable cX8_isAskable 5 (some .boolean) :: ([.fieldLink RX8 12 "FeeRules" "houses" "LFeeRules$Houses;", .methodLink RX8 79 yX3_has, .instanceMethod yX3_has, .selects RX3 yX3_has yX3_has, .initialized RX3, .code yX3_has cX3_has 2 (some .boolean), .fieldLink RX3 26 "FeeRules$Houses" "count" "I", .methodLink RX8 123 yX8_isMonth, .static yX8_isMonth, .initialized RX8, .code yX8_isMonth cX8_isMonth 1 (some .boolean), .methodLink RX8 86 yX8_isDay, .static yX8_isDay, .code yX8_isDay cX8_isDay 2 (some .boolean), .constantLong RX8 191 (3600)] ++ wsX80 ++ wsX30)
def wsX8_isRelieved_r1 : List Cond := [Cond.fieldLink RX8 49 "FeeRules" "reliefs" "LFeeRules$Reliefs;", Cond.fieldLink RX8 19 "FeeRules" "facts" "LFeeRules$Facts;", Cond.methodLink RX8 217 yX1_houseOf, Cond.instanceMethod yX1_houseOf, Cond.selects RX1 yX1_houseOf yX1_houseOf, Cond.initialized RX1, Cond.code yX1_houseOf cX1_houseOf 2 (some .int), Cond.fieldLink RX1 14 "FeeRules$Facts" "houses" "LFeeRules$Row;", Cond.methodLink RX1 40 yX5_get, Cond.instanceMethod yX5_get, Cond.selects RX5 yX5_get yX5_get, Cond.initialized RX5, Cond.code yX5_get cX5_get 2 (some .long), Cond.fieldLink RX5 7 "FeeRules$Row" "cells" "[J", Cond.methodLink RX8 207 yX1_kindOf, Cond.instanceMethod yX1_kindOf, Cond.selects RX1 yX1_kindOf yX1_kindOf, Cond.code yX1_kindOf cX1_kindOf 2 (some .int), Cond.fieldLink RX1 20 "FeeRules$Facts" "kinds" "LFeeRules$Row;", Cond.methodLink RX8 220 yX1_dayOf, Cond.instanceMethod yX1_dayOf, Cond.selects RX1 yX1_dayOf yX1_dayOf, Cond.code yX1_dayOf cX1_dayOf 2 (some .long), Cond.fieldLink RX1 23 "FeeRules$Facts" "days" "LFeeRules$Row;"]
def wsX8_isRelieved_r2 : List Cond := [Cond.methodLink RX8 223 yX4_relieve, Cond.instanceMethod yX4_relieve, Cond.selects RX4 yX4_relieve yX4_relieve, Cond.initialized RX4, Cond.code yX4_relieve cX4_relieve 6 (some .boolean), Cond.fieldLink RX4 29 "FeeRules$Reliefs" "count" "I", Cond.fieldLink RX4 14 "FeeRules$Reliefs" "houses" "LFeeRules$Row;", Cond.fieldLink RX4 20 "FeeRules$Reliefs" "kinds" "LFeeRules$Row;", Cond.fieldLink RX4 23 "FeeRules$Reliefs" "firstDays" "LFeeRules$Row;", Cond.fieldLink RX4 26 "FeeRules$Reliefs" "lastDays" "LFeeRules$Row;", Cond.methodLink RX4 37 yX5_get]
def wsX8_isRelieved : List Cond := .code yX8_isRelieved cX8_isRelieved 2 (some .boolean) :: ((wsX8_isRelieved_r1 ++ wsX8_isRelieved_r2) ++ wsX80 ++ wsX10 ++ wsX50 ++ wsX40)
def wsX8_editionOf_r1 : List Cond := [Cond.fieldLink RX8 33 "FeeRules" "editions" "LFeeRules$Editions;", Cond.fieldLink RX8 19 "FeeRules" "facts" "LFeeRules$Facts;", Cond.methodLink RX8 226 yX8_isRelieved, Cond.instanceMethod yX8_isRelieved, Cond.selects RX8 yX8_isRelieved yX8_isRelieved, Cond.initialized RX8, Cond.code yX8_isRelieved cX8_isRelieved 2 (some .boolean), Cond.fieldLink RX8 49 "FeeRules" "reliefs" "LFeeRules$Reliefs;", Cond.methodLink RX8 217 yX1_houseOf, Cond.instanceMethod yX1_houseOf, Cond.selects RX1 yX1_houseOf yX1_houseOf, Cond.initialized RX1, Cond.code yX1_houseOf cX1_houseOf 2 (some .int), Cond.fieldLink RX1 14 "FeeRules$Facts" "houses" "LFeeRules$Row;", Cond.methodLink RX1 40 yX5_get, Cond.instanceMethod yX5_get, Cond.selects RX5 yX5_get yX5_get, Cond.initialized RX5, Cond.code yX5_get cX5_get 2 (some .long), Cond.fieldLink RX5 7 "FeeRules$Row" "cells" "[J", Cond.methodLink RX8 207 yX1_kindOf, Cond.instanceMethod yX1_kindOf, Cond.selects RX1 yX1_kindOf yX1_kindOf, Cond.code yX1_kindOf cX1_kindOf 2 (some .int)]
def wsX8_editionOf_r2 : List Cond := [Cond.fieldLink RX1 20 "FeeRules$Facts" "kinds" "LFeeRules$Row;", Cond.methodLink RX8 220 yX1_dayOf, Cond.instanceMethod yX1_dayOf, Cond.selects RX1 yX1_dayOf yX1_dayOf, Cond.code yX1_dayOf cX1_dayOf 2 (some .long), Cond.fieldLink RX1 23 "FeeRules$Facts" "days" "LFeeRules$Row;", Cond.methodLink RX8 223 yX4_relieve, Cond.instanceMethod yX4_relieve, Cond.selects RX4 yX4_relieve yX4_relieve, Cond.initialized RX4, Cond.code yX4_relieve cX4_relieve 6 (some .boolean), Cond.fieldLink RX4 29 "FeeRules$Reliefs" "count" "I", Cond.fieldLink RX4 14 "FeeRules$Reliefs" "houses" "LFeeRules$Row;", Cond.fieldLink RX4 20 "FeeRules$Reliefs" "kinds" "LFeeRules$Row;", Cond.fieldLink RX4 23 "FeeRules$Reliefs" "firstDays" "LFeeRules$Row;", Cond.fieldLink RX4 26 "FeeRules$Reliefs" "lastDays" "LFeeRules$Row;", Cond.methodLink RX4 37 yX5_get, Cond.methodLink RX8 229 yX0_latest, Cond.instanceMethod yX0_latest, Cond.selects RX0 yX0_latest yX0_latest, Cond.initialized RX0, Cond.code yX0_latest cX0_latest 8 (some .int), Cond.fieldLink RX0 47 "FeeRules$Editions" "count" "I", Cond.fieldLink RX0 20 "FeeRules$Editions" "knownDays" "LFeeRules$Row;"]
def wsX8_editionOf_r3 : List Cond := [Cond.fieldLink RX0 14 "FeeRules$Editions" "fromDays" "LFeeRules$Row;", Cond.methodLink RX0 51 yX5_get]
def wsX8_editionOf : List Cond := .code yX8_editionOf cX8_editionOf 4 (some .int) :: ((wsX8_editionOf_r1 ++ (wsX8_editionOf_r2 ++ wsX8_editionOf_r3)) ++ wsX80 ++ wsX10 ++ wsX50 ++ wsX40 ++ wsX00)
def wsX8_centsOf_r1 : List Cond := [Cond.fieldLink RX8 33 "FeeRules" "editions" "LFeeRules$Editions;", Cond.fieldLink RX8 19 "FeeRules" "facts" "LFeeRules$Facts;", Cond.methodLink RX8 226 yX8_isRelieved, Cond.instanceMethod yX8_isRelieved, Cond.selects RX8 yX8_isRelieved yX8_isRelieved, Cond.initialized RX8, Cond.code yX8_isRelieved cX8_isRelieved 2 (some .boolean), Cond.fieldLink RX8 49 "FeeRules" "reliefs" "LFeeRules$Reliefs;", Cond.methodLink RX8 217 yX1_houseOf, Cond.instanceMethod yX1_houseOf, Cond.selects RX1 yX1_houseOf yX1_houseOf, Cond.initialized RX1, Cond.code yX1_houseOf cX1_houseOf 2 (some .int), Cond.fieldLink RX1 14 "FeeRules$Facts" "houses" "LFeeRules$Row;", Cond.methodLink RX1 40 yX5_get, Cond.instanceMethod yX5_get, Cond.selects RX5 yX5_get yX5_get, Cond.initialized RX5, Cond.code yX5_get cX5_get 2 (some .long), Cond.fieldLink RX5 7 "FeeRules$Row" "cells" "[J", Cond.methodLink RX8 207 yX1_kindOf, Cond.instanceMethod yX1_kindOf, Cond.selects RX1 yX1_kindOf yX1_kindOf, Cond.code yX1_kindOf cX1_kindOf 2 (some .int)]
def wsX8_centsOf_r2 : List Cond := [Cond.fieldLink RX1 20 "FeeRules$Facts" "kinds" "LFeeRules$Row;", Cond.methodLink RX8 220 yX1_dayOf, Cond.instanceMethod yX1_dayOf, Cond.selects RX1 yX1_dayOf yX1_dayOf, Cond.code yX1_dayOf cX1_dayOf 2 (some .long), Cond.fieldLink RX1 23 "FeeRules$Facts" "days" "LFeeRules$Row;", Cond.methodLink RX8 223 yX4_relieve, Cond.instanceMethod yX4_relieve, Cond.selects RX4 yX4_relieve yX4_relieve, Cond.initialized RX4, Cond.code yX4_relieve cX4_relieve 6 (some .boolean), Cond.fieldLink RX4 29 "FeeRules$Reliefs" "count" "I", Cond.fieldLink RX4 14 "FeeRules$Reliefs" "houses" "LFeeRules$Row;", Cond.fieldLink RX4 20 "FeeRules$Reliefs" "kinds" "LFeeRules$Row;", Cond.fieldLink RX4 23 "FeeRules$Reliefs" "firstDays" "LFeeRules$Row;", Cond.fieldLink RX4 26 "FeeRules$Reliefs" "lastDays" "LFeeRules$Row;", Cond.methodLink RX4 37 yX5_get, Cond.methodLink RX8 210 yX1_measureOf, Cond.instanceMethod yX1_measureOf, Cond.selects RX1 yX1_measureOf yX1_measureOf, Cond.code yX1_measureOf cX1_measureOf 2 (some .long), Cond.fieldLink RX1 26 "FeeRules$Facts" "measures" "LFeeRules$Row;", Cond.methodLink RX8 233 yX0_feeOf, Cond.instanceMethod yX0_feeOf]
def wsX8_centsOf_r3 : List Cond := [Cond.selects RX0 yX0_feeOf yX0_feeOf, Cond.initialized RX0, Cond.code yX0_feeOf cX0_feeOf 12 (some .long), Cond.constantLong RX0 62 (-1), Cond.fieldLink RX0 26 "FeeRules$Editions" "pers" "LFeeRules$Row;", Cond.fieldLink RX0 32 "FeeRules$Editions" "caps" "LFeeRules$Row;", Cond.methodLink RX0 72 yX0_hasRule, Cond.instanceMethod yX0_hasRule, Cond.selects RX0 yX0_hasRule yX0_hasRule, Cond.code yX0_hasRule cX0_hasRule 3 (some .boolean), Cond.methodLink RX0 68 yX0_has, Cond.instanceMethod yX0_has, Cond.selects RX0 yX0_has yX0_has, Cond.code yX0_has cX0_has 2 (some .boolean), Cond.fieldLink RX0 47 "FeeRules$Editions" "count" "I", Cond.methodLink RX0 58 yX0_cellOf, Cond.static yX0_cellOf, Cond.code yX0_cellOf cX0_cellOf 2 (some .int), Cond.methodLink RX0 51 yX5_get, Cond.methodLink RX0 76 yX0_priceOf, Cond.instanceMethod yX0_priceOf, Cond.selects RX0 yX0_priceOf yX0_priceOf, Cond.code yX0_priceOf cX0_priceOf 18 (some .long), Cond.fieldLink RX0 29 "FeeRules$Editions" "prices" "LFeeRules$Row;"]
def wsX8_centsOf_r4 : List Cond := [Cond.fieldLink RX0 35 "FeeRules$Editions" "firstSteps" "LFeeRules$Row;", Cond.fieldLink RX0 38 "FeeRules$Editions" "stepCounts" "LFeeRules$Row;", Cond.fieldLink RX0 41 "FeeRules$Editions" "stepStarts" "LFeeRules$Row;", Cond.fieldLink RX0 44 "FeeRules$Editions" "stepPrices" "LFeeRules$Row;"]
def wsX8_centsOf : List Cond := .code yX8_centsOf cX8_centsOf 3 (some .long) :: ((wsX8_centsOf_r1 ++ (wsX8_centsOf_r2 ++ (wsX8_centsOf_r3 ++ wsX8_centsOf_r4))) ++ wsX80 ++ wsX10 ++ wsX50 ++ wsX40 ++ wsX00)
def wsX8_billOf_r1 : List Cond := [Cond.constantLong RX8 178 (-9223372036854775808), Cond.fieldLink RX8 19 "FeeRules" "facts" "LFeeRules$Facts;", Cond.constantLong RX8 62 (-1), Cond.fieldLink RX8 58 "FeeRules" "monthCaps" "LFeeRules$Row;", Cond.methodLink RX8 143 yX8_isAskable, Cond.instanceMethod yX8_isAskable, Cond.selects RX8 yX8_isAskable yX8_isAskable, Cond.initialized RX8, Cond.code yX8_isAskable cX8_isAskable 5 (some .boolean), Cond.fieldLink RX8 12 "FeeRules" "houses" "LFeeRules$Houses;", Cond.methodLink RX8 79 yX3_has, Cond.instanceMethod yX3_has, Cond.selects RX3 yX3_has yX3_has, Cond.initialized RX3, Cond.code yX3_has cX3_has 2 (some .boolean), Cond.fieldLink RX3 26 "FeeRules$Houses" "count" "I", Cond.methodLink RX8 123 yX8_isMonth, Cond.static yX8_isMonth, Cond.code yX8_isMonth cX8_isMonth 1 (some .boolean), Cond.methodLink RX8 86 yX8_isDay, Cond.static yX8_isDay, Cond.code yX8_isDay cX8_isDay 2 (some .boolean), Cond.constantLong RX8 191 (3600), Cond.methodLink RX8 148 yX1_count]
def wsX8_billOf_r2 : List Cond := [Cond.instanceMethod yX1_count, Cond.selects RX1 yX1_count yX1_count, Cond.initialized RX1, Cond.code yX1_count cX1_count 1 (some .int), Cond.fieldLink RX1 32 "FeeRules$Facts" "count" "I", Cond.methodLink RX8 151 yX1_isOf, Cond.instanceMethod yX1_isOf, Cond.selects RX1 yX1_isOf yX1_isOf, Cond.code yX1_isOf cX1_isOf 6 (some .boolean), Cond.fieldLink RX1 14 "FeeRules$Facts" "houses" "LFeeRules$Row;", Cond.fieldLink RX1 23 "FeeRules$Facts" "days" "LFeeRules$Row;", Cond.constantLong RX1 44 (30), Cond.fieldLink RX1 29 "FeeRules$Facts" "knownDays" "LFeeRules$Row;", Cond.methodLink RX1 40 yX5_get, Cond.instanceMethod yX5_get, Cond.selects RX5 yX5_get yX5_get, Cond.initialized RX5, Cond.code yX5_get cX5_get 2 (some .long), Cond.fieldLink RX5 7 "FeeRules$Row" "cells" "[J", Cond.methodLink RX8 193 yX8_editionOf, Cond.instanceMethod yX8_editionOf, Cond.selects RX8 yX8_editionOf yX8_editionOf, Cond.code yX8_editionOf cX8_editionOf 4 (some .int), Cond.fieldLink RX8 33 "FeeRules" "editions" "LFeeRules$Editions;"]
def wsX8_billOf_r3 : List Cond := [Cond.methodLink RX8 226 yX8_isRelieved, Cond.instanceMethod yX8_isRelieved, Cond.selects RX8 yX8_isRelieved yX8_isRelieved, Cond.code yX8_isRelieved cX8_isRelieved 2 (some .boolean), Cond.fieldLink RX8 49 "FeeRules" "reliefs" "LFeeRules$Reliefs;", Cond.methodLink RX8 217 yX1_houseOf, Cond.instanceMethod yX1_houseOf, Cond.selects RX1 yX1_houseOf yX1_houseOf, Cond.code yX1_houseOf cX1_houseOf 2 (some .int), Cond.methodLink RX8 207 yX1_kindOf, Cond.instanceMethod yX1_kindOf, Cond.selects RX1 yX1_kindOf yX1_kindOf, Cond.code yX1_kindOf cX1_kindOf 2 (some .int), Cond.fieldLink RX1 20 "FeeRules$Facts" "kinds" "LFeeRules$Row;", Cond.methodLink RX8 220 yX1_dayOf, Cond.instanceMethod yX1_dayOf, Cond.selects RX1 yX1_dayOf yX1_dayOf, Cond.code yX1_dayOf cX1_dayOf 2 (some .long), Cond.methodLink RX8 223 yX4_relieve, Cond.instanceMethod yX4_relieve, Cond.selects RX4 yX4_relieve yX4_relieve, Cond.initialized RX4, Cond.code yX4_relieve cX4_relieve 6 (some .boolean), Cond.fieldLink RX4 29 "FeeRules$Reliefs" "count" "I"]
def wsX8_billOf_r4 : List Cond := [Cond.fieldLink RX4 14 "FeeRules$Reliefs" "houses" "LFeeRules$Row;", Cond.fieldLink RX4 20 "FeeRules$Reliefs" "kinds" "LFeeRules$Row;", Cond.fieldLink RX4 23 "FeeRules$Reliefs" "firstDays" "LFeeRules$Row;", Cond.fieldLink RX4 26 "FeeRules$Reliefs" "lastDays" "LFeeRules$Row;", Cond.methodLink RX4 37 yX5_get, Cond.methodLink RX8 229 yX0_latest, Cond.instanceMethod yX0_latest, Cond.selects RX0 yX0_latest yX0_latest, Cond.initialized RX0, Cond.code yX0_latest cX0_latest 8 (some .int), Cond.fieldLink RX0 47 "FeeRules$Editions" "count" "I", Cond.fieldLink RX0 20 "FeeRules$Editions" "knownDays" "LFeeRules$Row;", Cond.fieldLink RX0 14 "FeeRules$Editions" "fromDays" "LFeeRules$Row;", Cond.methodLink RX0 51 yX5_get, Cond.methodLink RX8 196 yX8_centsOf, Cond.instanceMethod yX8_centsOf, Cond.selects RX8 yX8_centsOf yX8_centsOf, Cond.code yX8_centsOf cX8_centsOf 3 (some .long), Cond.methodLink RX8 210 yX1_measureOf, Cond.instanceMethod yX1_measureOf, Cond.selects RX1 yX1_measureOf yX1_measureOf, Cond.code yX1_measureOf cX1_measureOf 2 (some .long), Cond.fieldLink RX1 26 "FeeRules$Facts" "measures" "LFeeRules$Row;", Cond.methodLink RX8 233 yX0_feeOf]
def wsX8_billOf_r5 : List Cond := [Cond.instanceMethod yX0_feeOf, Cond.selects RX0 yX0_feeOf yX0_feeOf, Cond.code yX0_feeOf cX0_feeOf 12 (some .long), Cond.constantLong RX0 62 (-1), Cond.fieldLink RX0 26 "FeeRules$Editions" "pers" "LFeeRules$Row;", Cond.fieldLink RX0 32 "FeeRules$Editions" "caps" "LFeeRules$Row;", Cond.methodLink RX0 72 yX0_hasRule, Cond.instanceMethod yX0_hasRule, Cond.selects RX0 yX0_hasRule yX0_hasRule, Cond.code yX0_hasRule cX0_hasRule 3 (some .boolean), Cond.methodLink RX0 68 yX0_has, Cond.instanceMethod yX0_has, Cond.selects RX0 yX0_has yX0_has, Cond.code yX0_has cX0_has 2 (some .boolean), Cond.methodLink RX0 58 yX0_cellOf, Cond.static yX0_cellOf, Cond.code yX0_cellOf cX0_cellOf 2 (some .int), Cond.methodLink RX0 76 yX0_priceOf, Cond.instanceMethod yX0_priceOf, Cond.selects RX0 yX0_priceOf yX0_priceOf, Cond.code yX0_priceOf cX0_priceOf 18 (some .long), Cond.fieldLink RX0 29 "FeeRules$Editions" "prices" "LFeeRules$Row;", Cond.fieldLink RX0 35 "FeeRules$Editions" "firstSteps" "LFeeRules$Row;", Cond.fieldLink RX0 38 "FeeRules$Editions" "stepCounts" "LFeeRules$Row;"]
def wsX8_billOf_r6 : List Cond := [Cond.fieldLink RX0 41 "FeeRules$Editions" "stepStarts" "LFeeRules$Row;", Cond.fieldLink RX0 44 "FeeRules$Editions" "stepPrices" "LFeeRules$Row;", Cond.methodLink RX8 198 yX5_get]
def wsX8_billOf : List Cond := .code yX8_billOf cX8_billOf 10 (some .long) :: ((wsX8_billOf_r1 ++ (wsX8_billOf_r2 ++ (wsX8_billOf_r3 ++ (wsX8_billOf_r4 ++ (wsX8_billOf_r5 ++ wsX8_billOf_r6))))) ++ wsX80 ++ wsX30 ++ wsX10 ++ wsX50 ++ wsX40 ++ wsX00)
def wsX8_bill_r1 : List Cond := [Cond.methodLink RX8 139 yX8_billOf, Cond.instanceMethod yX8_billOf, Cond.selects RX8 yX8_billOf yX8_billOf, Cond.initialized RX8, Cond.code yX8_billOf cX8_billOf 10 (some .long), Cond.constantLong RX8 178 (-9223372036854775808), Cond.fieldLink RX8 19 "FeeRules" "facts" "LFeeRules$Facts;", Cond.constantLong RX8 62 (-1), Cond.fieldLink RX8 58 "FeeRules" "monthCaps" "LFeeRules$Row;", Cond.methodLink RX8 143 yX8_isAskable, Cond.instanceMethod yX8_isAskable, Cond.selects RX8 yX8_isAskable yX8_isAskable, Cond.code yX8_isAskable cX8_isAskable 5 (some .boolean), Cond.fieldLink RX8 12 "FeeRules" "houses" "LFeeRules$Houses;", Cond.methodLink RX8 79 yX3_has, Cond.instanceMethod yX3_has, Cond.selects RX3 yX3_has yX3_has, Cond.initialized RX3, Cond.code yX3_has cX3_has 2 (some .boolean), Cond.fieldLink RX3 26 "FeeRules$Houses" "count" "I", Cond.methodLink RX8 123 yX8_isMonth, Cond.static yX8_isMonth, Cond.code yX8_isMonth cX8_isMonth 1 (some .boolean), Cond.methodLink RX8 86 yX8_isDay]
def wsX8_bill_r2 : List Cond := [Cond.static yX8_isDay, Cond.code yX8_isDay cX8_isDay 2 (some .boolean), Cond.constantLong RX8 191 (3600), Cond.methodLink RX8 148 yX1_count, Cond.instanceMethod yX1_count, Cond.selects RX1 yX1_count yX1_count, Cond.initialized RX1, Cond.code yX1_count cX1_count 1 (some .int), Cond.fieldLink RX1 32 "FeeRules$Facts" "count" "I", Cond.methodLink RX8 151 yX1_isOf, Cond.instanceMethod yX1_isOf, Cond.selects RX1 yX1_isOf yX1_isOf, Cond.code yX1_isOf cX1_isOf 6 (some .boolean), Cond.fieldLink RX1 14 "FeeRules$Facts" "houses" "LFeeRules$Row;", Cond.fieldLink RX1 23 "FeeRules$Facts" "days" "LFeeRules$Row;", Cond.constantLong RX1 44 (30), Cond.fieldLink RX1 29 "FeeRules$Facts" "knownDays" "LFeeRules$Row;", Cond.methodLink RX1 40 yX5_get, Cond.instanceMethod yX5_get, Cond.selects RX5 yX5_get yX5_get, Cond.initialized RX5, Cond.code yX5_get cX5_get 2 (some .long), Cond.fieldLink RX5 7 "FeeRules$Row" "cells" "[J", Cond.methodLink RX8 193 yX8_editionOf]
def wsX8_bill_r3 : List Cond := [Cond.instanceMethod yX8_editionOf, Cond.selects RX8 yX8_editionOf yX8_editionOf, Cond.code yX8_editionOf cX8_editionOf 4 (some .int), Cond.fieldLink RX8 33 "FeeRules" "editions" "LFeeRules$Editions;", Cond.methodLink RX8 226 yX8_isRelieved, Cond.instanceMethod yX8_isRelieved, Cond.selects RX8 yX8_isRelieved yX8_isRelieved, Cond.code yX8_isRelieved cX8_isRelieved 2 (some .boolean), Cond.fieldLink RX8 49 "FeeRules" "reliefs" "LFeeRules$Reliefs;", Cond.methodLink RX8 217 yX1_houseOf, Cond.instanceMethod yX1_houseOf, Cond.selects RX1 yX1_houseOf yX1_houseOf, Cond.code yX1_houseOf cX1_houseOf 2 (some .int), Cond.methodLink RX8 207 yX1_kindOf, Cond.instanceMethod yX1_kindOf, Cond.selects RX1 yX1_kindOf yX1_kindOf, Cond.code yX1_kindOf cX1_kindOf 2 (some .int), Cond.fieldLink RX1 20 "FeeRules$Facts" "kinds" "LFeeRules$Row;", Cond.methodLink RX8 220 yX1_dayOf, Cond.instanceMethod yX1_dayOf, Cond.selects RX1 yX1_dayOf yX1_dayOf, Cond.code yX1_dayOf cX1_dayOf 2 (some .long), Cond.methodLink RX8 223 yX4_relieve, Cond.instanceMethod yX4_relieve]
def wsX8_bill_r4 : List Cond := [Cond.selects RX4 yX4_relieve yX4_relieve, Cond.initialized RX4, Cond.code yX4_relieve cX4_relieve 6 (some .boolean), Cond.fieldLink RX4 29 "FeeRules$Reliefs" "count" "I", Cond.fieldLink RX4 14 "FeeRules$Reliefs" "houses" "LFeeRules$Row;", Cond.fieldLink RX4 20 "FeeRules$Reliefs" "kinds" "LFeeRules$Row;", Cond.fieldLink RX4 23 "FeeRules$Reliefs" "firstDays" "LFeeRules$Row;", Cond.fieldLink RX4 26 "FeeRules$Reliefs" "lastDays" "LFeeRules$Row;", Cond.methodLink RX4 37 yX5_get, Cond.methodLink RX8 229 yX0_latest, Cond.instanceMethod yX0_latest, Cond.selects RX0 yX0_latest yX0_latest, Cond.initialized RX0, Cond.code yX0_latest cX0_latest 8 (some .int), Cond.fieldLink RX0 47 "FeeRules$Editions" "count" "I", Cond.fieldLink RX0 20 "FeeRules$Editions" "knownDays" "LFeeRules$Row;", Cond.fieldLink RX0 14 "FeeRules$Editions" "fromDays" "LFeeRules$Row;", Cond.methodLink RX0 51 yX5_get, Cond.methodLink RX8 196 yX8_centsOf, Cond.instanceMethod yX8_centsOf, Cond.selects RX8 yX8_centsOf yX8_centsOf, Cond.code yX8_centsOf cX8_centsOf 3 (some .long), Cond.methodLink RX8 210 yX1_measureOf, Cond.instanceMethod yX1_measureOf]
def wsX8_bill_r5 : List Cond := [Cond.selects RX1 yX1_measureOf yX1_measureOf, Cond.code yX1_measureOf cX1_measureOf 2 (some .long), Cond.fieldLink RX1 26 "FeeRules$Facts" "measures" "LFeeRules$Row;", Cond.methodLink RX8 233 yX0_feeOf, Cond.instanceMethod yX0_feeOf, Cond.selects RX0 yX0_feeOf yX0_feeOf, Cond.code yX0_feeOf cX0_feeOf 12 (some .long), Cond.constantLong RX0 62 (-1), Cond.fieldLink RX0 26 "FeeRules$Editions" "pers" "LFeeRules$Row;", Cond.fieldLink RX0 32 "FeeRules$Editions" "caps" "LFeeRules$Row;", Cond.methodLink RX0 72 yX0_hasRule, Cond.instanceMethod yX0_hasRule, Cond.selects RX0 yX0_hasRule yX0_hasRule, Cond.code yX0_hasRule cX0_hasRule 3 (some .boolean), Cond.methodLink RX0 68 yX0_has, Cond.instanceMethod yX0_has, Cond.selects RX0 yX0_has yX0_has, Cond.code yX0_has cX0_has 2 (some .boolean), Cond.methodLink RX0 58 yX0_cellOf, Cond.static yX0_cellOf, Cond.code yX0_cellOf cX0_cellOf 2 (some .int), Cond.methodLink RX0 76 yX0_priceOf, Cond.instanceMethod yX0_priceOf, Cond.selects RX0 yX0_priceOf yX0_priceOf]
def wsX8_bill_r6 : List Cond := [Cond.code yX0_priceOf cX0_priceOf 18 (some .long), Cond.fieldLink RX0 29 "FeeRules$Editions" "prices" "LFeeRules$Row;", Cond.fieldLink RX0 35 "FeeRules$Editions" "firstSteps" "LFeeRules$Row;", Cond.fieldLink RX0 38 "FeeRules$Editions" "stepCounts" "LFeeRules$Row;", Cond.fieldLink RX0 41 "FeeRules$Editions" "stepStarts" "LFeeRules$Row;", Cond.fieldLink RX0 44 "FeeRules$Editions" "stepPrices" "LFeeRules$Row;", Cond.methodLink RX8 198 yX5_get]
def wsX8_bill : List Cond := .code yX8_bill cX8_bill 5 (some .long) :: ((wsX8_bill_r1 ++ (wsX8_bill_r2 ++ (wsX8_bill_r3 ++ (wsX8_bill_r4 ++ (wsX8_bill_r5 ++ wsX8_bill_r6))))) ++ wsX80 ++ wsX30 ++ wsX10 ++ wsX50 ++ wsX40 ++ wsX00)
def wsX8_lackOf_r1 : List Cond := [Cond.constantLong RX8 62 (-1), Cond.fieldLink RX8 33 "FeeRules" "editions" "LFeeRules$Editions;", Cond.fieldLink RX8 19 "FeeRules" "facts" "LFeeRules$Facts;", Cond.methodLink RX8 207 yX1_kindOf, Cond.instanceMethod yX1_kindOf, Cond.selects RX1 yX1_kindOf yX1_kindOf, Cond.initialized RX1, Cond.code yX1_kindOf cX1_kindOf 2 (some .int), Cond.fieldLink RX1 20 "FeeRules$Facts" "kinds" "LFeeRules$Row;", Cond.methodLink RX1 40 yX5_get, Cond.instanceMethod yX5_get, Cond.selects RX5 yX5_get yX5_get, Cond.initialized RX5, Cond.code yX5_get cX5_get 2 (some .long), Cond.fieldLink RX5 7 "FeeRules$Row" "cells" "[J", Cond.methodLink RX8 236 yX0_hasRule, Cond.instanceMethod yX0_hasRule, Cond.selects RX0 yX0_hasRule yX0_hasRule, Cond.initialized RX0, Cond.code yX0_hasRule cX0_hasRule 3 (some .boolean), Cond.fieldLink RX0 26 "FeeRules$Editions" "pers" "LFeeRules$Row;", Cond.constantLong RX0 62 (-1), Cond.methodLink RX0 68 yX0_has, Cond.instanceMethod yX0_has]
def wsX8_lackOf_r2 : List Cond := [Cond.selects RX0 yX0_has yX0_has, Cond.code yX0_has cX0_has 2 (some .boolean), Cond.fieldLink RX0 47 "FeeRules$Editions" "count" "I", Cond.methodLink RX0 58 yX0_cellOf, Cond.static yX0_cellOf, Cond.code yX0_cellOf cX0_cellOf 2 (some .int), Cond.methodLink RX0 51 yX5_get]
def wsX8_lackOf : List Cond := .code yX8_lackOf cX8_lackOf 5 (some .int) :: ((wsX8_lackOf_r1 ++ wsX8_lackOf_r2) ++ wsX80 ++ wsX10 ++ wsX50 ++ wsX00)
def wsX8_hold_r1 : List Cond := [Cond.fieldLink RX8 71 "FeeRules" "held" "LFeeRules$HeldLines;", Cond.fieldLink RX8 19 "FeeRules" "facts" "LFeeRules$Facts;", Cond.methodLink RX8 193 yX8_editionOf, Cond.instanceMethod yX8_editionOf, Cond.selects RX8 yX8_editionOf yX8_editionOf, Cond.initialized RX8, Cond.code yX8_editionOf cX8_editionOf 4 (some .int), Cond.fieldLink RX8 33 "FeeRules" "editions" "LFeeRules$Editions;", Cond.methodLink RX8 226 yX8_isRelieved, Cond.instanceMethod yX8_isRelieved, Cond.selects RX8 yX8_isRelieved yX8_isRelieved, Cond.code yX8_isRelieved cX8_isRelieved 2 (some .boolean), Cond.fieldLink RX8 49 "FeeRules" "reliefs" "LFeeRules$Reliefs;", Cond.methodLink RX8 217 yX1_houseOf, Cond.instanceMethod yX1_houseOf, Cond.selects RX1 yX1_houseOf yX1_houseOf, Cond.initialized RX1, Cond.code yX1_houseOf cX1_houseOf 2 (some .int), Cond.fieldLink RX1 14 "FeeRules$Facts" "houses" "LFeeRules$Row;", Cond.methodLink RX1 40 yX5_get, Cond.instanceMethod yX5_get, Cond.selects RX5 yX5_get yX5_get, Cond.initialized RX5, Cond.code yX5_get cX5_get 2 (some .long)]
def wsX8_hold_r2 : List Cond := [Cond.fieldLink RX5 7 "FeeRules$Row" "cells" "[J", Cond.methodLink RX8 207 yX1_kindOf, Cond.instanceMethod yX1_kindOf, Cond.selects RX1 yX1_kindOf yX1_kindOf, Cond.code yX1_kindOf cX1_kindOf 2 (some .int), Cond.fieldLink RX1 20 "FeeRules$Facts" "kinds" "LFeeRules$Row;", Cond.methodLink RX8 220 yX1_dayOf, Cond.instanceMethod yX1_dayOf, Cond.selects RX1 yX1_dayOf yX1_dayOf, Cond.code yX1_dayOf cX1_dayOf 2 (some .long), Cond.fieldLink RX1 23 "FeeRules$Facts" "days" "LFeeRules$Row;", Cond.methodLink RX8 223 yX4_relieve, Cond.instanceMethod yX4_relieve, Cond.selects RX4 yX4_relieve yX4_relieve, Cond.initialized RX4, Cond.code yX4_relieve cX4_relieve 6 (some .boolean), Cond.fieldLink RX4 29 "FeeRules$Reliefs" "count" "I", Cond.fieldLink RX4 14 "FeeRules$Reliefs" "houses" "LFeeRules$Row;", Cond.fieldLink RX4 20 "FeeRules$Reliefs" "kinds" "LFeeRules$Row;", Cond.fieldLink RX4 23 "FeeRules$Reliefs" "firstDays" "LFeeRules$Row;", Cond.fieldLink RX4 26 "FeeRules$Reliefs" "lastDays" "LFeeRules$Row;", Cond.methodLink RX4 37 yX5_get, Cond.methodLink RX8 229 yX0_latest, Cond.instanceMethod yX0_latest]
def wsX8_hold_r3 : List Cond := [Cond.selects RX0 yX0_latest yX0_latest, Cond.initialized RX0, Cond.code yX0_latest cX0_latest 8 (some .int), Cond.fieldLink RX0 47 "FeeRules$Editions" "count" "I", Cond.fieldLink RX0 20 "FeeRules$Editions" "knownDays" "LFeeRules$Row;", Cond.fieldLink RX0 14 "FeeRules$Editions" "fromDays" "LFeeRules$Row;", Cond.methodLink RX0 51 yX5_get, Cond.methodLink RX8 196 yX8_centsOf, Cond.instanceMethod yX8_centsOf, Cond.selects RX8 yX8_centsOf yX8_centsOf, Cond.code yX8_centsOf cX8_centsOf 3 (some .long), Cond.methodLink RX8 210 yX1_measureOf, Cond.instanceMethod yX1_measureOf, Cond.selects RX1 yX1_measureOf yX1_measureOf, Cond.code yX1_measureOf cX1_measureOf 2 (some .long), Cond.fieldLink RX1 26 "FeeRules$Facts" "measures" "LFeeRules$Row;", Cond.methodLink RX8 233 yX0_feeOf, Cond.instanceMethod yX0_feeOf, Cond.selects RX0 yX0_feeOf yX0_feeOf, Cond.code yX0_feeOf cX0_feeOf 12 (some .long), Cond.constantLong RX0 62 (-1), Cond.fieldLink RX0 26 "FeeRules$Editions" "pers" "LFeeRules$Row;", Cond.fieldLink RX0 32 "FeeRules$Editions" "caps" "LFeeRules$Row;", Cond.methodLink RX0 72 yX0_hasRule]
def wsX8_hold_r4 : List Cond := [Cond.instanceMethod yX0_hasRule, Cond.selects RX0 yX0_hasRule yX0_hasRule, Cond.code yX0_hasRule cX0_hasRule 3 (some .boolean), Cond.methodLink RX0 68 yX0_has, Cond.instanceMethod yX0_has, Cond.selects RX0 yX0_has yX0_has, Cond.code yX0_has cX0_has 2 (some .boolean), Cond.methodLink RX0 58 yX0_cellOf, Cond.static yX0_cellOf, Cond.code yX0_cellOf cX0_cellOf 2 (some .int), Cond.methodLink RX0 76 yX0_priceOf, Cond.instanceMethod yX0_priceOf, Cond.selects RX0 yX0_priceOf yX0_priceOf, Cond.code yX0_priceOf cX0_priceOf 18 (some .long), Cond.fieldLink RX0 29 "FeeRules$Editions" "prices" "LFeeRules$Row;", Cond.fieldLink RX0 35 "FeeRules$Editions" "firstSteps" "LFeeRules$Row;", Cond.fieldLink RX0 38 "FeeRules$Editions" "stepCounts" "LFeeRules$Row;", Cond.fieldLink RX0 41 "FeeRules$Editions" "stepStarts" "LFeeRules$Row;", Cond.fieldLink RX0 44 "FeeRules$Editions" "stepPrices" "LFeeRules$Row;", Cond.methodLink RX8 201 yX8_lackOf, Cond.instanceMethod yX8_lackOf, Cond.selects RX8 yX8_lackOf yX8_lackOf, Cond.code yX8_lackOf cX8_lackOf 5 (some .int), Cond.constantLong RX8 62 (-1)]
def wsX8_hold_r5 : List Cond := [Cond.methodLink RX8 236 yX0_hasRule, Cond.methodLink RX8 204 yX2_add, Cond.instanceMethod yX2_add, Cond.selects RX2 yX2_add yX2_add, Cond.initialized RX2, Cond.code yX2_add cX2_add 6 none, Cond.fieldLink RX2 14 "FeeRules$HeldLines" "facts" "LFeeRules$Row;", Cond.fieldLink RX2 32 "FeeRules$HeldLines" "count" "I", Cond.fieldLink RX2 20 "FeeRules$HeldLines" "cents" "LFeeRules$Row;", Cond.fieldLink RX2 23 "FeeRules$HeldLines" "editions" "LFeeRules$Row;", Cond.fieldLink RX2 26 "FeeRules$HeldLines" "lacks" "LFeeRules$Row;", Cond.methodLink RX2 39 yX5_set, Cond.instanceMethod yX5_set, Cond.selects RX5 yX5_set yX5_set, Cond.code yX5_set cX5_set 4 none, Cond.methodLink RX8 213 yX2_print, Cond.instanceMethod yX2_print, Cond.selects RX2 yX2_print yX2_print, Cond.code yX2_print cX2_print 6 none, Cond.constantLong RX2 54 (-1), Cond.methodLink RX2 47 yX2_printNumber, Cond.instanceMethod yX2_printNumber, Cond.selects RX2 yX2_printNumber yX2_printNumber, Cond.code yX2_printNumber cX2_printNumber 6 none]
def wsX8_hold_r6 : List Cond := [Cond.constantLong RX2 56 (10), Cond.methodLink RX2 51 yX2_printSign, Cond.instanceMethod yX2_printSign, Cond.selects RX2 yX2_printSign yX2_printSign, Cond.code yX2_printSign cX2_printSign 2 none, Cond.fieldLink RX2 29 "FeeRules$HeldLines" "printed" "LFeeRules$Row;", Cond.fieldLink RX2 36 "FeeRules$HeldLines" "printedCount" "I"]
def wsX8_hold : List Cond := .code yX8_hold cX8_hold 7 none :: ((wsX8_hold_r1 ++ (wsX8_hold_r2 ++ (wsX8_hold_r3 ++ (wsX8_hold_r4 ++ (wsX8_hold_r5 ++ wsX8_hold_r6))))) ++ wsX80 ++ wsX10 ++ wsX50 ++ wsX40 ++ wsX00 ++ wsX20)
def wsX8_walk_r1 : List Cond := [Cond.fieldLink RX8 71 "FeeRules" "held" "LFeeRules$HeldLines;", Cond.fieldLink RX8 19 "FeeRules" "facts" "LFeeRules$Facts;", Cond.methodLink RX8 143 yX8_isAskable, Cond.instanceMethod yX8_isAskable, Cond.selects RX8 yX8_isAskable yX8_isAskable, Cond.initialized RX8, Cond.code yX8_isAskable cX8_isAskable 5 (some .boolean), Cond.fieldLink RX8 12 "FeeRules" "houses" "LFeeRules$Houses;", Cond.methodLink RX8 79 yX3_has, Cond.instanceMethod yX3_has, Cond.selects RX3 yX3_has yX3_has, Cond.initialized RX3, Cond.code yX3_has cX3_has 2 (some .boolean), Cond.fieldLink RX3 26 "FeeRules$Houses" "count" "I", Cond.methodLink RX8 123 yX8_isMonth, Cond.static yX8_isMonth, Cond.code yX8_isMonth cX8_isMonth 1 (some .boolean), Cond.methodLink RX8 86 yX8_isDay, Cond.static yX8_isDay, Cond.code yX8_isDay cX8_isDay 2 (some .boolean), Cond.constantLong RX8 191 (3600), Cond.methodLink RX8 147 yX2_clear, Cond.instanceMethod yX2_clear, Cond.selects RX2 yX2_clear yX2_clear]
def wsX8_walk_r2 : List Cond := [Cond.initialized RX2, Cond.code yX2_clear cX2_clear 1 none, Cond.fieldLink RX2 32 "FeeRules$HeldLines" "count" "I", Cond.fieldLink RX2 36 "FeeRules$HeldLines" "printedCount" "I", Cond.methodLink RX8 148 yX1_count, Cond.instanceMethod yX1_count, Cond.selects RX1 yX1_count yX1_count, Cond.initialized RX1, Cond.code yX1_count cX1_count 1 (some .int), Cond.fieldLink RX1 32 "FeeRules$Facts" "count" "I", Cond.methodLink RX8 151 yX1_isOf, Cond.instanceMethod yX1_isOf, Cond.selects RX1 yX1_isOf yX1_isOf, Cond.code yX1_isOf cX1_isOf 6 (some .boolean), Cond.fieldLink RX1 14 "FeeRules$Facts" "houses" "LFeeRules$Row;", Cond.fieldLink RX1 23 "FeeRules$Facts" "days" "LFeeRules$Row;", Cond.constantLong RX1 44 (30), Cond.fieldLink RX1 29 "FeeRules$Facts" "knownDays" "LFeeRules$Row;", Cond.methodLink RX1 40 yX5_get, Cond.instanceMethod yX5_get, Cond.selects RX5 yX5_get yX5_get, Cond.initialized RX5, Cond.code yX5_get cX5_get 2 (some .long), Cond.fieldLink RX5 7 "FeeRules$Row" "cells" "[J"]
def wsX8_walk_r3 : List Cond := [Cond.methodLink RX8 155 yX8_hold, Cond.instanceMethod yX8_hold, Cond.selects RX8 yX8_hold yX8_hold, Cond.code yX8_hold cX8_hold 7 none, Cond.methodLink RX8 193 yX8_editionOf, Cond.instanceMethod yX8_editionOf, Cond.selects RX8 yX8_editionOf yX8_editionOf, Cond.code yX8_editionOf cX8_editionOf 4 (some .int), Cond.fieldLink RX8 33 "FeeRules" "editions" "LFeeRules$Editions;", Cond.methodLink RX8 226 yX8_isRelieved, Cond.instanceMethod yX8_isRelieved, Cond.selects RX8 yX8_isRelieved yX8_isRelieved, Cond.code yX8_isRelieved cX8_isRelieved 2 (some .boolean), Cond.fieldLink RX8 49 "FeeRules" "reliefs" "LFeeRules$Reliefs;", Cond.methodLink RX8 217 yX1_houseOf, Cond.instanceMethod yX1_houseOf, Cond.selects RX1 yX1_houseOf yX1_houseOf, Cond.code yX1_houseOf cX1_houseOf 2 (some .int), Cond.methodLink RX8 207 yX1_kindOf, Cond.instanceMethod yX1_kindOf, Cond.selects RX1 yX1_kindOf yX1_kindOf, Cond.code yX1_kindOf cX1_kindOf 2 (some .int), Cond.fieldLink RX1 20 "FeeRules$Facts" "kinds" "LFeeRules$Row;", Cond.methodLink RX8 220 yX1_dayOf]
def wsX8_walk_r4 : List Cond := [Cond.instanceMethod yX1_dayOf, Cond.selects RX1 yX1_dayOf yX1_dayOf, Cond.code yX1_dayOf cX1_dayOf 2 (some .long), Cond.methodLink RX8 223 yX4_relieve, Cond.instanceMethod yX4_relieve, Cond.selects RX4 yX4_relieve yX4_relieve, Cond.initialized RX4, Cond.code yX4_relieve cX4_relieve 6 (some .boolean), Cond.fieldLink RX4 29 "FeeRules$Reliefs" "count" "I", Cond.fieldLink RX4 14 "FeeRules$Reliefs" "houses" "LFeeRules$Row;", Cond.fieldLink RX4 20 "FeeRules$Reliefs" "kinds" "LFeeRules$Row;", Cond.fieldLink RX4 23 "FeeRules$Reliefs" "firstDays" "LFeeRules$Row;", Cond.fieldLink RX4 26 "FeeRules$Reliefs" "lastDays" "LFeeRules$Row;", Cond.methodLink RX4 37 yX5_get, Cond.methodLink RX8 229 yX0_latest, Cond.instanceMethod yX0_latest, Cond.selects RX0 yX0_latest yX0_latest, Cond.initialized RX0, Cond.code yX0_latest cX0_latest 8 (some .int), Cond.fieldLink RX0 47 "FeeRules$Editions" "count" "I", Cond.fieldLink RX0 20 "FeeRules$Editions" "knownDays" "LFeeRules$Row;", Cond.fieldLink RX0 14 "FeeRules$Editions" "fromDays" "LFeeRules$Row;", Cond.methodLink RX0 51 yX5_get, Cond.methodLink RX8 196 yX8_centsOf]
def wsX8_walk_r5 : List Cond := [Cond.instanceMethod yX8_centsOf, Cond.selects RX8 yX8_centsOf yX8_centsOf, Cond.code yX8_centsOf cX8_centsOf 3 (some .long), Cond.methodLink RX8 210 yX1_measureOf, Cond.instanceMethod yX1_measureOf, Cond.selects RX1 yX1_measureOf yX1_measureOf, Cond.code yX1_measureOf cX1_measureOf 2 (some .long), Cond.fieldLink RX1 26 "FeeRules$Facts" "measures" "LFeeRules$Row;", Cond.methodLink RX8 233 yX0_feeOf, Cond.instanceMethod yX0_feeOf, Cond.selects RX0 yX0_feeOf yX0_feeOf, Cond.code yX0_feeOf cX0_feeOf 12 (some .long), Cond.constantLong RX0 62 (-1), Cond.fieldLink RX0 26 "FeeRules$Editions" "pers" "LFeeRules$Row;", Cond.fieldLink RX0 32 "FeeRules$Editions" "caps" "LFeeRules$Row;", Cond.methodLink RX0 72 yX0_hasRule, Cond.instanceMethod yX0_hasRule, Cond.selects RX0 yX0_hasRule yX0_hasRule, Cond.code yX0_hasRule cX0_hasRule 3 (some .boolean), Cond.methodLink RX0 68 yX0_has, Cond.instanceMethod yX0_has, Cond.selects RX0 yX0_has yX0_has, Cond.code yX0_has cX0_has 2 (some .boolean), Cond.methodLink RX0 58 yX0_cellOf]
def wsX8_walk_r6 : List Cond := [Cond.static yX0_cellOf, Cond.code yX0_cellOf cX0_cellOf 2 (some .int), Cond.methodLink RX0 76 yX0_priceOf, Cond.instanceMethod yX0_priceOf, Cond.selects RX0 yX0_priceOf yX0_priceOf, Cond.code yX0_priceOf cX0_priceOf 18 (some .long), Cond.fieldLink RX0 29 "FeeRules$Editions" "prices" "LFeeRules$Row;", Cond.fieldLink RX0 35 "FeeRules$Editions" "firstSteps" "LFeeRules$Row;", Cond.fieldLink RX0 38 "FeeRules$Editions" "stepCounts" "LFeeRules$Row;", Cond.fieldLink RX0 41 "FeeRules$Editions" "stepStarts" "LFeeRules$Row;", Cond.fieldLink RX0 44 "FeeRules$Editions" "stepPrices" "LFeeRules$Row;", Cond.methodLink RX8 201 yX8_lackOf, Cond.instanceMethod yX8_lackOf, Cond.selects RX8 yX8_lackOf yX8_lackOf, Cond.code yX8_lackOf cX8_lackOf 5 (some .int), Cond.constantLong RX8 62 (-1), Cond.methodLink RX8 236 yX0_hasRule, Cond.methodLink RX8 204 yX2_add, Cond.instanceMethod yX2_add, Cond.selects RX2 yX2_add yX2_add, Cond.code yX2_add cX2_add 6 none, Cond.fieldLink RX2 14 "FeeRules$HeldLines" "facts" "LFeeRules$Row;", Cond.fieldLink RX2 20 "FeeRules$HeldLines" "cents" "LFeeRules$Row;", Cond.fieldLink RX2 23 "FeeRules$HeldLines" "editions" "LFeeRules$Row;"]
def wsX8_walk_r7 : List Cond := [Cond.fieldLink RX2 26 "FeeRules$HeldLines" "lacks" "LFeeRules$Row;", Cond.methodLink RX2 39 yX5_set, Cond.instanceMethod yX5_set, Cond.selects RX5 yX5_set yX5_set, Cond.code yX5_set cX5_set 4 none, Cond.methodLink RX8 213 yX2_print, Cond.instanceMethod yX2_print, Cond.selects RX2 yX2_print yX2_print, Cond.code yX2_print cX2_print 6 none, Cond.constantLong RX2 54 (-1), Cond.methodLink RX2 47 yX2_printNumber, Cond.instanceMethod yX2_printNumber, Cond.selects RX2 yX2_printNumber yX2_printNumber, Cond.code yX2_printNumber cX2_printNumber 6 none, Cond.constantLong RX2 56 (10), Cond.methodLink RX2 51 yX2_printSign, Cond.instanceMethod yX2_printSign, Cond.selects RX2 yX2_printSign yX2_printSign, Cond.code yX2_printSign cX2_printSign 2 none, Cond.fieldLink RX2 29 "FeeRules$HeldLines" "printed" "LFeeRules$Row;", Cond.methodLink RX8 158 yX2_count, Cond.instanceMethod yX2_count, Cond.selects RX2 yX2_count yX2_count, Cond.code yX2_count cX2_count 1 (some .int)]
def wsX8_walk : List Cond := .code yX8_walk cX8_walk 6 (some .int) :: ((wsX8_walk_r1 ++ (wsX8_walk_r2 ++ (wsX8_walk_r3 ++ (wsX8_walk_r4 ++ (wsX8_walk_r5 ++ (wsX8_walk_r6 ++ wsX8_walk_r7)))))) ++ wsX80 ++ wsX30 ++ wsX20 ++ wsX10 ++ wsX50 ++ wsX40 ++ wsX00)
def wsX8_line_r1 : List Cond := [Cond.fieldLink RX8 71 "FeeRules" "held" "LFeeRules$HeldLines;", Cond.constantLong RX8 62 (-1), Cond.methodLink RX8 159 yX2_has, Cond.instanceMethod yX2_has, Cond.selects RX2 yX2_has yX2_has, Cond.initialized RX2, Cond.code yX2_has cX2_has 2 (some .boolean), Cond.fieldLink RX2 32 "FeeRules$HeldLines" "count" "I", Cond.methodLink RX8 160 yX2_factOf, Cond.instanceMethod yX2_factOf, Cond.selects RX2 yX2_factOf yX2_factOf, Cond.code yX2_factOf cX2_factOf 2 (some .long), Cond.fieldLink RX2 14 "FeeRules$HeldLines" "facts" "LFeeRules$Row;", Cond.methodLink RX2 43 yX5_get, Cond.instanceMethod yX5_get, Cond.selects RX5 yX5_get yX5_get, Cond.initialized RX5, Cond.code yX5_get cX5_get 2 (some .long), Cond.fieldLink RX5 7 "FeeRules$Row" "cells" "[J", Cond.methodLink RX8 163 yX2_centsOf, Cond.instanceMethod yX2_centsOf, Cond.selects RX2 yX2_centsOf yX2_centsOf, Cond.code yX2_centsOf cX2_centsOf 2 (some .long), Cond.fieldLink RX2 20 "FeeRules$HeldLines" "cents" "LFeeRules$Row;"]
def wsX8_line_r2 : List Cond := [Cond.methodLink RX8 166 yX2_editionOf, Cond.instanceMethod yX2_editionOf, Cond.selects RX2 yX2_editionOf yX2_editionOf, Cond.code yX2_editionOf cX2_editionOf 2 (some .long), Cond.fieldLink RX2 23 "FeeRules$HeldLines" "editions" "LFeeRules$Row;", Cond.methodLink RX8 169 yX2_lackOf, Cond.instanceMethod yX2_lackOf, Cond.selects RX2 yX2_lackOf yX2_lackOf, Cond.code yX2_lackOf cX2_lackOf 2 (some .long), Cond.fieldLink RX2 26 "FeeRules$HeldLines" "lacks" "LFeeRules$Row;"]
def wsX8_line : List Cond := .code yX8_line cX8_line 3 (some .long) :: ((wsX8_line_r1 ++ wsX8_line_r2) ++ wsX80 ++ wsX20 ++ wsX50)
def wsX8_open : List Cond := .code yX8_open cX8_open 2 (some .int) :: ([.fieldLink RX8 71 "FeeRules" "held" "LFeeRules$HeldLines;", .methodLink RX8 172 yX2_openFact, .instanceMethod yX2_openFact, .selects RX2 yX2_openFact yX2_openFact, .initialized RX2, .code yX2_openFact cX2_openFact 4 (some .int), .fieldLink RX2 32 "FeeRules$HeldLines" "count" "I", .fieldLink RX2 26 "FeeRules$HeldLines" "lacks" "LFeeRules$Row;", .fieldLink RX2 14 "FeeRules$HeldLines" "facts" "LFeeRules$Row;", .methodLink RX2 43 yX5_get, .instanceMethod yX5_get, .selects RX5 yX5_get yX5_get, .initialized RX5, .code yX5_get cX5_get 2 (some .long), .fieldLink RX5 7 "FeeRules$Row" "cells" "[J"] ++ wsX80 ++ wsX20 ++ wsX50)
def wsX8_write : List Cond := .code yX8_write cX8_write 2 (some .int) :: ([.fieldLink RX8 71 "FeeRules" "held" "LFeeRules$HeldLines;", .methodLink RX8 175 yX2_printedByte, .instanceMethod yX2_printedByte, .selects RX2 yX2_printedByte yX2_printedByte, .initialized RX2, .code yX2_printedByte cX2_printedByte 2 (some .int), .fieldLink RX2 36 "FeeRules$HeldLines" "printedCount" "I", .fieldLink RX2 29 "FeeRules$HeldLines" "printed" "LFeeRules$Row;", .methodLink RX2 43 yX5_get, .instanceMethod yX5_get, .selects RX5 yX5_get yX5_get, .initialized RX5, .code yX5_get cX5_get 2 (some .long), .fieldLink RX5 7 "FeeRules$Row" "cells" "[J"] ++ wsX80 ++ wsX20 ++ wsX50)
def wsX8_flat_r1 : List Cond := [Cond.fieldLink RX8 12 "FeeRules" "houses" "LFeeRules$Houses;", Cond.constantLong RX8 178 (-9223372036854775808), Cond.methodLink RX8 131 yX3_hasFlat, Cond.instanceMethod yX3_hasFlat, Cond.selects RX3 yX3_hasFlat yX3_hasFlat, Cond.initialized RX3, Cond.code yX3_hasFlat cX3_hasFlat 3 (some .boolean), Cond.fieldLink RX3 14 "FeeRules$Houses" "flats" "LFeeRules$Row;", Cond.methodLink RX3 38 yX3_has, Cond.instanceMethod yX3_has, Cond.selects RX3 yX3_has yX3_has, Cond.code yX3_has cX3_has 2 (some .boolean), Cond.fieldLink RX3 26 "FeeRules$Houses" "count" "I", Cond.methodLink RX3 42 yX5_get, Cond.instanceMethod yX5_get, Cond.selects RX5 yX5_get yX5_get, Cond.initialized RX5, Cond.code yX5_get cX5_get 2 (some .long), Cond.fieldLink RX5 7 "FeeRules$Row" "cells" "[J", Cond.methodLink RX8 139 yX8_billOf, Cond.instanceMethod yX8_billOf, Cond.selects RX8 yX8_billOf yX8_billOf, Cond.initialized RX8, Cond.code yX8_billOf cX8_billOf 10 (some .long)]
def wsX8_flat_r2 : List Cond := [Cond.fieldLink RX8 19 "FeeRules" "facts" "LFeeRules$Facts;", Cond.constantLong RX8 62 (-1), Cond.fieldLink RX8 58 "FeeRules" "monthCaps" "LFeeRules$Row;", Cond.methodLink RX8 143 yX8_isAskable, Cond.instanceMethod yX8_isAskable, Cond.selects RX8 yX8_isAskable yX8_isAskable, Cond.code yX8_isAskable cX8_isAskable 5 (some .boolean), Cond.methodLink RX8 79 yX3_has, Cond.methodLink RX8 123 yX8_isMonth, Cond.static yX8_isMonth, Cond.code yX8_isMonth cX8_isMonth 1 (some .boolean), Cond.methodLink RX8 86 yX8_isDay, Cond.static yX8_isDay, Cond.code yX8_isDay cX8_isDay 2 (some .boolean), Cond.constantLong RX8 191 (3600), Cond.methodLink RX8 148 yX1_count, Cond.instanceMethod yX1_count, Cond.selects RX1 yX1_count yX1_count, Cond.initialized RX1, Cond.code yX1_count cX1_count 1 (some .int), Cond.fieldLink RX1 32 "FeeRules$Facts" "count" "I", Cond.methodLink RX8 151 yX1_isOf, Cond.instanceMethod yX1_isOf, Cond.selects RX1 yX1_isOf yX1_isOf]
def wsX8_flat_r3 : List Cond := [Cond.code yX1_isOf cX1_isOf 6 (some .boolean), Cond.fieldLink RX1 14 "FeeRules$Facts" "houses" "LFeeRules$Row;", Cond.fieldLink RX1 23 "FeeRules$Facts" "days" "LFeeRules$Row;", Cond.constantLong RX1 44 (30), Cond.fieldLink RX1 29 "FeeRules$Facts" "knownDays" "LFeeRules$Row;", Cond.methodLink RX1 40 yX5_get, Cond.methodLink RX8 193 yX8_editionOf, Cond.instanceMethod yX8_editionOf, Cond.selects RX8 yX8_editionOf yX8_editionOf, Cond.code yX8_editionOf cX8_editionOf 4 (some .int), Cond.fieldLink RX8 33 "FeeRules" "editions" "LFeeRules$Editions;", Cond.methodLink RX8 226 yX8_isRelieved, Cond.instanceMethod yX8_isRelieved, Cond.selects RX8 yX8_isRelieved yX8_isRelieved, Cond.code yX8_isRelieved cX8_isRelieved 2 (some .boolean), Cond.fieldLink RX8 49 "FeeRules" "reliefs" "LFeeRules$Reliefs;", Cond.methodLink RX8 217 yX1_houseOf, Cond.instanceMethod yX1_houseOf, Cond.selects RX1 yX1_houseOf yX1_houseOf, Cond.code yX1_houseOf cX1_houseOf 2 (some .int), Cond.methodLink RX8 207 yX1_kindOf, Cond.instanceMethod yX1_kindOf, Cond.selects RX1 yX1_kindOf yX1_kindOf, Cond.code yX1_kindOf cX1_kindOf 2 (some .int)]
def wsX8_flat_r4 : List Cond := [Cond.fieldLink RX1 20 "FeeRules$Facts" "kinds" "LFeeRules$Row;", Cond.methodLink RX8 220 yX1_dayOf, Cond.instanceMethod yX1_dayOf, Cond.selects RX1 yX1_dayOf yX1_dayOf, Cond.code yX1_dayOf cX1_dayOf 2 (some .long), Cond.methodLink RX8 223 yX4_relieve, Cond.instanceMethod yX4_relieve, Cond.selects RX4 yX4_relieve yX4_relieve, Cond.initialized RX4, Cond.code yX4_relieve cX4_relieve 6 (some .boolean), Cond.fieldLink RX4 29 "FeeRules$Reliefs" "count" "I", Cond.fieldLink RX4 14 "FeeRules$Reliefs" "houses" "LFeeRules$Row;", Cond.fieldLink RX4 20 "FeeRules$Reliefs" "kinds" "LFeeRules$Row;", Cond.fieldLink RX4 23 "FeeRules$Reliefs" "firstDays" "LFeeRules$Row;", Cond.fieldLink RX4 26 "FeeRules$Reliefs" "lastDays" "LFeeRules$Row;", Cond.methodLink RX4 37 yX5_get, Cond.methodLink RX8 229 yX0_latest, Cond.instanceMethod yX0_latest, Cond.selects RX0 yX0_latest yX0_latest, Cond.initialized RX0, Cond.code yX0_latest cX0_latest 8 (some .int), Cond.fieldLink RX0 47 "FeeRules$Editions" "count" "I", Cond.fieldLink RX0 20 "FeeRules$Editions" "knownDays" "LFeeRules$Row;", Cond.fieldLink RX0 14 "FeeRules$Editions" "fromDays" "LFeeRules$Row;"]
def wsX8_flat_r5 : List Cond := [Cond.methodLink RX0 51 yX5_get, Cond.methodLink RX8 196 yX8_centsOf, Cond.instanceMethod yX8_centsOf, Cond.selects RX8 yX8_centsOf yX8_centsOf, Cond.code yX8_centsOf cX8_centsOf 3 (some .long), Cond.methodLink RX8 210 yX1_measureOf, Cond.instanceMethod yX1_measureOf, Cond.selects RX1 yX1_measureOf yX1_measureOf, Cond.code yX1_measureOf cX1_measureOf 2 (some .long), Cond.fieldLink RX1 26 "FeeRules$Facts" "measures" "LFeeRules$Row;", Cond.methodLink RX8 233 yX0_feeOf, Cond.instanceMethod yX0_feeOf, Cond.selects RX0 yX0_feeOf yX0_feeOf, Cond.code yX0_feeOf cX0_feeOf 12 (some .long), Cond.constantLong RX0 62 (-1), Cond.fieldLink RX0 26 "FeeRules$Editions" "pers" "LFeeRules$Row;", Cond.fieldLink RX0 32 "FeeRules$Editions" "caps" "LFeeRules$Row;", Cond.methodLink RX0 72 yX0_hasRule, Cond.instanceMethod yX0_hasRule, Cond.selects RX0 yX0_hasRule yX0_hasRule, Cond.code yX0_hasRule cX0_hasRule 3 (some .boolean), Cond.methodLink RX0 68 yX0_has, Cond.instanceMethod yX0_has, Cond.selects RX0 yX0_has yX0_has]
def wsX8_flat_r6 : List Cond := [Cond.code yX0_has cX0_has 2 (some .boolean), Cond.methodLink RX0 58 yX0_cellOf, Cond.static yX0_cellOf, Cond.code yX0_cellOf cX0_cellOf 2 (some .int), Cond.methodLink RX0 76 yX0_priceOf, Cond.instanceMethod yX0_priceOf, Cond.selects RX0 yX0_priceOf yX0_priceOf, Cond.code yX0_priceOf cX0_priceOf 18 (some .long), Cond.fieldLink RX0 29 "FeeRules$Editions" "prices" "LFeeRules$Row;", Cond.fieldLink RX0 35 "FeeRules$Editions" "firstSteps" "LFeeRules$Row;", Cond.fieldLink RX0 38 "FeeRules$Editions" "stepCounts" "LFeeRules$Row;", Cond.fieldLink RX0 41 "FeeRules$Editions" "stepStarts" "LFeeRules$Row;", Cond.fieldLink RX0 44 "FeeRules$Editions" "stepPrices" "LFeeRules$Row;", Cond.methodLink RX8 198 yX5_get, Cond.methodLink RX8 180 yX3_shareOf, Cond.instanceMethod yX3_shareOf, Cond.selects RX3 yX3_shareOf yX3_shareOf, Cond.code yX3_shareOf cX3_shareOf 15 (some .long), Cond.constantLong RX3 54 (-9223372036854775808), Cond.methodLink RX3 46 yX3_hasFlat, Cond.methodLink RX3 50 yX3_weightOf, Cond.instanceMethod yX3_weightOf, Cond.selects RX3 yX3_weightOf yX3_weightOf, Cond.code yX3_weightOf cX3_weightOf 3 (some .long)]
def wsX8_flat_r7 : List Cond := [Cond.fieldLink RX3 20 "FeeRules$Houses" "weights" "LFeeRules$Row;"]
def wsX8_flat : List Cond := .code yX8_flat cX8_flat 8 (some .long) :: ((wsX8_flat_r1 ++ (wsX8_flat_r2 ++ (wsX8_flat_r3 ++ (wsX8_flat_r4 ++ (wsX8_flat_r5 ++ (wsX8_flat_r6 ++ wsX8_flat_r7)))))) ++ wsX80 ++ wsX30 ++ wsX50 ++ wsX10 ++ wsX40 ++ wsX00)
def wsX8_issue_r1 : List Cond := [Cond.constantLong RX8 178 (-9223372036854775808), Cond.fieldLink RX8 12 "FeeRules" "houses" "LFeeRules$Houses;", Cond.methodLink RX8 139 yX8_billOf, Cond.instanceMethod yX8_billOf, Cond.selects RX8 yX8_billOf yX8_billOf, Cond.initialized RX8, Cond.code yX8_billOf cX8_billOf 10 (some .long), Cond.fieldLink RX8 19 "FeeRules" "facts" "LFeeRules$Facts;", Cond.constantLong RX8 62 (-1), Cond.fieldLink RX8 58 "FeeRules" "monthCaps" "LFeeRules$Row;", Cond.methodLink RX8 143 yX8_isAskable, Cond.instanceMethod yX8_isAskable, Cond.selects RX8 yX8_isAskable yX8_isAskable, Cond.code yX8_isAskable cX8_isAskable 5 (some .boolean), Cond.methodLink RX8 79 yX3_has, Cond.instanceMethod yX3_has, Cond.selects RX3 yX3_has yX3_has, Cond.initialized RX3, Cond.code yX3_has cX3_has 2 (some .boolean), Cond.fieldLink RX3 26 "FeeRules$Houses" "count" "I", Cond.methodLink RX8 123 yX8_isMonth, Cond.static yX8_isMonth, Cond.code yX8_isMonth cX8_isMonth 1 (some .boolean), Cond.methodLink RX8 86 yX8_isDay]
def wsX8_issue_r2 : List Cond := [Cond.static yX8_isDay, Cond.code yX8_isDay cX8_isDay 2 (some .boolean), Cond.constantLong RX8 191 (3600), Cond.methodLink RX8 148 yX1_count, Cond.instanceMethod yX1_count, Cond.selects RX1 yX1_count yX1_count, Cond.initialized RX1, Cond.code yX1_count cX1_count 1 (some .int), Cond.fieldLink RX1 32 "FeeRules$Facts" "count" "I", Cond.methodLink RX8 151 yX1_isOf, Cond.instanceMethod yX1_isOf, Cond.selects RX1 yX1_isOf yX1_isOf, Cond.code yX1_isOf cX1_isOf 6 (some .boolean), Cond.fieldLink RX1 14 "FeeRules$Facts" "houses" "LFeeRules$Row;", Cond.fieldLink RX1 23 "FeeRules$Facts" "days" "LFeeRules$Row;", Cond.constantLong RX1 44 (30), Cond.fieldLink RX1 29 "FeeRules$Facts" "knownDays" "LFeeRules$Row;", Cond.methodLink RX1 40 yX5_get, Cond.instanceMethod yX5_get, Cond.selects RX5 yX5_get yX5_get, Cond.initialized RX5, Cond.code yX5_get cX5_get 2 (some .long), Cond.fieldLink RX5 7 "FeeRules$Row" "cells" "[J", Cond.methodLink RX8 193 yX8_editionOf]
def wsX8_issue_r3 : List Cond := [Cond.instanceMethod yX8_editionOf, Cond.selects RX8 yX8_editionOf yX8_editionOf, Cond.code yX8_editionOf cX8_editionOf 4 (some .int), Cond.fieldLink RX8 33 "FeeRules" "editions" "LFeeRules$Editions;", Cond.methodLink RX8 226 yX8_isRelieved, Cond.instanceMethod yX8_isRelieved, Cond.selects RX8 yX8_isRelieved yX8_isRelieved, Cond.code yX8_isRelieved cX8_isRelieved 2 (some .boolean), Cond.fieldLink RX8 49 "FeeRules" "reliefs" "LFeeRules$Reliefs;", Cond.methodLink RX8 217 yX1_houseOf, Cond.instanceMethod yX1_houseOf, Cond.selects RX1 yX1_houseOf yX1_houseOf, Cond.code yX1_houseOf cX1_houseOf 2 (some .int), Cond.methodLink RX8 207 yX1_kindOf, Cond.instanceMethod yX1_kindOf, Cond.selects RX1 yX1_kindOf yX1_kindOf, Cond.code yX1_kindOf cX1_kindOf 2 (some .int), Cond.fieldLink RX1 20 "FeeRules$Facts" "kinds" "LFeeRules$Row;", Cond.methodLink RX8 220 yX1_dayOf, Cond.instanceMethod yX1_dayOf, Cond.selects RX1 yX1_dayOf yX1_dayOf, Cond.code yX1_dayOf cX1_dayOf 2 (some .long), Cond.methodLink RX8 223 yX4_relieve, Cond.instanceMethod yX4_relieve]
def wsX8_issue_r4 : List Cond := [Cond.selects RX4 yX4_relieve yX4_relieve, Cond.initialized RX4, Cond.code yX4_relieve cX4_relieve 6 (some .boolean), Cond.fieldLink RX4 29 "FeeRules$Reliefs" "count" "I", Cond.fieldLink RX4 14 "FeeRules$Reliefs" "houses" "LFeeRules$Row;", Cond.fieldLink RX4 20 "FeeRules$Reliefs" "kinds" "LFeeRules$Row;", Cond.fieldLink RX4 23 "FeeRules$Reliefs" "firstDays" "LFeeRules$Row;", Cond.fieldLink RX4 26 "FeeRules$Reliefs" "lastDays" "LFeeRules$Row;", Cond.methodLink RX4 37 yX5_get, Cond.methodLink RX8 229 yX0_latest, Cond.instanceMethod yX0_latest, Cond.selects RX0 yX0_latest yX0_latest, Cond.initialized RX0, Cond.code yX0_latest cX0_latest 8 (some .int), Cond.fieldLink RX0 47 "FeeRules$Editions" "count" "I", Cond.fieldLink RX0 20 "FeeRules$Editions" "knownDays" "LFeeRules$Row;", Cond.fieldLink RX0 14 "FeeRules$Editions" "fromDays" "LFeeRules$Row;", Cond.methodLink RX0 51 yX5_get, Cond.methodLink RX8 196 yX8_centsOf, Cond.instanceMethod yX8_centsOf, Cond.selects RX8 yX8_centsOf yX8_centsOf, Cond.code yX8_centsOf cX8_centsOf 3 (some .long), Cond.methodLink RX8 210 yX1_measureOf, Cond.instanceMethod yX1_measureOf]
def wsX8_issue_r5 : List Cond := [Cond.selects RX1 yX1_measureOf yX1_measureOf, Cond.code yX1_measureOf cX1_measureOf 2 (some .long), Cond.fieldLink RX1 26 "FeeRules$Facts" "measures" "LFeeRules$Row;", Cond.methodLink RX8 233 yX0_feeOf, Cond.instanceMethod yX0_feeOf, Cond.selects RX0 yX0_feeOf yX0_feeOf, Cond.code yX0_feeOf cX0_feeOf 12 (some .long), Cond.constantLong RX0 62 (-1), Cond.fieldLink RX0 26 "FeeRules$Editions" "pers" "LFeeRules$Row;", Cond.fieldLink RX0 32 "FeeRules$Editions" "caps" "LFeeRules$Row;", Cond.methodLink RX0 72 yX0_hasRule, Cond.instanceMethod yX0_hasRule, Cond.selects RX0 yX0_hasRule yX0_hasRule, Cond.code yX0_hasRule cX0_hasRule 3 (some .boolean), Cond.methodLink RX0 68 yX0_has, Cond.instanceMethod yX0_has, Cond.selects RX0 yX0_has yX0_has, Cond.code yX0_has cX0_has 2 (some .boolean), Cond.methodLink RX0 58 yX0_cellOf, Cond.static yX0_cellOf, Cond.code yX0_cellOf cX0_cellOf 2 (some .int), Cond.methodLink RX0 76 yX0_priceOf, Cond.instanceMethod yX0_priceOf, Cond.selects RX0 yX0_priceOf yX0_priceOf]
def wsX8_issue_r6 : List Cond := [Cond.code yX0_priceOf cX0_priceOf 18 (some .long), Cond.fieldLink RX0 29 "FeeRules$Editions" "prices" "LFeeRules$Row;", Cond.fieldLink RX0 35 "FeeRules$Editions" "firstSteps" "LFeeRules$Row;", Cond.fieldLink RX0 38 "FeeRules$Editions" "stepCounts" "LFeeRules$Row;", Cond.fieldLink RX0 41 "FeeRules$Editions" "stepStarts" "LFeeRules$Row;", Cond.fieldLink RX0 44 "FeeRules$Editions" "stepPrices" "LFeeRules$Row;", Cond.methodLink RX8 198 yX5_get, Cond.methodLink RX8 183 yX3_issuedOf, Cond.instanceMethod yX3_issuedOf, Cond.selects RX3 yX3_issuedOf yX3_issuedOf, Cond.code yX3_issuedOf cX3_issuedOf 3 (some .long), Cond.fieldLink RX3 23 "FeeRules$Houses" "issuedCents" "LFeeRules$Row;", Cond.methodLink RX3 42 yX5_get, Cond.methodLink RX8 187 yX3_setIssued, Cond.instanceMethod yX3_setIssued, Cond.selects RX3 yX3_setIssued yX3_setIssued, Cond.code yX3_setIssued cX3_setIssued 5 none, Cond.methodLink RX3 30 yX5_set, Cond.instanceMethod yX5_set, Cond.selects RX5 yX5_set yX5_set, Cond.code yX5_set cX5_set 4 none]
def wsX8_issue : List Cond := .code yX8_issue cX8_issue 9 (some .long) :: ((wsX8_issue_r1 ++ (wsX8_issue_r2 ++ (wsX8_issue_r3 ++ (wsX8_issue_r4 ++ (wsX8_issue_r5 ++ wsX8_issue_r6))))) ++ wsX80 ++ wsX30 ++ wsX10 ++ wsX50 ++ wsX40 ++ wsX00)
def wsX8_issued : List Cond := .code yX8_issued cX8_issued 3 (some .long) :: ([.fieldLink RX8 12 "FeeRules" "houses" "LFeeRules$Houses;", .constantLong RX8 178 (-9223372036854775808), .methodLink RX8 79 yX3_has, .instanceMethod yX3_has, .selects RX3 yX3_has yX3_has, .initialized RX3, .code yX3_has cX3_has 2 (some .boolean), .fieldLink RX3 26 "FeeRules$Houses" "count" "I", .methodLink RX8 123 yX8_isMonth, .static yX8_isMonth, .initialized RX8, .code yX8_isMonth cX8_isMonth 1 (some .boolean), .methodLink RX8 183 yX3_issuedOf, .instanceMethod yX3_issuedOf, .selects RX3 yX3_issuedOf yX3_issuedOf, .code yX3_issuedOf cX3_issuedOf 3 (some .long), .fieldLink RX3 23 "FeeRules$Houses" "issuedCents" "LFeeRules$Row;", .methodLink RX3 42 yX5_get, .instanceMethod yX5_get, .selects RX5 yX5_get yX5_get, .initialized RX5, .code yX5_get cX5_get 2 (some .long), .fieldLink RX5 7 "FeeRules$Row" "cells" "[J"] ++ wsX80 ++ wsX30 ++ wsX50)
def wsX8_reverse_r1 : List Cond := [Cond.fieldLink RX8 12 "FeeRules" "houses" "LFeeRules$Houses;", Cond.constantLong RX8 178 (-9223372036854775808), Cond.methodLink RX8 79 yX3_has, Cond.instanceMethod yX3_has, Cond.selects RX3 yX3_has yX3_has, Cond.initialized RX3, Cond.code yX3_has cX3_has 2 (some .boolean), Cond.fieldLink RX3 26 "FeeRules$Houses" "count" "I", Cond.methodLink RX8 123 yX8_isMonth, Cond.static yX8_isMonth, Cond.initialized RX8, Cond.code yX8_isMonth cX8_isMonth 1 (some .boolean), Cond.methodLink RX8 183 yX3_issuedOf, Cond.instanceMethod yX3_issuedOf, Cond.selects RX3 yX3_issuedOf yX3_issuedOf, Cond.code yX3_issuedOf cX3_issuedOf 3 (some .long), Cond.fieldLink RX3 23 "FeeRules$Houses" "issuedCents" "LFeeRules$Row;", Cond.methodLink RX3 42 yX5_get, Cond.instanceMethod yX5_get, Cond.selects RX5 yX5_get yX5_get, Cond.initialized RX5, Cond.code yX5_get cX5_get 2 (some .long), Cond.fieldLink RX5 7 "FeeRules$Row" "cells" "[J", Cond.methodLink RX8 187 yX3_setIssued]
def wsX8_reverse_r2 : List Cond := [Cond.instanceMethod yX3_setIssued, Cond.selects RX3 yX3_setIssued yX3_setIssued, Cond.code yX3_setIssued cX3_setIssued 5 none, Cond.methodLink RX3 30 yX5_set, Cond.instanceMethod yX5_set, Cond.selects RX5 yX5_set yX5_set, Cond.code yX5_set cX5_set 4 none]
def wsX8_reverse : List Cond := .code yX8_reverse cX8_reverse 5 (some .long) :: ((wsX8_reverse_r1 ++ wsX8_reverse_r2) ++ wsX80 ++ wsX30 ++ wsX50)
def wsX9_init_r1 : List Cond := [Cond.methodLink RX9 1 objectInit, Cond.instanceMethod objectInit, Cond.code objectInit ⟨#[0xb1]⟩ 1 none, Cond.arrayClass .int, Cond.fieldLink RX9 7 "FeeRulesModel" "flats" "[I", Cond.fieldLink RX9 13 "FeeRulesModel" "weights" "[I", Cond.fieldLink RX9 16 "FeeRulesModel" "factHouse" "[I", Cond.fieldLink RX9 19 "FeeRulesModel" "factKind" "[I", Cond.fieldLink RX9 22 "FeeRulesModel" "factDay" "[I", Cond.fieldLink RX9 25 "FeeRulesModel" "factMeasure" "[I", Cond.fieldLink RX9 28 "FeeRulesModel" "factKnown" "[I", Cond.fieldLink RX9 31 "FeeRulesModel" "text" "[I", Cond.fieldLink RX9 34 "FeeRulesModel" "begin" "[I", Cond.fieldLink RX9 37 "FeeRulesModel" "end" "[I", Cond.fieldLink RX9 40 "FeeRulesModel" "from" "[I", Cond.fieldLink RX9 43 "FeeRulesModel" "known" "[I", Cond.arrayClass .boolean, Cond.fieldLink RX9 46 "FeeRulesModel" "rule" "[Z", Cond.fieldLink RX9 50 "FeeRulesModel" "per" "[I", Cond.fieldLink RX9 53 "FeeRulesModel" "price" "[I", Cond.fieldLink RX9 56 "FeeRulesModel" "most" "[I", Cond.fieldLink RX9 59 "FeeRulesModel" "steps" "[I", Cond.fieldLink RX9 62 "FeeRulesModel" "stepAt" "[I", Cond.fieldLink RX9 65 "FeeRulesModel" "stepPrice" "[I"]
def wsX9_init_r2 : List Cond := [Cond.arrayClass .long, Cond.fieldLink RX9 68 "FeeRulesModel" "caps" "[J", Cond.fieldLink RX9 72 "FeeRulesModel" "reliefHouse" "[I", Cond.fieldLink RX9 75 "FeeRulesModel" "reliefKind" "[I", Cond.fieldLink RX9 78 "FeeRulesModel" "reliefFrom" "[I", Cond.fieldLink RX9 81 "FeeRulesModel" "reliefTo" "[I", Cond.fieldLink RX9 84 "FeeRulesModel" "issued" "[J", Cond.fieldLink RX9 87 "FeeRulesModel" "lineFact" "[I", Cond.fieldLink RX9 90 "FeeRulesModel" "lineCents" "[J", Cond.fieldLink RX9 93 "FeeRulesModel" "lineEdition" "[I", Cond.fieldLink RX9 96 "FeeRulesModel" "lineLacks" "[I", Cond.fieldLink RX9 99 "FeeRulesModel" "heldFact" "[I", Cond.fieldLink RX9 102 "FeeRulesModel" "heldCents" "[J", Cond.fieldLink RX9 105 "FeeRulesModel" "heldEdition" "[I", Cond.fieldLink RX9 108 "FeeRulesModel" "heldLacks" "[I", Cond.arrayClass .byte, Cond.fieldLink RX9 111 "FeeRulesModel" "writing" "[B", Cond.constantLong RX9 115 (-1)]
def wsX9_init : List Cond := .code yX9_init cX9_init 2 none :: ((wsX9_init_r1 ++ wsX9_init_r2) ++ wsX90)
def wsX9_isDay : List Cond := .code yX9_isDay cX9_isDay 2 (some .boolean) :: ([.constantLong RX9 117 (3600)])
def wsX9_isHouse : List Cond := .code yX9_isHouse cX9_isHouse 2 (some .boolean) :: ([.fieldLink RX9 119 "FeeRulesModel" "houses" "I"] ++ wsX90)
def wsX9_isKind : List Cond := .code yX9_isKind cX9_isKind 1 (some .boolean) :: ([])
def wsX9_isMonth : List Cond := .code yX9_isMonth cX9_isMonth 1 (some .boolean) :: ([])
def wsX9_house : List Cond := .code yX9_house cX9_house 2 (some .int) :: ([.fieldLink RX9 119 "FeeRulesModel" "houses" "I", .fieldLink RX9 7 "FeeRulesModel" "flats" "[I"] ++ wsX90)
def wsX9_fact : List Cond := .code yX9_fact cX9_fact 9 (some .int) :: ([.fieldLink RX9 123 "FeeRulesModel" "facts" "I", .constantLong RX9 137 (1000000), .fieldLink RX9 16 "FeeRulesModel" "factHouse" "[I", .fieldLink RX9 19 "FeeRulesModel" "factKind" "[I", .fieldLink RX9 22 "FeeRulesModel" "factDay" "[I", .fieldLink RX9 25 "FeeRulesModel" "factMeasure" "[I", .fieldLink RX9 28 "FeeRulesModel" "factKnown" "[I", .methodLink RX9 126 yX9_isHouse, .instanceMethod yX9_isHouse, .selects RX9 yX9_isHouse yX9_isHouse, .initialized RX9, .code yX9_isHouse cX9_isHouse 2 (some .boolean), .fieldLink RX9 119 "FeeRulesModel" "houses" "I", .methodLink RX9 130 yX9_isKind, .static yX9_isKind, .code yX9_isKind cX9_isKind 1 (some .boolean), .methodLink RX9 133 yX9_isDay, .static yX9_isDay, .code yX9_isDay cX9_isDay 2 (some .boolean), .constantLong RX9 117 (3600)] ++ wsX90)
def wsX9_unit : List Cond := .code yX9_unit cX9_unit 2 (some .boolean) :: ([.fieldLink RX9 139 "FeeRulesModel" "typed" "I", .fieldLink RX9 31 "FeeRulesModel" "text" "[I"] ++ wsX90)
def wsX9_findWords : List Cond := .code yX9_findWords cX9_findWords 4 none :: ([.fieldLink RX9 142 "FeeRulesModel" "words" "I", .fieldLink RX9 139 "FeeRulesModel" "typed" "I", .fieldLink RX9 31 "FeeRulesModel" "text" "[I", .fieldLink RX9 34 "FeeRulesModel" "begin" "[I", .fieldLink RX9 37 "FeeRulesModel" "end" "[I"] ++ wsX90)
def wsX9_is : List Cond := .code yX9_is cX9_is 10 (some .boolean) :: ([.fieldLink RX9 142 "FeeRulesModel" "words" "I", .fieldLink RX9 34 "FeeRulesModel" "begin" "[I", .fieldLink RX9 37 "FeeRulesModel" "end" "[I", .fieldLink RX9 31 "FeeRulesModel" "text" "[I"] ++ wsX90)
def wsX9_number : List Cond := .code yX9_number cX9_number 4 (some .int) :: ([.fieldLink RX9 142 "FeeRulesModel" "words" "I", .fieldLink RX9 37 "FeeRulesModel" "end" "[I", .fieldLink RX9 34 "FeeRulesModel" "begin" "[I", .fieldLink RX9 31 "FeeRulesModel" "text" "[I"] ++ wsX90)
def wsX9_isKindWord : List Cond := .code yX9_isKindWord cX9_isKindWord 2 (some .boolean) :: ([.methodLink RX9 145 yX9_is, .instanceMethod yX9_is, .selects RX9 yX9_is yX9_is, .initialized RX9, .code yX9_is cX9_is 10 (some .boolean), .fieldLink RX9 142 "FeeRulesModel" "words" "I", .fieldLink RX9 34 "FeeRulesModel" "begin" "[I", .fieldLink RX9 37 "FeeRulesModel" "end" "[I", .fieldLink RX9 31 "FeeRulesModel" "text" "[I"] ++ wsX90)
def wsX9_isPer : List Cond := .code yX9_isPer cX9_isPer 2 (some .boolean) :: ([.methodLink RX9 145 yX9_is, .instanceMethod yX9_is, .selects RX9 yX9_is yX9_is, .initialized RX9, .code yX9_is cX9_is 10 (some .boolean), .fieldLink RX9 142 "FeeRulesModel" "words" "I", .fieldLink RX9 34 "FeeRulesModel" "begin" "[I", .fieldLink RX9 37 "FeeRulesModel" "end" "[I", .fieldLink RX9 31 "FeeRulesModel" "text" "[I"] ++ wsX90)
def wsX9_isPrice : List Cond := .code yX9_isPrice cX9_isPrice 2 (some .boolean) :: ([.methodLink RX9 145 yX9_is, .instanceMethod yX9_is, .selects RX9 yX9_is yX9_is, .initialized RX9, .code yX9_is cX9_is 10 (some .boolean), .fieldLink RX9 142 "FeeRulesModel" "words" "I", .fieldLink RX9 34 "FeeRulesModel" "begin" "[I", .fieldLink RX9 37 "FeeRulesModel" "end" "[I", .fieldLink RX9 31 "FeeRulesModel" "text" "[I"] ++ wsX90)
def wsX9_isStep : List Cond := .code yX9_isStep cX9_isStep 2 (some .boolean) :: ([.methodLink RX9 145 yX9_is, .instanceMethod yX9_is, .selects RX9 yX9_is yX9_is, .initialized RX9, .code yX9_is cX9_is 10 (some .boolean), .fieldLink RX9 142 "FeeRulesModel" "words" "I", .fieldLink RX9 34 "FeeRulesModel" "begin" "[I", .fieldLink RX9 37 "FeeRulesModel" "end" "[I", .fieldLink RX9 31 "FeeRulesModel" "text" "[I"] ++ wsX90)
def wsX9_isCap : List Cond := .code yX9_isCap cX9_isCap 2 (some .boolean) :: ([.methodLink RX9 145 yX9_is, .instanceMethod yX9_is, .selects RX9 yX9_is yX9_is, .initialized RX9, .code yX9_is cX9_is 10 (some .boolean), .fieldLink RX9 142 "FeeRulesModel" "words" "I", .fieldLink RX9 34 "FeeRulesModel" "begin" "[I", .fieldLink RX9 37 "FeeRulesModel" "end" "[I", .fieldLink RX9 31 "FeeRulesModel" "text" "[I"] ++ wsX90)
def wsX9_rules_r1 : List Cond := [Cond.fieldLink RX9 149 "FeeRulesModel" "editions" "I", Cond.fieldLink RX9 46 "FeeRulesModel" "rule" "[Z", Cond.fieldLink RX9 142 "FeeRulesModel" "words" "I", Cond.fieldLink RX9 50 "FeeRulesModel" "per" "[I", Cond.fieldLink RX9 53 "FeeRulesModel" "price" "[I", Cond.fieldLink RX9 59 "FeeRulesModel" "steps" "[I", Cond.fieldLink RX9 56 "FeeRulesModel" "most" "[I", Cond.fieldLink RX9 62 "FeeRulesModel" "stepAt" "[I", Cond.fieldLink RX9 65 "FeeRulesModel" "stepPrice" "[I", Cond.methodLink RX9 152 yX9_isKindWord, Cond.instanceMethod yX9_isKindWord, Cond.selects RX9 yX9_isKindWord yX9_isKindWord, Cond.initialized RX9, Cond.code yX9_isKindWord cX9_isKindWord 2 (some .boolean), Cond.methodLink RX9 145 yX9_is, Cond.instanceMethod yX9_is, Cond.selects RX9 yX9_is yX9_is, Cond.code yX9_is cX9_is 10 (some .boolean), Cond.fieldLink RX9 34 "FeeRulesModel" "begin" "[I", Cond.fieldLink RX9 37 "FeeRulesModel" "end" "[I", Cond.fieldLink RX9 31 "FeeRulesModel" "text" "[I", Cond.methodLink RX9 155 yX9_number, Cond.instanceMethod yX9_number, Cond.selects RX9 yX9_number yX9_number]
def wsX9_rules_r2 : List Cond := [Cond.code yX9_number cX9_number 4 (some .int), Cond.methodLink RX9 159 yX9_isPer, Cond.instanceMethod yX9_isPer, Cond.selects RX9 yX9_isPer yX9_isPer, Cond.code yX9_isPer cX9_isPer 2 (some .boolean), Cond.methodLink RX9 162 yX9_isPrice, Cond.instanceMethod yX9_isPrice, Cond.selects RX9 yX9_isPrice yX9_isPrice, Cond.code yX9_isPrice cX9_isPrice 2 (some .boolean), Cond.methodLink RX9 165 yX9_isStep, Cond.instanceMethod yX9_isStep, Cond.selects RX9 yX9_isStep yX9_isStep, Cond.code yX9_isStep cX9_isStep 2 (some .boolean), Cond.methodLink RX9 168 yX9_isCap, Cond.instanceMethod yX9_isCap, Cond.selects RX9 yX9_isCap yX9_isCap, Cond.code yX9_isCap cX9_isCap 2 (some .boolean)]
def wsX9_rules : List Cond := .code yX9_rules cX9_rules 9 (some .int) :: ((wsX9_rules_r1 ++ wsX9_rules_r2) ++ wsX90)
def wsX9_read_r1 : List Cond := [Cond.fieldLink RX9 139 "FeeRulesModel" "typed" "I", Cond.fieldLink RX9 149 "FeeRulesModel" "editions" "I", Cond.fieldLink RX9 40 "FeeRulesModel" "from" "[I", Cond.fieldLink RX9 43 "FeeRulesModel" "known" "[I", Cond.methodLink RX9 171 yX9_findWords, Cond.instanceMethod yX9_findWords, Cond.selects RX9 yX9_findWords yX9_findWords, Cond.initialized RX9, Cond.code yX9_findWords cX9_findWords 4 none, Cond.fieldLink RX9 142 "FeeRulesModel" "words" "I", Cond.fieldLink RX9 31 "FeeRulesModel" "text" "[I", Cond.fieldLink RX9 34 "FeeRulesModel" "begin" "[I", Cond.fieldLink RX9 37 "FeeRulesModel" "end" "[I", Cond.methodLink RX9 133 yX9_isDay, Cond.static yX9_isDay, Cond.code yX9_isDay cX9_isDay 2 (some .boolean), Cond.constantLong RX9 117 (3600), Cond.methodLink RX9 174 yX9_rules, Cond.instanceMethod yX9_rules, Cond.selects RX9 yX9_rules yX9_rules, Cond.code yX9_rules cX9_rules 9 (some .int), Cond.fieldLink RX9 46 "FeeRulesModel" "rule" "[Z", Cond.fieldLink RX9 50 "FeeRulesModel" "per" "[I", Cond.fieldLink RX9 53 "FeeRulesModel" "price" "[I"]
def wsX9_read_r2 : List Cond := [Cond.fieldLink RX9 59 "FeeRulesModel" "steps" "[I", Cond.fieldLink RX9 56 "FeeRulesModel" "most" "[I", Cond.fieldLink RX9 62 "FeeRulesModel" "stepAt" "[I", Cond.fieldLink RX9 65 "FeeRulesModel" "stepPrice" "[I", Cond.methodLink RX9 152 yX9_isKindWord, Cond.instanceMethod yX9_isKindWord, Cond.selects RX9 yX9_isKindWord yX9_isKindWord, Cond.code yX9_isKindWord cX9_isKindWord 2 (some .boolean), Cond.methodLink RX9 145 yX9_is, Cond.instanceMethod yX9_is, Cond.selects RX9 yX9_is yX9_is, Cond.code yX9_is cX9_is 10 (some .boolean), Cond.methodLink RX9 155 yX9_number, Cond.instanceMethod yX9_number, Cond.selects RX9 yX9_number yX9_number, Cond.code yX9_number cX9_number 4 (some .int), Cond.methodLink RX9 159 yX9_isPer, Cond.instanceMethod yX9_isPer, Cond.selects RX9 yX9_isPer yX9_isPer, Cond.code yX9_isPer cX9_isPer 2 (some .boolean), Cond.methodLink RX9 162 yX9_isPrice, Cond.instanceMethod yX9_isPrice, Cond.selects RX9 yX9_isPrice yX9_isPrice, Cond.code yX9_isPrice cX9_isPrice 2 (some .boolean)]
def wsX9_read_r3 : List Cond := [Cond.methodLink RX9 165 yX9_isStep, Cond.instanceMethod yX9_isStep, Cond.selects RX9 yX9_isStep yX9_isStep, Cond.code yX9_isStep cX9_isStep 2 (some .boolean), Cond.methodLink RX9 168 yX9_isCap, Cond.instanceMethod yX9_isCap, Cond.selects RX9 yX9_isCap yX9_isCap, Cond.code yX9_isCap cX9_isCap 2 (some .boolean)]
def wsX9_read : List Cond := .code yX9_read cX9_read 6 (some .int) :: ((wsX9_read_r1 ++ (wsX9_read_r2 ++ wsX9_read_r3)) ++ wsX90)
def wsX9_edition : List Cond := .code yX9_edition cX9_edition 5 (some .int) :: ([.fieldLink RX9 149 "FeeRulesModel" "editions" "I", .fieldLink RX9 40 "FeeRulesModel" "from" "[I", .fieldLink RX9 43 "FeeRulesModel" "known" "[I", .fieldLink RX9 46 "FeeRulesModel" "rule" "[Z"] ++ wsX90)
def wsX9_cap : List Cond := .code yX9_cap cX9_cap 4 (some .boolean) :: ([.constantLong RX9 181 (1000000000000), .fieldLink RX9 68 "FeeRulesModel" "caps" "[J", .methodLink RX9 178 yX9_isMonth, .static yX9_isMonth, .initialized RX9, .code yX9_isMonth cX9_isMonth 1 (some .boolean)] ++ wsX90)
def wsX9_relief : List Cond := .code yX9_relief cX9_relief 7 (some .boolean) :: ([.fieldLink RX9 183 "FeeRulesModel" "reliefs" "I", .fieldLink RX9 72 "FeeRulesModel" "reliefHouse" "[I", .fieldLink RX9 75 "FeeRulesModel" "reliefKind" "[I", .fieldLink RX9 78 "FeeRulesModel" "reliefFrom" "[I", .fieldLink RX9 81 "FeeRulesModel" "reliefTo" "[I", .methodLink RX9 126 yX9_isHouse, .instanceMethod yX9_isHouse, .selects RX9 yX9_isHouse yX9_isHouse, .initialized RX9, .code yX9_isHouse cX9_isHouse 2 (some .boolean), .fieldLink RX9 119 "FeeRulesModel" "houses" "I", .methodLink RX9 130 yX9_isKind, .static yX9_isKind, .code yX9_isKind cX9_isKind 1 (some .boolean), .methodLink RX9 133 yX9_isDay, .static yX9_isDay, .code yX9_isDay cX9_isDay 2 (some .boolean), .constantLong RX9 117 (3600)] ++ wsX90)
def wsX9_isFlat : List Cond := .code yX9_isFlat cX9_isFlat 3 (some .boolean) :: ([.fieldLink RX9 7 "FeeRulesModel" "flats" "[I", .methodLink RX9 126 yX9_isHouse, .instanceMethod yX9_isHouse, .selects RX9 yX9_isHouse yX9_isHouse, .initialized RX9, .code yX9_isHouse cX9_isHouse 2 (some .boolean), .fieldLink RX9 119 "FeeRulesModel" "houses" "I"] ++ wsX90)
def wsX9_weight : List Cond := .code yX9_weight cX9_weight 4 (some .boolean) :: ([.fieldLink RX9 13 "FeeRulesModel" "weights" "[I", .methodLink RX9 186 yX9_isFlat, .instanceMethod yX9_isFlat, .selects RX9 yX9_isFlat yX9_isFlat, .initialized RX9, .code yX9_isFlat cX9_isFlat 3 (some .boolean), .fieldLink RX9 7 "FeeRulesModel" "flats" "[I", .methodLink RX9 126 yX9_isHouse, .instanceMethod yX9_isHouse, .selects RX9 yX9_isHouse yX9_isHouse, .code yX9_isHouse cX9_isHouse 2 (some .boolean), .fieldLink RX9 119 "FeeRulesModel" "houses" "I"] ++ wsX90)
def wsX9_isRelieved : List Cond := .code yX9_isRelieved cX9_isRelieved 3 (some .boolean) :: ([.fieldLink RX9 183 "FeeRulesModel" "reliefs" "I", .fieldLink RX9 72 "FeeRulesModel" "reliefHouse" "[I", .fieldLink RX9 16 "FeeRulesModel" "factHouse" "[I", .fieldLink RX9 75 "FeeRulesModel" "reliefKind" "[I", .fieldLink RX9 19 "FeeRulesModel" "factKind" "[I", .fieldLink RX9 78 "FeeRulesModel" "reliefFrom" "[I", .fieldLink RX9 22 "FeeRulesModel" "factDay" "[I", .fieldLink RX9 81 "FeeRulesModel" "reliefTo" "[I"] ++ wsX90)
def wsX9_feeOf : List Cond := .code yX9_feeOf cX9_feeOf 9 (some .long) :: ([.fieldLink RX9 53 "FeeRulesModel" "price" "[I", .fieldLink RX9 59 "FeeRulesModel" "steps" "[I", .fieldLink RX9 62 "FeeRulesModel" "stepAt" "[I", .fieldLink RX9 65 "FeeRulesModel" "stepPrice" "[I", .fieldLink RX9 50 "FeeRulesModel" "per" "[I", .fieldLink RX9 56 "FeeRulesModel" "most" "[I"] ++ wsX90)
def wsX9_editionOf : List Cond := .code yX9_editionOf cX9_editionOf 6 (some .int) :: ([.fieldLink RX9 149 "FeeRulesModel" "editions" "I", .fieldLink RX9 43 "FeeRulesModel" "known" "[I", .fieldLink RX9 40 "FeeRulesModel" "from" "[I", .fieldLink RX9 22 "FeeRulesModel" "factDay" "[I"] ++ wsX90)
def wsX9_findLines_r1 : List Cond := [Cond.fieldLink RX9 190 "FeeRulesModel" "lines" "I", Cond.fieldLink RX9 123 "FeeRulesModel" "facts" "I", Cond.fieldLink RX9 16 "FeeRulesModel" "factHouse" "[I", Cond.fieldLink RX9 22 "FeeRulesModel" "factDay" "[I", Cond.fieldLink RX9 28 "FeeRulesModel" "factKnown" "[I", Cond.fieldLink RX9 19 "FeeRulesModel" "factKind" "[I", Cond.fieldLink RX9 46 "FeeRulesModel" "rule" "[Z", Cond.fieldLink RX9 50 "FeeRulesModel" "per" "[I", Cond.fieldLink RX9 87 "FeeRulesModel" "lineFact" "[I", Cond.fieldLink RX9 93 "FeeRulesModel" "lineEdition" "[I", Cond.fieldLink RX9 96 "FeeRulesModel" "lineLacks" "[I", Cond.fieldLink RX9 90 "FeeRulesModel" "lineCents" "[J", Cond.constantLong RX9 115 (-1), Cond.fieldLink RX9 25 "FeeRulesModel" "factMeasure" "[I", Cond.methodLink RX9 193 yX9_isRelieved, Cond.instanceMethod yX9_isRelieved, Cond.selects RX9 yX9_isRelieved yX9_isRelieved, Cond.initialized RX9, Cond.code yX9_isRelieved cX9_isRelieved 3 (some .boolean), Cond.fieldLink RX9 183 "FeeRulesModel" "reliefs" "I", Cond.fieldLink RX9 72 "FeeRulesModel" "reliefHouse" "[I", Cond.fieldLink RX9 75 "FeeRulesModel" "reliefKind" "[I", Cond.fieldLink RX9 78 "FeeRulesModel" "reliefFrom" "[I", Cond.fieldLink RX9 81 "FeeRulesModel" "reliefTo" "[I"]
def wsX9_findLines_r2 : List Cond := [Cond.methodLink RX9 196 yX9_editionOf, Cond.instanceMethod yX9_editionOf, Cond.selects RX9 yX9_editionOf yX9_editionOf, Cond.code yX9_editionOf cX9_editionOf 6 (some .int), Cond.fieldLink RX9 149 "FeeRulesModel" "editions" "I", Cond.fieldLink RX9 43 "FeeRulesModel" "known" "[I", Cond.fieldLink RX9 40 "FeeRulesModel" "from" "[I", Cond.methodLink RX9 200 yX9_feeOf, Cond.instanceMethod yX9_feeOf, Cond.selects RX9 yX9_feeOf yX9_feeOf, Cond.code yX9_feeOf cX9_feeOf 9 (some .long), Cond.fieldLink RX9 53 "FeeRulesModel" "price" "[I", Cond.fieldLink RX9 59 "FeeRulesModel" "steps" "[I", Cond.fieldLink RX9 62 "FeeRulesModel" "stepAt" "[I", Cond.fieldLink RX9 65 "FeeRulesModel" "stepPrice" "[I", Cond.fieldLink RX9 56 "FeeRulesModel" "most" "[I"]
def wsX9_findLines : List Cond := .code yX9_findLines cX9_findLines 10 none :: ((wsX9_findLines_r1 ++ wsX9_findLines_r2) ++ wsX90)
def wsX9_isAsked : List Cond := .code yX9_isAsked cX9_isAsked 5 (some .boolean) :: ([.methodLink RX9 126 yX9_isHouse, .instanceMethod yX9_isHouse, .selects RX9 yX9_isHouse yX9_isHouse, .initialized RX9, .code yX9_isHouse cX9_isHouse 2 (some .boolean), .fieldLink RX9 119 "FeeRulesModel" "houses" "I", .methodLink RX9 178 yX9_isMonth, .static yX9_isMonth, .code yX9_isMonth cX9_isMonth 1 (some .boolean), .methodLink RX9 133 yX9_isDay, .static yX9_isDay, .code yX9_isDay cX9_isDay 2 (some .boolean), .constantLong RX9 117 (3600)] ++ wsX90)
def wsX9_bill_r1 : List Cond := [Cond.constantLong RX9 208 (-9223372036854775808), Cond.fieldLink RX9 190 "FeeRulesModel" "lines" "I", Cond.fieldLink RX9 96 "FeeRulesModel" "lineLacks" "[I", Cond.fieldLink RX9 90 "FeeRulesModel" "lineCents" "[J", Cond.fieldLink RX9 68 "FeeRulesModel" "caps" "[J", Cond.methodLink RX9 204 yX9_isAsked, Cond.instanceMethod yX9_isAsked, Cond.selects RX9 yX9_isAsked yX9_isAsked, Cond.initialized RX9, Cond.code yX9_isAsked cX9_isAsked 5 (some .boolean), Cond.methodLink RX9 126 yX9_isHouse, Cond.instanceMethod yX9_isHouse, Cond.selects RX9 yX9_isHouse yX9_isHouse, Cond.code yX9_isHouse cX9_isHouse 2 (some .boolean), Cond.fieldLink RX9 119 "FeeRulesModel" "houses" "I", Cond.methodLink RX9 178 yX9_isMonth, Cond.static yX9_isMonth, Cond.code yX9_isMonth cX9_isMonth 1 (some .boolean), Cond.methodLink RX9 133 yX9_isDay, Cond.static yX9_isDay, Cond.code yX9_isDay cX9_isDay 2 (some .boolean), Cond.constantLong RX9 117 (3600), Cond.methodLink RX9 210 yX9_findLines, Cond.instanceMethod yX9_findLines]
def wsX9_bill_r2 : List Cond := [Cond.selects RX9 yX9_findLines yX9_findLines, Cond.code yX9_findLines cX9_findLines 10 none, Cond.fieldLink RX9 123 "FeeRulesModel" "facts" "I", Cond.fieldLink RX9 16 "FeeRulesModel" "factHouse" "[I", Cond.fieldLink RX9 22 "FeeRulesModel" "factDay" "[I", Cond.fieldLink RX9 28 "FeeRulesModel" "factKnown" "[I", Cond.fieldLink RX9 19 "FeeRulesModel" "factKind" "[I", Cond.fieldLink RX9 46 "FeeRulesModel" "rule" "[Z", Cond.fieldLink RX9 50 "FeeRulesModel" "per" "[I", Cond.fieldLink RX9 87 "FeeRulesModel" "lineFact" "[I", Cond.fieldLink RX9 93 "FeeRulesModel" "lineEdition" "[I", Cond.constantLong RX9 115 (-1), Cond.fieldLink RX9 25 "FeeRulesModel" "factMeasure" "[I", Cond.methodLink RX9 193 yX9_isRelieved, Cond.instanceMethod yX9_isRelieved, Cond.selects RX9 yX9_isRelieved yX9_isRelieved, Cond.code yX9_isRelieved cX9_isRelieved 3 (some .boolean), Cond.fieldLink RX9 183 "FeeRulesModel" "reliefs" "I", Cond.fieldLink RX9 72 "FeeRulesModel" "reliefHouse" "[I", Cond.fieldLink RX9 75 "FeeRulesModel" "reliefKind" "[I", Cond.fieldLink RX9 78 "FeeRulesModel" "reliefFrom" "[I", Cond.fieldLink RX9 81 "FeeRulesModel" "reliefTo" "[I", Cond.methodLink RX9 196 yX9_editionOf, Cond.instanceMethod yX9_editionOf]
def wsX9_bill_r3 : List Cond := [Cond.selects RX9 yX9_editionOf yX9_editionOf, Cond.code yX9_editionOf cX9_editionOf 6 (some .int), Cond.fieldLink RX9 149 "FeeRulesModel" "editions" "I", Cond.fieldLink RX9 43 "FeeRulesModel" "known" "[I", Cond.fieldLink RX9 40 "FeeRulesModel" "from" "[I", Cond.methodLink RX9 200 yX9_feeOf, Cond.instanceMethod yX9_feeOf, Cond.selects RX9 yX9_feeOf yX9_feeOf, Cond.code yX9_feeOf cX9_feeOf 9 (some .long), Cond.fieldLink RX9 53 "FeeRulesModel" "price" "[I", Cond.fieldLink RX9 59 "FeeRulesModel" "steps" "[I", Cond.fieldLink RX9 62 "FeeRulesModel" "stepAt" "[I", Cond.fieldLink RX9 65 "FeeRulesModel" "stepPrice" "[I", Cond.fieldLink RX9 56 "FeeRulesModel" "most" "[I"]
def wsX9_bill : List Cond := .code yX9_bill cX9_bill 8 (some .long) :: ((wsX9_bill_r1 ++ (wsX9_bill_r2 ++ wsX9_bill_r3)) ++ wsX90)
def wsX9_put : List Cond := .code yX9_put cX9_put 2 none :: ([.fieldLink RX9 111 "FeeRulesModel" "writing" "[B", .fieldLink RX9 214 "FeeRulesModel" "written" "I"] ++ wsX90)
def wsX9_putNumber : List Cond := .code yX9_putNumber cX9_putNumber 7 none :: ([.constantLong RX9 217 (10), .methodLink RX9 219 yX9_put, .instanceMethod yX9_put, .selects RX9 yX9_put yX9_put, .initialized RX9, .code yX9_put cX9_put 2 none, .fieldLink RX9 111 "FeeRulesModel" "writing" "[B", .fieldLink RX9 214 "FeeRulesModel" "written" "I"] ++ wsX90)
def wsX9_walk_r1 : List Cond := [Cond.fieldLink RX9 190 "FeeRulesModel" "lines" "I", Cond.fieldLink RX9 223 "FeeRulesModel" "held" "I", Cond.fieldLink RX9 214 "FeeRulesModel" "written" "I", Cond.fieldLink RX9 87 "FeeRulesModel" "lineFact" "[I", Cond.fieldLink RX9 99 "FeeRulesModel" "heldFact" "[I", Cond.fieldLink RX9 102 "FeeRulesModel" "heldCents" "[J", Cond.fieldLink RX9 90 "FeeRulesModel" "lineCents" "[J", Cond.fieldLink RX9 105 "FeeRulesModel" "heldEdition" "[I", Cond.fieldLink RX9 93 "FeeRulesModel" "lineEdition" "[I", Cond.fieldLink RX9 108 "FeeRulesModel" "heldLacks" "[I", Cond.fieldLink RX9 96 "FeeRulesModel" "lineLacks" "[I", Cond.fieldLink RX9 19 "FeeRulesModel" "factKind" "[I", Cond.fieldLink RX9 25 "FeeRulesModel" "factMeasure" "[I", Cond.methodLink RX9 204 yX9_isAsked, Cond.instanceMethod yX9_isAsked, Cond.selects RX9 yX9_isAsked yX9_isAsked, Cond.initialized RX9, Cond.code yX9_isAsked cX9_isAsked 5 (some .boolean), Cond.methodLink RX9 126 yX9_isHouse, Cond.instanceMethod yX9_isHouse, Cond.selects RX9 yX9_isHouse yX9_isHouse, Cond.code yX9_isHouse cX9_isHouse 2 (some .boolean), Cond.fieldLink RX9 119 "FeeRulesModel" "houses" "I", Cond.methodLink RX9 178 yX9_isMonth]
def wsX9_walk_r2 : List Cond := [Cond.static yX9_isMonth, Cond.code yX9_isMonth cX9_isMonth 1 (some .boolean), Cond.methodLink RX9 133 yX9_isDay, Cond.static yX9_isDay, Cond.code yX9_isDay cX9_isDay 2 (some .boolean), Cond.constantLong RX9 117 (3600), Cond.methodLink RX9 210 yX9_findLines, Cond.instanceMethod yX9_findLines, Cond.selects RX9 yX9_findLines yX9_findLines, Cond.code yX9_findLines cX9_findLines 10 none, Cond.fieldLink RX9 123 "FeeRulesModel" "facts" "I", Cond.fieldLink RX9 16 "FeeRulesModel" "factHouse" "[I", Cond.fieldLink RX9 22 "FeeRulesModel" "factDay" "[I", Cond.fieldLink RX9 28 "FeeRulesModel" "factKnown" "[I", Cond.fieldLink RX9 46 "FeeRulesModel" "rule" "[Z", Cond.fieldLink RX9 50 "FeeRulesModel" "per" "[I", Cond.constantLong RX9 115 (-1), Cond.methodLink RX9 193 yX9_isRelieved, Cond.instanceMethod yX9_isRelieved, Cond.selects RX9 yX9_isRelieved yX9_isRelieved, Cond.code yX9_isRelieved cX9_isRelieved 3 (some .boolean), Cond.fieldLink RX9 183 "FeeRulesModel" "reliefs" "I", Cond.fieldLink RX9 72 "FeeRulesModel" "reliefHouse" "[I", Cond.fieldLink RX9 75 "FeeRulesModel" "reliefKind" "[I"]
def wsX9_walk_r3 : List Cond := [Cond.fieldLink RX9 78 "FeeRulesModel" "reliefFrom" "[I", Cond.fieldLink RX9 81 "FeeRulesModel" "reliefTo" "[I", Cond.methodLink RX9 196 yX9_editionOf, Cond.instanceMethod yX9_editionOf, Cond.selects RX9 yX9_editionOf yX9_editionOf, Cond.code yX9_editionOf cX9_editionOf 6 (some .int), Cond.fieldLink RX9 149 "FeeRulesModel" "editions" "I", Cond.fieldLink RX9 43 "FeeRulesModel" "known" "[I", Cond.fieldLink RX9 40 "FeeRulesModel" "from" "[I", Cond.methodLink RX9 200 yX9_feeOf, Cond.instanceMethod yX9_feeOf, Cond.selects RX9 yX9_feeOf yX9_feeOf, Cond.code yX9_feeOf cX9_feeOf 9 (some .long), Cond.fieldLink RX9 53 "FeeRulesModel" "price" "[I", Cond.fieldLink RX9 59 "FeeRulesModel" "steps" "[I", Cond.fieldLink RX9 62 "FeeRulesModel" "stepAt" "[I", Cond.fieldLink RX9 65 "FeeRulesModel" "stepPrice" "[I", Cond.fieldLink RX9 56 "FeeRulesModel" "most" "[I", Cond.methodLink RX9 226 yX9_putNumber, Cond.instanceMethod yX9_putNumber, Cond.selects RX9 yX9_putNumber yX9_putNumber, Cond.code yX9_putNumber cX9_putNumber 7 none, Cond.constantLong RX9 217 (10), Cond.methodLink RX9 219 yX9_put]
def wsX9_walk_r4 : List Cond := [Cond.instanceMethod yX9_put, Cond.selects RX9 yX9_put yX9_put, Cond.code yX9_put cX9_put 2 none, Cond.fieldLink RX9 111 "FeeRulesModel" "writing" "[B"]
def wsX9_walk : List Cond := .code yX9_walk cX9_walk 7 (some .int) :: ((wsX9_walk_r1 ++ (wsX9_walk_r2 ++ (wsX9_walk_r3 ++ wsX9_walk_r4))) ++ wsX90)
def wsX9_line : List Cond := .code yX9_line cX9_line 3 (some .long) :: ([.fieldLink RX9 223 "FeeRulesModel" "held" "I", .constantLong RX9 115 (-1), .fieldLink RX9 99 "FeeRulesModel" "heldFact" "[I", .fieldLink RX9 102 "FeeRulesModel" "heldCents" "[J", .fieldLink RX9 105 "FeeRulesModel" "heldEdition" "[I", .fieldLink RX9 108 "FeeRulesModel" "heldLacks" "[I"] ++ wsX90)
def wsX9_open : List Cond := .code yX9_open cX9_open 4 (some .int) :: ([.fieldLink RX9 223 "FeeRulesModel" "held" "I", .fieldLink RX9 108 "FeeRulesModel" "heldLacks" "[I", .fieldLink RX9 99 "FeeRulesModel" "heldFact" "[I"] ++ wsX90)
def wsX9_write : List Cond := .code yX9_write cX9_write 2 (some .int) :: ([.fieldLink RX9 214 "FeeRulesModel" "written" "I", .fieldLink RX9 111 "FeeRulesModel" "writing" "[B"] ++ wsX90)
def wsX9_flat_r1 : List Cond := [Cond.constantLong RX9 208 (-9223372036854775808), Cond.fieldLink RX9 7 "FeeRulesModel" "flats" "[I", Cond.fieldLink RX9 13 "FeeRulesModel" "weights" "[I", Cond.methodLink RX9 186 yX9_isFlat, Cond.instanceMethod yX9_isFlat, Cond.selects RX9 yX9_isFlat yX9_isFlat, Cond.initialized RX9, Cond.code yX9_isFlat cX9_isFlat 3 (some .boolean), Cond.methodLink RX9 126 yX9_isHouse, Cond.instanceMethod yX9_isHouse, Cond.selects RX9 yX9_isHouse yX9_isHouse, Cond.code yX9_isHouse cX9_isHouse 2 (some .boolean), Cond.fieldLink RX9 119 "FeeRulesModel" "houses" "I", Cond.methodLink RX9 230 yX9_bill, Cond.instanceMethod yX9_bill, Cond.selects RX9 yX9_bill yX9_bill, Cond.code yX9_bill cX9_bill 8 (some .long), Cond.fieldLink RX9 190 "FeeRulesModel" "lines" "I", Cond.fieldLink RX9 96 "FeeRulesModel" "lineLacks" "[I", Cond.fieldLink RX9 90 "FeeRulesModel" "lineCents" "[J", Cond.fieldLink RX9 68 "FeeRulesModel" "caps" "[J", Cond.methodLink RX9 204 yX9_isAsked, Cond.instanceMethod yX9_isAsked, Cond.selects RX9 yX9_isAsked yX9_isAsked]
def wsX9_flat_r2 : List Cond := [Cond.code yX9_isAsked cX9_isAsked 5 (some .boolean), Cond.methodLink RX9 178 yX9_isMonth, Cond.static yX9_isMonth, Cond.code yX9_isMonth cX9_isMonth 1 (some .boolean), Cond.methodLink RX9 133 yX9_isDay, Cond.static yX9_isDay, Cond.code yX9_isDay cX9_isDay 2 (some .boolean), Cond.constantLong RX9 117 (3600), Cond.methodLink RX9 210 yX9_findLines, Cond.instanceMethod yX9_findLines, Cond.selects RX9 yX9_findLines yX9_findLines, Cond.code yX9_findLines cX9_findLines 10 none, Cond.fieldLink RX9 123 "FeeRulesModel" "facts" "I", Cond.fieldLink RX9 16 "FeeRulesModel" "factHouse" "[I", Cond.fieldLink RX9 22 "FeeRulesModel" "factDay" "[I", Cond.fieldLink RX9 28 "FeeRulesModel" "factKnown" "[I", Cond.fieldLink RX9 19 "FeeRulesModel" "factKind" "[I", Cond.fieldLink RX9 46 "FeeRulesModel" "rule" "[Z", Cond.fieldLink RX9 50 "FeeRulesModel" "per" "[I", Cond.fieldLink RX9 87 "FeeRulesModel" "lineFact" "[I", Cond.fieldLink RX9 93 "FeeRulesModel" "lineEdition" "[I", Cond.constantLong RX9 115 (-1), Cond.fieldLink RX9 25 "FeeRulesModel" "factMeasure" "[I", Cond.methodLink RX9 193 yX9_isRelieved]
def wsX9_flat_r3 : List Cond := [Cond.instanceMethod yX9_isRelieved, Cond.selects RX9 yX9_isRelieved yX9_isRelieved, Cond.code yX9_isRelieved cX9_isRelieved 3 (some .boolean), Cond.fieldLink RX9 183 "FeeRulesModel" "reliefs" "I", Cond.fieldLink RX9 72 "FeeRulesModel" "reliefHouse" "[I", Cond.fieldLink RX9 75 "FeeRulesModel" "reliefKind" "[I", Cond.fieldLink RX9 78 "FeeRulesModel" "reliefFrom" "[I", Cond.fieldLink RX9 81 "FeeRulesModel" "reliefTo" "[I", Cond.methodLink RX9 196 yX9_editionOf, Cond.instanceMethod yX9_editionOf, Cond.selects RX9 yX9_editionOf yX9_editionOf, Cond.code yX9_editionOf cX9_editionOf 6 (some .int), Cond.fieldLink RX9 149 "FeeRulesModel" "editions" "I", Cond.fieldLink RX9 43 "FeeRulesModel" "known" "[I", Cond.fieldLink RX9 40 "FeeRulesModel" "from" "[I", Cond.methodLink RX9 200 yX9_feeOf, Cond.instanceMethod yX9_feeOf, Cond.selects RX9 yX9_feeOf yX9_feeOf, Cond.code yX9_feeOf cX9_feeOf 9 (some .long), Cond.fieldLink RX9 53 "FeeRulesModel" "price" "[I", Cond.fieldLink RX9 59 "FeeRulesModel" "steps" "[I", Cond.fieldLink RX9 62 "FeeRulesModel" "stepAt" "[I", Cond.fieldLink RX9 65 "FeeRulesModel" "stepPrice" "[I", Cond.fieldLink RX9 56 "FeeRulesModel" "most" "[I"]
def wsX9_flat : List Cond := .code yX9_flat cX9_flat 16 (some .long) :: ((wsX9_flat_r1 ++ (wsX9_flat_r2 ++ wsX9_flat_r3)) ++ wsX90)
def wsX9_issue_r1 : List Cond := [Cond.fieldLink RX9 84 "FeeRulesModel" "issued" "[J", Cond.methodLink RX9 230 yX9_bill, Cond.instanceMethod yX9_bill, Cond.selects RX9 yX9_bill yX9_bill, Cond.initialized RX9, Cond.code yX9_bill cX9_bill 8 (some .long), Cond.constantLong RX9 208 (-9223372036854775808), Cond.fieldLink RX9 190 "FeeRulesModel" "lines" "I", Cond.fieldLink RX9 96 "FeeRulesModel" "lineLacks" "[I", Cond.fieldLink RX9 90 "FeeRulesModel" "lineCents" "[J", Cond.fieldLink RX9 68 "FeeRulesModel" "caps" "[J", Cond.methodLink RX9 204 yX9_isAsked, Cond.instanceMethod yX9_isAsked, Cond.selects RX9 yX9_isAsked yX9_isAsked, Cond.code yX9_isAsked cX9_isAsked 5 (some .boolean), Cond.methodLink RX9 126 yX9_isHouse, Cond.instanceMethod yX9_isHouse, Cond.selects RX9 yX9_isHouse yX9_isHouse, Cond.code yX9_isHouse cX9_isHouse 2 (some .boolean), Cond.fieldLink RX9 119 "FeeRulesModel" "houses" "I", Cond.methodLink RX9 178 yX9_isMonth, Cond.static yX9_isMonth, Cond.code yX9_isMonth cX9_isMonth 1 (some .boolean), Cond.methodLink RX9 133 yX9_isDay]
def wsX9_issue_r2 : List Cond := [Cond.static yX9_isDay, Cond.code yX9_isDay cX9_isDay 2 (some .boolean), Cond.constantLong RX9 117 (3600), Cond.methodLink RX9 210 yX9_findLines, Cond.instanceMethod yX9_findLines, Cond.selects RX9 yX9_findLines yX9_findLines, Cond.code yX9_findLines cX9_findLines 10 none, Cond.fieldLink RX9 123 "FeeRulesModel" "facts" "I", Cond.fieldLink RX9 16 "FeeRulesModel" "factHouse" "[I", Cond.fieldLink RX9 22 "FeeRulesModel" "factDay" "[I", Cond.fieldLink RX9 28 "FeeRulesModel" "factKnown" "[I", Cond.fieldLink RX9 19 "FeeRulesModel" "factKind" "[I", Cond.fieldLink RX9 46 "FeeRulesModel" "rule" "[Z", Cond.fieldLink RX9 50 "FeeRulesModel" "per" "[I", Cond.fieldLink RX9 87 "FeeRulesModel" "lineFact" "[I", Cond.fieldLink RX9 93 "FeeRulesModel" "lineEdition" "[I", Cond.constantLong RX9 115 (-1), Cond.fieldLink RX9 25 "FeeRulesModel" "factMeasure" "[I", Cond.methodLink RX9 193 yX9_isRelieved, Cond.instanceMethod yX9_isRelieved, Cond.selects RX9 yX9_isRelieved yX9_isRelieved, Cond.code yX9_isRelieved cX9_isRelieved 3 (some .boolean), Cond.fieldLink RX9 183 "FeeRulesModel" "reliefs" "I", Cond.fieldLink RX9 72 "FeeRulesModel" "reliefHouse" "[I"]
def wsX9_issue_r3 : List Cond := [Cond.fieldLink RX9 75 "FeeRulesModel" "reliefKind" "[I", Cond.fieldLink RX9 78 "FeeRulesModel" "reliefFrom" "[I", Cond.fieldLink RX9 81 "FeeRulesModel" "reliefTo" "[I", Cond.methodLink RX9 196 yX9_editionOf, Cond.instanceMethod yX9_editionOf, Cond.selects RX9 yX9_editionOf yX9_editionOf, Cond.code yX9_editionOf cX9_editionOf 6 (some .int), Cond.fieldLink RX9 149 "FeeRulesModel" "editions" "I", Cond.fieldLink RX9 43 "FeeRulesModel" "known" "[I", Cond.fieldLink RX9 40 "FeeRulesModel" "from" "[I", Cond.methodLink RX9 200 yX9_feeOf, Cond.instanceMethod yX9_feeOf, Cond.selects RX9 yX9_feeOf yX9_feeOf, Cond.code yX9_feeOf cX9_feeOf 9 (some .long), Cond.fieldLink RX9 53 "FeeRulesModel" "price" "[I", Cond.fieldLink RX9 59 "FeeRulesModel" "steps" "[I", Cond.fieldLink RX9 62 "FeeRulesModel" "stepAt" "[I", Cond.fieldLink RX9 65 "FeeRulesModel" "stepPrice" "[I", Cond.fieldLink RX9 56 "FeeRulesModel" "most" "[I"]
def wsX9_issue : List Cond := .code yX9_issue cX9_issue 9 (some .long) :: ((wsX9_issue_r1 ++ (wsX9_issue_r2 ++ wsX9_issue_r3)) ++ wsX90)
def wsX9_issued : List Cond := .code yX9_issued cX9_issued 3 (some .long) :: ([.fieldLink RX9 84 "FeeRulesModel" "issued" "[J", .constantLong RX9 208 (-9223372036854775808), .methodLink RX9 126 yX9_isHouse, .instanceMethod yX9_isHouse, .selects RX9 yX9_isHouse yX9_isHouse, .initialized RX9, .code yX9_isHouse cX9_isHouse 2 (some .boolean), .fieldLink RX9 119 "FeeRulesModel" "houses" "I", .methodLink RX9 178 yX9_isMonth, .static yX9_isMonth, .code yX9_isMonth cX9_isMonth 1 (some .boolean)] ++ wsX90)
def wsX9_reverse : List Cond := .code yX9_reverse cX9_reverse 5 (some .long) :: ([.constantLong RX9 208 (-9223372036854775808), .fieldLink RX9 84 "FeeRulesModel" "issued" "[J", .methodLink RX9 126 yX9_isHouse, .instanceMethod yX9_isHouse, .selects RX9 yX9_isHouse yX9_isHouse, .initialized RX9, .code yX9_isHouse cX9_isHouse 2 (some .boolean), .fieldLink RX9 119 "FeeRulesModel" "houses" "I", .methodLink RX9 178 yX9_isMonth, .static yX9_isMonth, .code yX9_isMonth cX9_isMonth 1 (some .boolean)] ++ wsX90)
def wsL_law_r1 : List Cond := [Cond.classLink RL 7 RX8, Cond.instantiable RX8 8, Cond.initialized RX8, Cond.classLink RL 10 RX9, Cond.instantiable RX9 43, Cond.initialized RX9, Cond.constantLong RL 18 (4294967295), Cond.methodLink RL 9 yX8_init, Cond.instanceMethod yX8_init, Cond.code yX8_init cX8_init 2 none, Cond.methodLink RX8 3 objectInit, Cond.instanceMethod objectInit, Cond.code objectInit ⟨#[0xb1]⟩ 1 none, Cond.classLink RX8 9 RX3, Cond.instantiable RX3 4, Cond.initialized RX3, Cond.fieldLink RX8 12 "FeeRules" "houses" "LFeeRules$Houses;", Cond.classLink RX8 16 RX1, Cond.instantiable RX1 6, Cond.initialized RX1, Cond.fieldLink RX8 19 "FeeRules" "facts" "LFeeRules$Facts;", Cond.classLink RX8 23 RX7, Cond.instantiable RX7 5, Cond.initialized RX7]
def wsL_law_r2 : List Cond := [Cond.fieldLink RX8 26 "FeeRules" "text" "LFeeRules$Text;", Cond.classLink RX8 30 RX0, Cond.instantiable RX0 12, Cond.initialized RX0, Cond.fieldLink RX8 33 "FeeRules" "editions" "LFeeRules$Editions;", Cond.classLink RX8 37 RX6, Cond.instantiable RX6 2, Cond.initialized RX6, Cond.fieldLink RX8 42 "FeeRules" "reader" "LFeeRules$RuleReader;", Cond.classLink RX8 46 RX4, Cond.instantiable RX4 5, Cond.initialized RX4, Cond.fieldLink RX8 49 "FeeRules" "reliefs" "LFeeRules$Reliefs;", Cond.classLink RX8 53 RX5, Cond.instantiable RX5 1, Cond.initialized RX5, Cond.fieldLink RX8 58 "FeeRules" "monthCaps" "LFeeRules$Row;", Cond.constantLong RX8 62 (-1), Cond.classLink RX8 68 RX2, Cond.instantiable RX2 7, Cond.initialized RX2, Cond.fieldLink RX8 71 "FeeRules" "held" "LFeeRules$HeldLines;", Cond.instanceMethod yX3_init, Cond.code yX3_init cX3_init 1 none]
def wsL_law_r3 : List Cond := [Cond.methodLink RX3 3 objectInit, Cond.classLink RX3 9 RX5, Cond.fieldLink RX3 14 "FeeRules$Houses" "flats" "LFeeRules$Row;", Cond.fieldLink RX3 20 "FeeRules$Houses" "weights" "LFeeRules$Row;", Cond.fieldLink RX3 23 "FeeRules$Houses" "issuedCents" "LFeeRules$Row;", Cond.methodLink RX3 11 yX5_init, Cond.instanceMethod yX5_init, Cond.code yX5_init cX5_init 2 none, Cond.methodLink RX5 1 objectInit, Cond.arrayClass .long, Cond.fieldLink RX5 7 "FeeRules$Row" "cells" "[J", Cond.instanceMethod yX1_init, Cond.code yX1_init cX1_init 1 none, Cond.methodLink RX1 3 objectInit, Cond.classLink RX1 9 RX5, Cond.fieldLink RX1 14 "FeeRules$Facts" "houses" "LFeeRules$Row;", Cond.fieldLink RX1 20 "FeeRules$Facts" "kinds" "LFeeRules$Row;", Cond.fieldLink RX1 23 "FeeRules$Facts" "days" "LFeeRules$Row;", Cond.fieldLink RX1 26 "FeeRules$Facts" "measures" "LFeeRules$Row;", Cond.fieldLink RX1 29 "FeeRules$Facts" "knownDays" "LFeeRules$Row;", Cond.methodLink RX1 11 yX5_init, Cond.instanceMethod yX7_init, Cond.code yX7_init cX7_init 1 none, Cond.methodLink RX7 3 objectInit]
def wsL_law_r4 : List Cond := [Cond.classLink RX7 9 RX5, Cond.fieldLink RX7 14 "FeeRules$Text" "bytes" "LFeeRules$Row;", Cond.methodLink RX7 11 yX5_init, Cond.instanceMethod yX0_init, Cond.code yX0_init cX0_init 1 none, Cond.methodLink RX0 3 objectInit, Cond.classLink RX0 9 RX5, Cond.fieldLink RX0 14 "FeeRules$Editions" "fromDays" "LFeeRules$Row;", Cond.fieldLink RX0 20 "FeeRules$Editions" "knownDays" "LFeeRules$Row;", Cond.fieldLink RX0 23 "FeeRules$Editions" "ruleCounts" "LFeeRules$Row;", Cond.fieldLink RX0 26 "FeeRules$Editions" "pers" "LFeeRules$Row;", Cond.fieldLink RX0 29 "FeeRules$Editions" "prices" "LFeeRules$Row;", Cond.fieldLink RX0 32 "FeeRules$Editions" "caps" "LFeeRules$Row;", Cond.fieldLink RX0 35 "FeeRules$Editions" "firstSteps" "LFeeRules$Row;", Cond.fieldLink RX0 38 "FeeRules$Editions" "stepCounts" "LFeeRules$Row;", Cond.fieldLink RX0 41 "FeeRules$Editions" "stepStarts" "LFeeRules$Row;", Cond.fieldLink RX0 44 "FeeRules$Editions" "stepPrices" "LFeeRules$Row;", Cond.methodLink RX0 11 yX5_init, Cond.methodLink RX8 39 yX6_init, Cond.instanceMethod yX6_init, Cond.code yX6_init cX6_init 3 none, Cond.methodLink RX6 3 objectInit, Cond.fieldLink RX6 9 "FeeRules$RuleReader" "text" "LFeeRules$Text;", Cond.fieldLink RX6 15 "FeeRules$RuleReader" "editions" "LFeeRules$Editions;"]
def wsL_law_r5 : List Cond := [Cond.instanceMethod yX4_init, Cond.code yX4_init cX4_init 1 none, Cond.methodLink RX4 3 objectInit, Cond.classLink RX4 9 RX5, Cond.fieldLink RX4 14 "FeeRules$Reliefs" "houses" "LFeeRules$Row;", Cond.fieldLink RX4 20 "FeeRules$Reliefs" "kinds" "LFeeRules$Row;", Cond.fieldLink RX4 23 "FeeRules$Reliefs" "firstDays" "LFeeRules$Row;", Cond.fieldLink RX4 26 "FeeRules$Reliefs" "lastDays" "LFeeRules$Row;", Cond.methodLink RX4 11 yX5_init, Cond.methodLink RX8 55 yX5_init, Cond.methodLink RX8 64 yX5_set, Cond.instanceMethod yX5_set, Cond.selects RX5 yX5_set yX5_set, Cond.code yX5_set cX5_set 4 none, Cond.instanceMethod yX2_init, Cond.code yX2_init cX2_init 1 none, Cond.methodLink RX2 3 objectInit, Cond.classLink RX2 9 RX5, Cond.fieldLink RX2 14 "FeeRules$HeldLines" "facts" "LFeeRules$Row;", Cond.fieldLink RX2 20 "FeeRules$HeldLines" "cents" "LFeeRules$Row;", Cond.fieldLink RX2 23 "FeeRules$HeldLines" "editions" "LFeeRules$Row;", Cond.fieldLink RX2 26 "FeeRules$HeldLines" "lacks" "LFeeRules$Row;", Cond.fieldLink RX2 29 "FeeRules$HeldLines" "printed" "LFeeRules$Row;", Cond.methodLink RX2 11 yX5_init]
def wsL_law_r6 : List Cond := [Cond.methodLink RL 12 yX9_init, Cond.instanceMethod yX9_init, Cond.code yX9_init cX9_init 2 none, Cond.methodLink RX9 1 objectInit, Cond.arrayClass .int, Cond.fieldLink RX9 7 "FeeRulesModel" "flats" "[I", Cond.fieldLink RX9 13 "FeeRulesModel" "weights" "[I", Cond.fieldLink RX9 16 "FeeRulesModel" "factHouse" "[I", Cond.fieldLink RX9 19 "FeeRulesModel" "factKind" "[I", Cond.fieldLink RX9 22 "FeeRulesModel" "factDay" "[I", Cond.fieldLink RX9 25 "FeeRulesModel" "factMeasure" "[I", Cond.fieldLink RX9 28 "FeeRulesModel" "factKnown" "[I", Cond.fieldLink RX9 31 "FeeRulesModel" "text" "[I", Cond.fieldLink RX9 34 "FeeRulesModel" "begin" "[I", Cond.fieldLink RX9 37 "FeeRulesModel" "end" "[I", Cond.fieldLink RX9 40 "FeeRulesModel" "from" "[I", Cond.fieldLink RX9 43 "FeeRulesModel" "known" "[I", Cond.arrayClass .boolean, Cond.fieldLink RX9 46 "FeeRulesModel" "rule" "[Z", Cond.fieldLink RX9 50 "FeeRulesModel" "per" "[I", Cond.fieldLink RX9 53 "FeeRulesModel" "price" "[I", Cond.fieldLink RX9 56 "FeeRulesModel" "most" "[I", Cond.fieldLink RX9 59 "FeeRulesModel" "steps" "[I", Cond.fieldLink RX9 62 "FeeRulesModel" "stepAt" "[I"]
def wsL_law_r7 : List Cond := [Cond.fieldLink RX9 65 "FeeRulesModel" "stepPrice" "[I", Cond.fieldLink RX9 68 "FeeRulesModel" "caps" "[J", Cond.fieldLink RX9 72 "FeeRulesModel" "reliefHouse" "[I", Cond.fieldLink RX9 75 "FeeRulesModel" "reliefKind" "[I", Cond.fieldLink RX9 78 "FeeRulesModel" "reliefFrom" "[I", Cond.fieldLink RX9 81 "FeeRulesModel" "reliefTo" "[I", Cond.fieldLink RX9 84 "FeeRulesModel" "issued" "[J", Cond.fieldLink RX9 87 "FeeRulesModel" "lineFact" "[I", Cond.fieldLink RX9 90 "FeeRulesModel" "lineCents" "[J", Cond.fieldLink RX9 93 "FeeRulesModel" "lineEdition" "[I", Cond.fieldLink RX9 96 "FeeRulesModel" "lineLacks" "[I", Cond.fieldLink RX9 99 "FeeRulesModel" "heldFact" "[I", Cond.fieldLink RX9 102 "FeeRulesModel" "heldCents" "[J", Cond.fieldLink RX9 105 "FeeRulesModel" "heldEdition" "[I", Cond.fieldLink RX9 108 "FeeRulesModel" "heldLacks" "[I", Cond.arrayClass .byte, Cond.fieldLink RX9 111 "FeeRulesModel" "writing" "[B", Cond.constantLong RX9 115 (-1), Cond.methodLink RL 13 yX8_house, Cond.instanceMethod yX8_house, Cond.selects RX8 yX8_house yX8_house, Cond.code yX8_house cX8_house 2 (some .int), Cond.methodLink RX8 75 yX3_add, Cond.instanceMethod yX3_add]
def wsL_law_r8 : List Cond := [Cond.selects RX3 yX3_add yX3_add, Cond.code yX3_add cX3_add 4 (some .int), Cond.fieldLink RX3 26 "FeeRules$Houses" "count" "I", Cond.methodLink RX3 30 yX5_set, Cond.methodLink RX3 34 yX3_setWeight, Cond.instanceMethod yX3_setWeight, Cond.selects RX3 yX3_setWeight yX3_setWeight, Cond.code yX3_setWeight cX3_setWeight 4 none, Cond.methodLink RL 17 yX9_house, Cond.instanceMethod yX9_house, Cond.selects RX9 yX9_house yX9_house, Cond.code yX9_house cX9_house 2 (some .int), Cond.fieldLink RX9 119 "FeeRulesModel" "houses" "I", Cond.methodLink RL 20 yX8_fact, Cond.instanceMethod yX8_fact, Cond.selects RX8 yX8_fact yX8_fact, Cond.code yX8_fact cX8_fact 9 (some .int), Cond.constantLong RX8 90 (1000000), Cond.methodLink RX8 79 yX3_has, Cond.instanceMethod yX3_has, Cond.selects RX3 yX3_has yX3_has, Cond.code yX3_has cX3_has 2 (some .boolean), Cond.methodLink RX8 83 yX8_isKind, Cond.static yX8_isKind]
def wsL_law_r9 : List Cond := [Cond.code yX8_isKind cX8_isKind 1 (some .boolean), Cond.methodLink RX8 86 yX8_isDay, Cond.static yX8_isDay, Cond.code yX8_isDay cX8_isDay 2 (some .boolean), Cond.constantLong RX8 191 (3600), Cond.methodLink RX8 92 yX1_add, Cond.instanceMethod yX1_add, Cond.selects RX1 yX1_add yX1_add, Cond.code yX1_add cX1_add 10 (some .int), Cond.fieldLink RX1 32 "FeeRules$Facts" "count" "I", Cond.methodLink RX1 36 yX5_set, Cond.methodLink RL 24 yX9_fact, Cond.instanceMethod yX9_fact, Cond.selects RX9 yX9_fact yX9_fact, Cond.code yX9_fact cX9_fact 9 (some .int), Cond.fieldLink RX9 123 "FeeRulesModel" "facts" "I", Cond.constantLong RX9 137 (1000000), Cond.methodLink RX9 126 yX9_isHouse, Cond.instanceMethod yX9_isHouse, Cond.selects RX9 yX9_isHouse yX9_isHouse, Cond.code yX9_isHouse cX9_isHouse 2 (some .boolean), Cond.methodLink RX9 130 yX9_isKind, Cond.static yX9_isKind, Cond.code yX9_isKind cX9_isKind 1 (some .boolean)]
def wsL_law_r10 : List Cond := [Cond.methodLink RX9 133 yX9_isDay, Cond.static yX9_isDay, Cond.code yX9_isDay cX9_isDay 2 (some .boolean), Cond.constantLong RX9 117 (3600), Cond.methodLink RL 25 yX8_unit, Cond.instanceMethod yX8_unit, Cond.selects RX8 yX8_unit yX8_unit, Cond.code yX8_unit cX8_unit 2 (some .boolean), Cond.methodLink RX8 95 yX7_add, Cond.instanceMethod yX7_add, Cond.selects RX7 yX7_add yX7_add, Cond.code yX7_add cX7_add 2 (some .boolean), Cond.fieldLink RX7 20 "FeeRules$Text" "length" "I", Cond.methodLink RX7 24 yX5_set, Cond.methodLink RL 29 yX9_unit, Cond.instanceMethod yX9_unit, Cond.selects RX9 yX9_unit yX9_unit, Cond.code yX9_unit cX9_unit 2 (some .boolean), Cond.fieldLink RX9 139 "FeeRulesModel" "typed" "I", Cond.methodLink RL 30 yX8_read, Cond.instanceMethod yX8_read, Cond.selects RX8 yX8_read yX8_read, Cond.code yX8_read cX8_read 6 (some .int), Cond.methodLink RX8 97 yX0_isFull]
def wsL_law_r11 : List Cond := [Cond.instanceMethod yX0_isFull, Cond.selects RX0 yX0_isFull yX0_isFull, Cond.code yX0_isFull cX0_isFull 1 (some .boolean), Cond.fieldLink RX0 47 "FeeRules$Editions" "count" "I", Cond.methodLink RX8 101 yX6_readRules, Cond.instanceMethod yX6_readRules, Cond.selects RX6 yX6_readRules yX6_readRules, Cond.code yX6_readRules cX6_readRules 2 (some .int), Cond.methodLink RX6 19 yX0_startDraft, Cond.instanceMethod yX0_startDraft, Cond.selects RX0 yX0_startDraft yX0_startDraft, Cond.code yX0_startDraft cX0_startDraft 2 none, Cond.fieldLink RX0 55 "FeeRules$Editions" "draftSteps" "I", Cond.constantLong RX0 62 (-1), Cond.methodLink RX0 58 yX0_cellOf, Cond.static yX0_cellOf, Cond.code yX0_cellOf cX0_cellOf 2 (some .int), Cond.methodLink RX0 64 yX5_set, Cond.methodLink RX6 24 yX7_toFirstWord, Cond.instanceMethod yX7_toFirstWord, Cond.selects RX7 yX7_toFirstWord yX7_toFirstWord, Cond.code yX7_toFirstWord cX7_toFirstWord 1 none, Cond.fieldLink RX7 28 "FeeRules$Text" "wordEnd" "I", Cond.fieldLink RX7 34 "FeeRules$Text" "wordNumber" "I"]
def wsL_law_r12 : List Cond := [Cond.methodLink RX7 31 yX7_toNextWord, Cond.instanceMethod yX7_toNextWord, Cond.selects RX7 yX7_toNextWord yX7_toNextWord, Cond.code yX7_toNextWord cX7_toNextWord 1 none, Cond.fieldLink RX7 37 "FeeRules$Text" "wordStart" "I", Cond.methodLink RX7 40 yX5_get, Cond.instanceMethod yX5_get, Cond.selects RX5 yX5_get yX5_get, Cond.code yX5_get cX5_get 2 (some .long), Cond.methodLink RX7 44 yX7_isBlank, Cond.static yX7_isBlank, Cond.code yX7_isBlank cX7_isBlank 2 (some .boolean), Cond.constantLong RX7 48 (32), Cond.constantLong RX7 50 (10), Cond.methodLink RX6 29 yX7_hasWord, Cond.instanceMethod yX7_hasWord, Cond.selects RX7 yX7_hasWord yX7_hasWord, Cond.code yX7_hasWord cX7_hasWord 1 (some .boolean), Cond.methodLink RX6 33 yX6_takeRule, Cond.instanceMethod yX6_takeRule, Cond.selects RX6 yX6_takeRule yX6_takeRule, Cond.code yX6_takeRule cX6_takeRule 4 (some .boolean), Cond.constantLong RX6 50 (6), Cond.methodLink RX6 42 yX6_takeWord]
def wsL_law_r13 : List Cond := [Cond.instanceMethod yX6_takeWord, Cond.selects RX6 yX6_takeWord yX6_takeWord, Cond.code yX6_takeWord cX6_takeWord 2 (some .boolean), Cond.methodLink RX6 93 yX7_isWord, Cond.instanceMethod yX7_isWord, Cond.selects RX7 yX7_isWord yX7_isWord, Cond.code yX7_isWord cX7_isWord 3 (some .boolean), Cond.methodLink RX7 52 yJ0_length_8abf5, Cond.instanceMethod yJ0_length_8abf5, Cond.selects RJ0 yJ0_length_8abf5 yJ0_length_8abf5, Cond.initialized RJ0, Cond.code yJ0_length_8abf5 cJ0_length_8abf5 1 (some .int), Cond.fieldLink RJ0 9 "java/lang/String" "value" "[B", Cond.methodLink RJ0 335 yJ0_coder_7d493, Cond.instanceMethod yJ0_coder_7d493, Cond.selects RJ0 yJ0_coder_7d493 yJ0_coder_7d493, Cond.code yJ0_coder_7d493 cJ0_coder_7d493 1 (some .byte), Cond.fieldLink RJ0 38 "java/lang/String" "COMPACT_STRINGS" "Z", Cond.fieldLink RJ0 15 "java/lang/String" "coder" "B", Cond.methodLink RX7 57 yJ0_charAt_5068e, Cond.instanceMethod yJ0_charAt_5068e, Cond.selects RJ0 yJ0_charAt_5068e yJ0_charAt_5068e, Cond.code yJ0_charAt_5068e cJ0_charAt_5068e 2 (some .char), Cond.methodLink RJ0 492 yJ0_isLatin1_aae02]
def wsL_law_r14 : List Cond := [Cond.instanceMethod yJ0_isLatin1_aae02, Cond.selects RJ0 yJ0_isLatin1_aae02 yJ0_isLatin1_aae02, Cond.code yJ0_isLatin1_aae02 cJ0_isLatin1_aae02 1 (some .boolean), Cond.methodLink RJ0 495 yJ1_charAt_3b067, Cond.static yJ1_charAt_3b067, Cond.initialized RJ1, Cond.code yJ1_charAt_3b067 cJ1_charAt_3b067 2 (some .char), Cond.methodLink RJ1 9 yJ0_checkIndex_df160, Cond.static yJ0_checkIndex_df160, Cond.code yJ0_checkIndex_df160 cJ0_checkIndex_df160 2 none, Cond.fieldLink RJ0 1053 "jdk/internal/util/Preconditions" "SIOOBE_FORMATTER" "Ljava/util/function/BiFunction;", Cond.methodLink RJ0 1059 yJ3_checkIndex_8e157, Cond.static yJ3_checkIndex_8e157, Cond.initialized RJ3, Cond.code yJ3_checkIndex_8e157 cJ3_checkIndex_8e157 3 (some .int), Cond.methodLink RJ0 498 yJ2_charAt_3b067, Cond.static yJ2_charAt_3b067, Cond.initialized RJ2, Cond.code yJ2_charAt_3b067 cJ2_charAt_3b067 2 (some .char), Cond.methodLink RJ2 67 yJ2_checkIndex_2214a, Cond.static yJ2_checkIndex_2214a, Cond.code yJ2_checkIndex_2214a cJ2_checkIndex_2214a 2 none, Cond.methodLink RJ2 48 yJ2_length_9d52b, Cond.static yJ2_length_9d52b]
def wsL_law_r15 : List Cond := [Cond.code yJ2_length_9d52b cJ2_length_9d52b 1 (some .int), Cond.methodLink RJ2 414 yJ0_checkIndex_df160, Cond.methodLink RJ2 71 yJ2_getChar_3b067, Cond.static yJ2_getChar_3b067, Cond.code yJ2_getChar_3b067 cJ2_getChar_3b067 2 (some .char), Cond.fieldLink RJ2 44 "java/lang/StringUTF16" "$assertionsDisabled" "Z", Cond.fieldLink RJ2 59 "java/lang/StringUTF16" "HI_BYTE_SHIFT" "I", Cond.fieldLink RJ2 63 "java/lang/StringUTF16" "LO_BYTE_SHIFT" "I", Cond.methodLink RX6 56 yX7_toNextWord, Cond.methodLink RX6 46 yX7_asNumber, Cond.instanceMethod yX7_asNumber, Cond.selects RX7 yX7_asNumber yX7_asNumber, Cond.code yX7_asNumber cX7_asNumber 6 (some .long), Cond.constantLong RX7 65 (-1), Cond.constantLong RX7 67 (48), Cond.constantLong RX7 69 (9), Cond.methodLink RX7 61 yX7_hasWord, Cond.methodLink RX6 52 yX0_draftHasRule, Cond.instanceMethod yX0_draftHasRule, Cond.selects RX0 yX0_draftHasRule yX0_draftHasRule, Cond.code yX0_draftHasRule cX0_draftHasRule 2 (some .boolean), Cond.methodLink RX0 51 yX5_get, Cond.methodLink RX6 59 yX6_takePrice, Cond.instanceMethod yX6_takePrice]
def wsL_law_r16 : List Cond := [Cond.selects RX6 yX6_takePrice yX6_takePrice, Cond.code yX6_takePrice cX6_takePrice 6 (some .boolean), Cond.constantLong RX6 70 (-1), Cond.methodLink RX6 72 yX6_takeNumberAbove, Cond.instanceMethod yX6_takeNumberAbove, Cond.selects RX6 yX6_takeNumberAbove yX6_takeNumberAbove, Cond.code yX6_takeNumberAbove cX6_takeNumberAbove 5 (some .long), Cond.methodLink RX6 78 yX0_tellRule, Cond.instanceMethod yX0_tellRule, Cond.selects RX0 yX0_tellRule yX0_tellRule, Cond.code yX0_tellRule cX0_tellRule 7 none, Cond.methodLink RX6 62 yX6_takeSteps, Cond.instanceMethod yX6_takeSteps, Cond.selects RX6 yX6_takeSteps yX6_takeSteps, Cond.code yX6_takeSteps cX6_takeSteps 9 (some .boolean), Cond.methodLink RX6 84 yX0_tellStep, Cond.instanceMethod yX0_tellStep, Cond.selects RX0 yX0_tellStep yX0_tellStep, Cond.code yX0_tellStep cX0_tellStep 8 none, Cond.methodLink RX6 65 yX6_takeCap, Cond.instanceMethod yX6_takeCap, Cond.selects RX6 yX6_takeCap yX6_takeCap, Cond.code yX6_takeCap cX6_takeCap 4 (some .boolean), Cond.methodLink RX6 89 yX0_tellCap]
def wsL_law_r17 : List Cond := [Cond.instanceMethod yX0_tellCap, Cond.selects RX0 yX0_tellCap yX0_tellCap, Cond.code yX0_tellCap cX0_tellCap 4 none, Cond.methodLink RX6 36 yX7_numberOfWord, Cond.instanceMethod yX7_numberOfWord, Cond.selects RX7 yX7_numberOfWord yX7_numberOfWord, Cond.code yX7_numberOfWord cX7_numberOfWord 1 (some .int), Cond.methodLink RX8 105 yX0_keepDraft, Cond.instanceMethod yX0_keepDraft, Cond.selects RX0 yX0_keepDraft yX0_keepDraft, Cond.code yX0_keepDraft cX0_keepDraft 6 none, Cond.methodLink RX8 109 yX7_clear, Cond.instanceMethod yX7_clear, Cond.selects RX7 yX7_clear yX7_clear, Cond.code yX7_clear cX7_clear 1 none, Cond.methodLink RL 34 yX9_read, Cond.instanceMethod yX9_read, Cond.selects RX9 yX9_read yX9_read, Cond.code yX9_read cX9_read 6 (some .int), Cond.fieldLink RX9 149 "FeeRulesModel" "editions" "I", Cond.methodLink RX9 171 yX9_findWords, Cond.instanceMethod yX9_findWords, Cond.selects RX9 yX9_findWords yX9_findWords, Cond.code yX9_findWords cX9_findWords 4 none]
def wsL_law_r18 : List Cond := [Cond.fieldLink RX9 142 "FeeRulesModel" "words" "I", Cond.methodLink RX9 174 yX9_rules, Cond.instanceMethod yX9_rules, Cond.selects RX9 yX9_rules yX9_rules, Cond.code yX9_rules cX9_rules 9 (some .int), Cond.methodLink RX9 152 yX9_isKindWord, Cond.instanceMethod yX9_isKindWord, Cond.selects RX9 yX9_isKindWord yX9_isKindWord, Cond.code yX9_isKindWord cX9_isKindWord 2 (some .boolean), Cond.methodLink RX9 145 yX9_is, Cond.instanceMethod yX9_is, Cond.selects RX9 yX9_is yX9_is, Cond.code yX9_is cX9_is 10 (some .boolean), Cond.methodLink RX9 155 yX9_number, Cond.instanceMethod yX9_number, Cond.selects RX9 yX9_number yX9_number, Cond.code yX9_number cX9_number 4 (some .int), Cond.methodLink RX9 159 yX9_isPer, Cond.instanceMethod yX9_isPer, Cond.selects RX9 yX9_isPer yX9_isPer, Cond.code yX9_isPer cX9_isPer 2 (some .boolean), Cond.methodLink RX9 162 yX9_isPrice, Cond.instanceMethod yX9_isPrice, Cond.selects RX9 yX9_isPrice yX9_isPrice]
def wsL_law_r19 : List Cond := [Cond.code yX9_isPrice cX9_isPrice 2 (some .boolean), Cond.methodLink RX9 165 yX9_isStep, Cond.instanceMethod yX9_isStep, Cond.selects RX9 yX9_isStep yX9_isStep, Cond.code yX9_isStep cX9_isStep 2 (some .boolean), Cond.methodLink RX9 168 yX9_isCap, Cond.instanceMethod yX9_isCap, Cond.selects RX9 yX9_isCap yX9_isCap, Cond.code yX9_isCap cX9_isCap 2 (some .boolean), Cond.methodLink RL 35 yX8_edition, Cond.instanceMethod yX8_edition, Cond.selects RX8 yX8_edition yX8_edition, Cond.code yX8_edition cX8_edition 3 (some .int), Cond.methodLink RX8 112 yX0_has, Cond.instanceMethod yX0_has, Cond.selects RX0 yX0_has yX0_has, Cond.code yX0_has cX0_has 2 (some .boolean), Cond.methodLink RX8 113 yX0_actsFrom, Cond.instanceMethod yX0_actsFrom, Cond.selects RX0 yX0_actsFrom yX0_actsFrom, Cond.code yX0_actsFrom cX0_actsFrom 2 (some .long), Cond.methodLink RX8 117 yX0_knownFrom, Cond.instanceMethod yX0_knownFrom, Cond.selects RX0 yX0_knownFrom yX0_knownFrom]
def wsL_law_r20 : List Cond := [Cond.code yX0_knownFrom cX0_knownFrom 2 (some .long), Cond.methodLink RX8 120 yX0_ruleCount, Cond.instanceMethod yX0_ruleCount, Cond.selects RX0 yX0_ruleCount yX0_ruleCount, Cond.code yX0_ruleCount cX0_ruleCount 2 (some .long), Cond.methodLink RL 39 yX9_edition, Cond.instanceMethod yX9_edition, Cond.selects RX9 yX9_edition yX9_edition, Cond.code yX9_edition cX9_edition 5 (some .int), Cond.methodLink RL 40 yX8_cap, Cond.instanceMethod yX8_cap, Cond.selects RX8 yX8_cap yX8_cap, Cond.code yX8_cap cX8_cap 4 (some .boolean), Cond.constantLong RX8 126 (1000000000000), Cond.methodLink RX8 123 yX8_isMonth, Cond.static yX8_isMonth, Cond.code yX8_isMonth cX8_isMonth 1 (some .boolean), Cond.methodLink RL 44 yX9_cap, Cond.instanceMethod yX9_cap, Cond.selects RX9 yX9_cap yX9_cap, Cond.code yX9_cap cX9_cap 4 (some .boolean), Cond.constantLong RX9 181 (1000000000000), Cond.methodLink RX9 178 yX9_isMonth, Cond.static yX9_isMonth]
def wsL_law_r21 : List Cond := [Cond.code yX9_isMonth cX9_isMonth 1 (some .boolean), Cond.methodLink RL 45 yX8_relief, Cond.instanceMethod yX8_relief, Cond.selects RX8 yX8_relief yX8_relief, Cond.code yX8_relief cX8_relief 7 (some .boolean), Cond.methodLink RX8 128 yX4_add, Cond.instanceMethod yX4_add, Cond.selects RX4 yX4_add yX4_add, Cond.code yX4_add cX4_add 7 (some .boolean), Cond.fieldLink RX4 29 "FeeRules$Reliefs" "count" "I", Cond.methodLink RX4 33 yX5_set, Cond.methodLink RL 49 yX9_relief, Cond.instanceMethod yX9_relief, Cond.selects RX9 yX9_relief yX9_relief, Cond.code yX9_relief cX9_relief 7 (some .boolean), Cond.fieldLink RX9 183 "FeeRulesModel" "reliefs" "I", Cond.methodLink RL 50 yX8_weight, Cond.instanceMethod yX8_weight, Cond.selects RX8 yX8_weight yX8_weight, Cond.code yX8_weight cX8_weight 4 (some .boolean), Cond.methodLink RX8 131 yX3_hasFlat, Cond.instanceMethod yX3_hasFlat, Cond.selects RX3 yX3_hasFlat yX3_hasFlat, Cond.code yX3_hasFlat cX3_hasFlat 3 (some .boolean)]
def wsL_law_r22 : List Cond := [Cond.methodLink RX3 38 yX3_has, Cond.methodLink RX3 42 yX5_get, Cond.methodLink RX8 135 yX3_setWeight, Cond.methodLink RL 54 yX9_weight, Cond.instanceMethod yX9_weight, Cond.selects RX9 yX9_weight yX9_weight, Cond.code yX9_weight cX9_weight 4 (some .boolean), Cond.methodLink RX9 186 yX9_isFlat, Cond.instanceMethod yX9_isFlat, Cond.selects RX9 yX9_isFlat yX9_isFlat, Cond.code yX9_isFlat cX9_isFlat 3 (some .boolean), Cond.methodLink RL 55 yX8_bill, Cond.instanceMethod yX8_bill, Cond.selects RX8 yX8_bill yX8_bill, Cond.code yX8_bill cX8_bill 5 (some .long), Cond.methodLink RX8 139 yX8_billOf, Cond.instanceMethod yX8_billOf, Cond.selects RX8 yX8_billOf yX8_billOf, Cond.code yX8_billOf cX8_billOf 10 (some .long), Cond.constantLong RX8 178 (-9223372036854775808), Cond.methodLink RX8 143 yX8_isAskable, Cond.instanceMethod yX8_isAskable, Cond.selects RX8 yX8_isAskable yX8_isAskable, Cond.code yX8_isAskable cX8_isAskable 5 (some .boolean)]
def wsL_law_r23 : List Cond := [Cond.methodLink RX8 148 yX1_count, Cond.instanceMethod yX1_count, Cond.selects RX1 yX1_count yX1_count, Cond.code yX1_count cX1_count 1 (some .int), Cond.methodLink RX8 151 yX1_isOf, Cond.instanceMethod yX1_isOf, Cond.selects RX1 yX1_isOf yX1_isOf, Cond.code yX1_isOf cX1_isOf 6 (some .boolean), Cond.constantLong RX1 44 (30), Cond.methodLink RX1 40 yX5_get, Cond.methodLink RX8 193 yX8_editionOf, Cond.instanceMethod yX8_editionOf, Cond.selects RX8 yX8_editionOf yX8_editionOf, Cond.code yX8_editionOf cX8_editionOf 4 (some .int), Cond.methodLink RX8 226 yX8_isRelieved, Cond.instanceMethod yX8_isRelieved, Cond.selects RX8 yX8_isRelieved yX8_isRelieved, Cond.code yX8_isRelieved cX8_isRelieved 2 (some .boolean), Cond.methodLink RX8 217 yX1_houseOf, Cond.instanceMethod yX1_houseOf, Cond.selects RX1 yX1_houseOf yX1_houseOf, Cond.code yX1_houseOf cX1_houseOf 2 (some .int), Cond.methodLink RX8 207 yX1_kindOf, Cond.instanceMethod yX1_kindOf]
def wsL_law_r24 : List Cond := [Cond.selects RX1 yX1_kindOf yX1_kindOf, Cond.code yX1_kindOf cX1_kindOf 2 (some .int), Cond.methodLink RX8 220 yX1_dayOf, Cond.instanceMethod yX1_dayOf, Cond.selects RX1 yX1_dayOf yX1_dayOf, Cond.code yX1_dayOf cX1_dayOf 2 (some .long), Cond.methodLink RX8 223 yX4_relieve, Cond.instanceMethod yX4_relieve, Cond.selects RX4 yX4_relieve yX4_relieve, Cond.code yX4_relieve cX4_relieve 6 (some .boolean), Cond.methodLink RX4 37 yX5_get, Cond.methodLink RX8 229 yX0_latest, Cond.instanceMethod yX0_latest, Cond.selects RX0 yX0_latest yX0_latest, Cond.code yX0_latest cX0_latest 8 (some .int), Cond.methodLink RX8 196 yX8_centsOf, Cond.instanceMethod yX8_centsOf, Cond.selects RX8 yX8_centsOf yX8_centsOf, Cond.code yX8_centsOf cX8_centsOf 3 (some .long), Cond.methodLink RX8 210 yX1_measureOf, Cond.instanceMethod yX1_measureOf, Cond.selects RX1 yX1_measureOf yX1_measureOf, Cond.code yX1_measureOf cX1_measureOf 2 (some .long), Cond.methodLink RX8 233 yX0_feeOf]
def wsL_law_r25 : List Cond := [Cond.instanceMethod yX0_feeOf, Cond.selects RX0 yX0_feeOf yX0_feeOf, Cond.code yX0_feeOf cX0_feeOf 12 (some .long), Cond.methodLink RX0 72 yX0_hasRule, Cond.instanceMethod yX0_hasRule, Cond.selects RX0 yX0_hasRule yX0_hasRule, Cond.code yX0_hasRule cX0_hasRule 3 (some .boolean), Cond.methodLink RX0 68 yX0_has, Cond.methodLink RX0 76 yX0_priceOf, Cond.instanceMethod yX0_priceOf, Cond.selects RX0 yX0_priceOf yX0_priceOf, Cond.code yX0_priceOf cX0_priceOf 18 (some .long), Cond.methodLink RX8 198 yX5_get, Cond.methodLink RL 59 yX9_bill, Cond.instanceMethod yX9_bill, Cond.selects RX9 yX9_bill yX9_bill, Cond.code yX9_bill cX9_bill 8 (some .long), Cond.constantLong RX9 208 (-9223372036854775808), Cond.fieldLink RX9 190 "FeeRulesModel" "lines" "I", Cond.methodLink RX9 204 yX9_isAsked, Cond.instanceMethod yX9_isAsked, Cond.selects RX9 yX9_isAsked yX9_isAsked, Cond.code yX9_isAsked cX9_isAsked 5 (some .boolean), Cond.methodLink RX9 210 yX9_findLines]
def wsL_law_r26 : List Cond := [Cond.instanceMethod yX9_findLines, Cond.selects RX9 yX9_findLines yX9_findLines, Cond.code yX9_findLines cX9_findLines 10 none, Cond.methodLink RX9 193 yX9_isRelieved, Cond.instanceMethod yX9_isRelieved, Cond.selects RX9 yX9_isRelieved yX9_isRelieved, Cond.code yX9_isRelieved cX9_isRelieved 3 (some .boolean), Cond.methodLink RX9 196 yX9_editionOf, Cond.instanceMethod yX9_editionOf, Cond.selects RX9 yX9_editionOf yX9_editionOf, Cond.code yX9_editionOf cX9_editionOf 6 (some .int), Cond.methodLink RX9 200 yX9_feeOf, Cond.instanceMethod yX9_feeOf, Cond.selects RX9 yX9_feeOf yX9_feeOf, Cond.code yX9_feeOf cX9_feeOf 9 (some .long), Cond.methodLink RL 60 yX8_walk, Cond.instanceMethod yX8_walk, Cond.selects RX8 yX8_walk yX8_walk, Cond.code yX8_walk cX8_walk 6 (some .int), Cond.methodLink RX8 147 yX2_clear, Cond.instanceMethod yX2_clear, Cond.selects RX2 yX2_clear yX2_clear, Cond.code yX2_clear cX2_clear 1 none, Cond.fieldLink RX2 32 "FeeRules$HeldLines" "count" "I"]
def wsL_law_r27 : List Cond := [Cond.fieldLink RX2 36 "FeeRules$HeldLines" "printedCount" "I", Cond.methodLink RX8 155 yX8_hold, Cond.instanceMethod yX8_hold, Cond.selects RX8 yX8_hold yX8_hold, Cond.code yX8_hold cX8_hold 7 none, Cond.methodLink RX8 201 yX8_lackOf, Cond.instanceMethod yX8_lackOf, Cond.selects RX8 yX8_lackOf yX8_lackOf, Cond.code yX8_lackOf cX8_lackOf 5 (some .int), Cond.methodLink RX8 236 yX0_hasRule, Cond.methodLink RX8 204 yX2_add, Cond.instanceMethod yX2_add, Cond.selects RX2 yX2_add yX2_add, Cond.code yX2_add cX2_add 6 none, Cond.methodLink RX2 39 yX5_set, Cond.methodLink RX8 213 yX2_print, Cond.instanceMethod yX2_print, Cond.selects RX2 yX2_print yX2_print, Cond.code yX2_print cX2_print 6 none, Cond.constantLong RX2 54 (-1), Cond.methodLink RX2 47 yX2_printNumber, Cond.instanceMethod yX2_printNumber, Cond.selects RX2 yX2_printNumber yX2_printNumber, Cond.code yX2_printNumber cX2_printNumber 6 none]
def wsL_law_r28 : List Cond := [Cond.constantLong RX2 56 (10), Cond.methodLink RX2 51 yX2_printSign, Cond.instanceMethod yX2_printSign, Cond.selects RX2 yX2_printSign yX2_printSign, Cond.code yX2_printSign cX2_printSign 2 none, Cond.methodLink RX8 158 yX2_count, Cond.instanceMethod yX2_count, Cond.selects RX2 yX2_count yX2_count, Cond.code yX2_count cX2_count 1 (some .int), Cond.methodLink RL 64 yX9_walk, Cond.instanceMethod yX9_walk, Cond.selects RX9 yX9_walk yX9_walk, Cond.code yX9_walk cX9_walk 7 (some .int), Cond.fieldLink RX9 223 "FeeRulesModel" "held" "I", Cond.fieldLink RX9 214 "FeeRulesModel" "written" "I", Cond.methodLink RX9 226 yX9_putNumber, Cond.instanceMethod yX9_putNumber, Cond.selects RX9 yX9_putNumber yX9_putNumber, Cond.code yX9_putNumber cX9_putNumber 7 none, Cond.constantLong RX9 217 (10), Cond.methodLink RX9 219 yX9_put, Cond.instanceMethod yX9_put, Cond.selects RX9 yX9_put yX9_put, Cond.code yX9_put cX9_put 2 none]
def wsL_law_r29 : List Cond := [Cond.methodLink RL 65 yX8_line, Cond.instanceMethod yX8_line, Cond.selects RX8 yX8_line yX8_line, Cond.code yX8_line cX8_line 3 (some .long), Cond.methodLink RX8 159 yX2_has, Cond.instanceMethod yX2_has, Cond.selects RX2 yX2_has yX2_has, Cond.code yX2_has cX2_has 2 (some .boolean), Cond.methodLink RX8 160 yX2_factOf, Cond.instanceMethod yX2_factOf, Cond.selects RX2 yX2_factOf yX2_factOf, Cond.code yX2_factOf cX2_factOf 2 (some .long), Cond.methodLink RX2 43 yX5_get, Cond.methodLink RX8 163 yX2_centsOf, Cond.instanceMethod yX2_centsOf, Cond.selects RX2 yX2_centsOf yX2_centsOf, Cond.code yX2_centsOf cX2_centsOf 2 (some .long), Cond.methodLink RX8 166 yX2_editionOf, Cond.instanceMethod yX2_editionOf, Cond.selects RX2 yX2_editionOf yX2_editionOf, Cond.code yX2_editionOf cX2_editionOf 2 (some .long), Cond.methodLink RX8 169 yX2_lackOf, Cond.instanceMethod yX2_lackOf, Cond.selects RX2 yX2_lackOf yX2_lackOf]
def wsL_law_r30 : List Cond := [Cond.code yX2_lackOf cX2_lackOf 2 (some .long), Cond.methodLink RL 69 yX9_line, Cond.instanceMethod yX9_line, Cond.selects RX9 yX9_line yX9_line, Cond.code yX9_line cX9_line 3 (some .long), Cond.methodLink RL 70 yX8_open, Cond.instanceMethod yX8_open, Cond.selects RX8 yX8_open yX8_open, Cond.code yX8_open cX8_open 2 (some .int), Cond.methodLink RX8 172 yX2_openFact, Cond.instanceMethod yX2_openFact, Cond.selects RX2 yX2_openFact yX2_openFact, Cond.code yX2_openFact cX2_openFact 4 (some .int), Cond.methodLink RL 73 yX9_open, Cond.instanceMethod yX9_open, Cond.selects RX9 yX9_open yX9_open, Cond.code yX9_open cX9_open 4 (some .int), Cond.methodLink RL 74 yX8_write, Cond.instanceMethod yX8_write, Cond.selects RX8 yX8_write yX8_write, Cond.code yX8_write cX8_write 2 (some .int), Cond.methodLink RX8 175 yX2_printedByte, Cond.instanceMethod yX2_printedByte, Cond.selects RX2 yX2_printedByte yX2_printedByte]
def wsL_law_r31 : List Cond := [Cond.code yX2_printedByte cX2_printedByte 2 (some .int), Cond.methodLink RL 77 yX9_write, Cond.instanceMethod yX9_write, Cond.selects RX9 yX9_write yX9_write, Cond.code yX9_write cX9_write 2 (some .int), Cond.methodLink RL 78 yX8_flat, Cond.instanceMethod yX8_flat, Cond.selects RX8 yX8_flat yX8_flat, Cond.code yX8_flat cX8_flat 8 (some .long), Cond.methodLink RX8 180 yX3_shareOf, Cond.instanceMethod yX3_shareOf, Cond.selects RX3 yX3_shareOf yX3_shareOf, Cond.code yX3_shareOf cX3_shareOf 15 (some .long), Cond.constantLong RX3 54 (-9223372036854775808), Cond.methodLink RX3 46 yX3_hasFlat, Cond.methodLink RX3 50 yX3_weightOf, Cond.instanceMethod yX3_weightOf, Cond.selects RX3 yX3_weightOf yX3_weightOf, Cond.code yX3_weightOf cX3_weightOf 3 (some .long), Cond.methodLink RL 82 yX9_flat, Cond.instanceMethod yX9_flat, Cond.selects RX9 yX9_flat yX9_flat, Cond.code yX9_flat cX9_flat 16 (some .long), Cond.methodLink RX9 230 yX9_bill]
def wsL_law_r32 : List Cond := [Cond.methodLink RL 83 yX8_issue, Cond.instanceMethod yX8_issue, Cond.selects RX8 yX8_issue yX8_issue, Cond.code yX8_issue cX8_issue 9 (some .long), Cond.methodLink RX8 183 yX3_issuedOf, Cond.instanceMethod yX3_issuedOf, Cond.selects RX3 yX3_issuedOf yX3_issuedOf, Cond.code yX3_issuedOf cX3_issuedOf 3 (some .long), Cond.methodLink RX8 187 yX3_setIssued, Cond.instanceMethod yX3_setIssued, Cond.selects RX3 yX3_setIssued yX3_setIssued, Cond.code yX3_setIssued cX3_setIssued 5 none, Cond.methodLink RL 86 yX9_issue, Cond.instanceMethod yX9_issue, Cond.selects RX9 yX9_issue yX9_issue, Cond.code yX9_issue cX9_issue 9 (some .long), Cond.methodLink RL 87 yX8_issued, Cond.instanceMethod yX8_issued, Cond.selects RX8 yX8_issued yX8_issued, Cond.code yX8_issued cX8_issued 3 (some .long), Cond.methodLink RL 90 yX9_issued, Cond.instanceMethod yX9_issued, Cond.selects RX9 yX9_issued yX9_issued, Cond.code yX9_issued cX9_issued 3 (some .long)]
def wsL_law_r33 : List Cond := [Cond.methodLink RL 91 yX8_reverse, Cond.instanceMethod yX8_reverse, Cond.selects RX8 yX8_reverse yX8_reverse, Cond.code yX8_reverse cX8_reverse 5 (some .long), Cond.methodLink RL 94 yX9_reverse, Cond.instanceMethod yX9_reverse, Cond.selects RX9 yX9_reverse yX9_reverse, Cond.code yX9_reverse cX9_reverse 5 (some .long)]
def wsL_law : List Cond := (wsL_law_r1 ++ (wsL_law_r2 ++ (wsL_law_r3 ++ (wsL_law_r4 ++ (wsL_law_r5 ++ (wsL_law_r6 ++ (wsL_law_r7 ++ (wsL_law_r8 ++ (wsL_law_r9 ++ (wsL_law_r10 ++ (wsL_law_r11 ++ (wsL_law_r12 ++ (wsL_law_r13 ++ (wsL_law_r14 ++ (wsL_law_r15 ++ (wsL_law_r16 ++ (wsL_law_r17 ++ (wsL_law_r18 ++ (wsL_law_r19 ++ (wsL_law_r20 ++ (wsL_law_r21 ++ (wsL_law_r22 ++ (wsL_law_r23 ++ (wsL_law_r24 ++ (wsL_law_r25 ++ (wsL_law_r26 ++ (wsL_law_r27 ++ (wsL_law_r28 ++ (wsL_law_r29 ++ (wsL_law_r30 ++ (wsL_law_r31 ++ (wsL_law_r32 ++ wsL_law_r33)))))))))))))))))))))))))))))))) ++ wsX80 ++ wsX90 ++ wsX30 ++ wsX10 ++ wsX70 ++ wsX00 ++ wsX60 ++ wsX40 ++ wsX50 ++ wsX20 ++ ([] : List Cond)
abbrev vwCl : List vw_C := [(RX0, TX0, 12), (RX1, TX1, 6), (RX2, TX2, 7), (RX3, TX3, 4), (RX4, TX4, 5), (RX5, TX5, 1), (RX6, TX6, 2), (RX7, TX7, 5), (RX8, TX8, 8), (RX9, TX9, 43)]
end
section
theorem dX5_init_0 : decode cX5_init 0 = .ok (.aload_n 0, 1) := by decide +kernel
theorem dX5_init_1 : decode cX5_init 1 = .ok (.invokespecial 1, 3) := by decide +kernel
theorem dX5_init_4 : decode cX5_init 4 = .ok (.aload_n 0, 1) := by decide +kernel
theorem dX5_init_5 : decode cX5_init 5 = .ok (.iload_n 1, 1) := by decide +kernel
theorem dX5_init_6 : decode cX5_init 6 = .ok (.ifCond .ge 7, 3) := by decide +kernel
theorem dX5_init_9 : decode cX5_init 9 = .ok (.iconst 0, 1) := by decide +kernel
theorem dX5_init_10 : decode cX5_init 10 = .ok (.goto 4, 3) := by decide +kernel
theorem dX5_init_13 : decode cX5_init 13 = .ok (.iload_n 1, 1) := by decide +kernel
theorem dX5_init_14 : decode cX5_init 14 = .ok (.newarray .long, 2) := by decide +kernel
theorem dX5_init_16 : decode cX5_init 16 = .ok (.putfield 7, 3) := by decide +kernel
theorem dX5_init_19 : decode cX5_init 19 = .ok (.return_, 1) := by decide +kernel
theorem dX5_get_0 : decode cX5_get 0 = .ok (.iload_n 1, 1) := by decide +kernel
theorem dX5_get_1 : decode cX5_get 1 = .ok (.ifCond .lt 21, 3) := by decide +kernel
theorem dX5_get_4 : decode cX5_get 4 = .ok (.iload_n 1, 1) := by decide +kernel
theorem dX5_get_5 : decode cX5_get 5 = .ok (.aload_n 0, 1) := by decide +kernel
theorem dX5_get_6 : decode cX5_get 6 = .ok (.getfield 7, 3) := by decide +kernel
theorem dX5_get_9 : decode cX5_get 9 = .ok (.arraylength, 1) := by decide +kernel
theorem dX5_get_10 : decode cX5_get 10 = .ok (.if_icmp .ge 12, 3) := by decide +kernel
theorem dX5_get_13 : decode cX5_get 13 = .ok (.aload_n 0, 1) := by decide +kernel
theorem dX5_get_14 : decode cX5_get 14 = .ok (.getfield 7, 3) := by decide +kernel
theorem dX5_get_17 : decode cX5_get 17 = .ok (.iload_n 1, 1) := by decide +kernel
theorem dX5_get_18 : decode cX5_get 18 = .ok (.laload, 1) := by decide +kernel
theorem dX5_get_19 : decode cX5_get 19 = .ok (.goto 4, 3) := by decide +kernel
theorem dX5_get_22 : decode cX5_get 22 = .ok (.lconst 0, 1) := by decide +kernel
theorem dX5_get_23 : decode cX5_get 23 = .ok (.lreturn, 1) := by decide +kernel
theorem dX5_set_0 : decode cX5_set 0 = .ok (.iload_n 1, 1) := by decide +kernel
theorem dX5_set_1 : decode cX5_set 1 = .ok (.ifCond .lt 19, 3) := by decide +kernel
theorem dX5_set_4 : decode cX5_set 4 = .ok (.iload_n 1, 1) := by decide +kernel
theorem dX5_set_5 : decode cX5_set 5 = .ok (.aload_n 0, 1) := by decide +kernel
theorem dX5_set_6 : decode cX5_set 6 = .ok (.getfield 7, 3) := by decide +kernel
theorem dX5_set_9 : decode cX5_set 9 = .ok (.arraylength, 1) := by decide +kernel
theorem dX5_set_10 : decode cX5_set 10 = .ok (.if_icmp .ge 10, 3) := by decide +kernel
theorem dX5_set_13 : decode cX5_set 13 = .ok (.aload_n 0, 1) := by decide +kernel
theorem dX5_set_14 : decode cX5_set 14 = .ok (.getfield 7, 3) := by decide +kernel
theorem dX5_set_17 : decode cX5_set 17 = .ok (.iload_n 1, 1) := by decide +kernel
theorem dX5_set_18 : decode cX5_set 18 = .ok (.lload_n 2, 1) := by decide +kernel
theorem dX5_set_19 : decode cX5_set 19 = .ok (.lastore, 1) := by decide +kernel
theorem dX5_set_20 : decode cX5_set 20 = .ok (.return_, 1) := by decide +kernel
set_option maxRecDepth 20000 in
theorem ggX0_init_X5_init : GoodIn wsX0_init wsX5_init := goodIn_r _ [19, 20, 2, 3, 21, 22, 23] (by decide +kernel) (by decide +kernel)
set_option maxRecDepth 20000 in
theorem gX0_init_X5_init : GoodIn wsX0_init (wsX5_init) := ggX0_init_X5_init
theorem dX0_init_0 : decode cX0_init 0 = .ok (.aload_n 0, 1) := by decide +kernel
theorem dX0_init_1 : decode cX0_init 1 = .ok (.invokespecial 3, 3) := by decide +kernel
theorem dX0_init_4 : decode cX0_init 4 = .ok (.aload_n 0, 1) := by decide +kernel
theorem dX0_init_5 : decode cX0_init 5 = .ok (.new 9, 3) := by decide +kernel
theorem dX0_init_8 : decode cX0_init 8 = .ok (.dup, 1) := by decide +kernel
theorem dX0_init_9 : decode cX0_init 9 = .ok (.bipush 6, 2) := by decide +kernel
theorem dX0_init_11 : decode cX0_init 11 = .ok (.invokespecial 11, 3) := by decide +kernel
theorem dX0_init_14 : decode cX0_init 14 = .ok (.putfield 14, 3) := by decide +kernel
theorem dX0_init_17 : decode cX0_init 17 = .ok (.aload_n 0, 1) := by decide +kernel
theorem dX0_init_18 : decode cX0_init 18 = .ok (.new 9, 3) := by decide +kernel
theorem dX0_init_21 : decode cX0_init 21 = .ok (.dup, 1) := by decide +kernel
theorem dX0_init_22 : decode cX0_init 22 = .ok (.bipush 6, 2) := by decide +kernel
theorem dX0_init_24 : decode cX0_init 24 = .ok (.invokespecial 11, 3) := by decide +kernel
theorem dX0_init_27 : decode cX0_init 27 = .ok (.putfield 20, 3) := by decide +kernel
theorem dX0_init_30 : decode cX0_init 30 = .ok (.aload_n 0, 1) := by decide +kernel
theorem dX0_init_31 : decode cX0_init 31 = .ok (.new 9, 3) := by decide +kernel
theorem dX0_init_34 : decode cX0_init 34 = .ok (.dup, 1) := by decide +kernel
theorem dX0_init_35 : decode cX0_init 35 = .ok (.bipush 6, 2) := by decide +kernel
theorem dX0_init_37 : decode cX0_init 37 = .ok (.invokespecial 11, 3) := by decide +kernel
theorem dX0_init_40 : decode cX0_init 40 = .ok (.putfield 23, 3) := by decide +kernel
theorem dX0_init_43 : decode cX0_init 43 = .ok (.aload_n 0, 1) := by decide +kernel
theorem dX0_init_44 : decode cX0_init 44 = .ok (.new 9, 3) := by decide +kernel
theorem dX0_init_47 : decode cX0_init 47 = .ok (.dup, 1) := by decide +kernel
theorem dX0_init_48 : decode cX0_init 48 = .ok (.bipush 36, 2) := by decide +kernel
theorem dX0_init_50 : decode cX0_init 50 = .ok (.invokespecial 11, 3) := by decide +kernel
theorem dX0_init_53 : decode cX0_init 53 = .ok (.putfield 26, 3) := by decide +kernel
theorem dX0_init_56 : decode cX0_init 56 = .ok (.aload_n 0, 1) := by decide +kernel
theorem dX0_init_57 : decode cX0_init 57 = .ok (.new 9, 3) := by decide +kernel
theorem dX0_init_60 : decode cX0_init 60 = .ok (.dup, 1) := by decide +kernel
theorem dX0_init_61 : decode cX0_init 61 = .ok (.bipush 36, 2) := by decide +kernel
theorem dX0_init_63 : decode cX0_init 63 = .ok (.invokespecial 11, 3) := by decide +kernel
theorem dX0_init_66 : decode cX0_init 66 = .ok (.putfield 29, 3) := by decide +kernel
theorem dX0_init_69 : decode cX0_init 69 = .ok (.aload_n 0, 1) := by decide +kernel
theorem dX0_init_70 : decode cX0_init 70 = .ok (.new 9, 3) := by decide +kernel
theorem dX0_init_73 : decode cX0_init 73 = .ok (.dup, 1) := by decide +kernel
theorem dX0_init_74 : decode cX0_init 74 = .ok (.bipush 36, 2) := by decide +kernel
theorem dX0_init_76 : decode cX0_init 76 = .ok (.invokespecial 11, 3) := by decide +kernel
theorem dX0_init_79 : decode cX0_init 79 = .ok (.putfield 32, 3) := by decide +kernel
theorem dX0_init_82 : decode cX0_init 82 = .ok (.aload_n 0, 1) := by decide +kernel
theorem dX0_init_83 : decode cX0_init 83 = .ok (.new 9, 3) := by decide +kernel
theorem dX0_init_86 : decode cX0_init 86 = .ok (.dup, 1) := by decide +kernel
theorem dX0_init_87 : decode cX0_init 87 = .ok (.bipush 36, 2) := by decide +kernel
theorem dX0_init_89 : decode cX0_init 89 = .ok (.invokespecial 11, 3) := by decide +kernel
theorem dX0_init_92 : decode cX0_init 92 = .ok (.putfield 35, 3) := by decide +kernel
theorem dX0_init_95 : decode cX0_init 95 = .ok (.aload_n 0, 1) := by decide +kernel
theorem dX0_init_96 : decode cX0_init 96 = .ok (.new 9, 3) := by decide +kernel
theorem dX0_init_99 : decode cX0_init 99 = .ok (.dup, 1) := by decide +kernel
theorem dX0_init_100 : decode cX0_init 100 = .ok (.bipush 36, 2) := by decide +kernel
theorem dX0_init_102 : decode cX0_init 102 = .ok (.invokespecial 11, 3) := by decide +kernel
theorem dX0_init_105 : decode cX0_init 105 = .ok (.putfield 38, 3) := by decide +kernel
theorem dX0_init_108 : decode cX0_init 108 = .ok (.aload_n 0, 1) := by decide +kernel
theorem dX0_init_109 : decode cX0_init 109 = .ok (.new 9, 3) := by decide +kernel
theorem dX0_init_112 : decode cX0_init 112 = .ok (.dup, 1) := by decide +kernel
theorem dX0_init_113 : decode cX0_init 113 = .ok (.sipush 396, 3) := by decide +kernel
theorem dX0_init_116 : decode cX0_init 116 = .ok (.invokespecial 11, 3) := by decide +kernel
theorem dX0_init_119 : decode cX0_init 119 = .ok (.putfield 41, 3) := by decide +kernel
theorem dX0_init_122 : decode cX0_init 122 = .ok (.aload_n 0, 1) := by decide +kernel
theorem dX0_init_123 : decode cX0_init 123 = .ok (.new 9, 3) := by decide +kernel
theorem dX0_init_126 : decode cX0_init 126 = .ok (.dup, 1) := by decide +kernel
theorem dX0_init_127 : decode cX0_init 127 = .ok (.sipush 396, 3) := by decide +kernel
theorem dX0_init_130 : decode cX0_init 130 = .ok (.invokespecial 11, 3) := by decide +kernel
theorem dX0_init_133 : decode cX0_init 133 = .ok (.putfield 44, 3) := by decide +kernel
theorem dX0_init_136 : decode cX0_init 136 = .ok (.return_, 1) := by decide +kernel
theorem dX0_isFull_0 : decode cX0_isFull 0 = .ok (.aload_n 0, 1) := by decide +kernel
theorem dX0_isFull_1 : decode cX0_isFull 1 = .ok (.getfield 47, 3) := by decide +kernel
theorem dX0_isFull_4 : decode cX0_isFull 4 = .ok (.bipush 6, 2) := by decide +kernel
theorem dX0_isFull_6 : decode cX0_isFull 6 = .ok (.if_icmp .lt 7, 3) := by decide +kernel
theorem dX0_isFull_9 : decode cX0_isFull 9 = .ok (.iconst 1, 1) := by decide +kernel
theorem dX0_isFull_10 : decode cX0_isFull 10 = .ok (.goto 4, 3) := by decide +kernel
theorem dX0_isFull_13 : decode cX0_isFull 13 = .ok (.iconst 0, 1) := by decide +kernel
theorem dX0_isFull_14 : decode cX0_isFull 14 = .ok (.ireturn, 1) := by decide +kernel
theorem dX0_has_0 : decode cX0_has 0 = .ok (.iload_n 1, 1) := by decide +kernel
theorem dX0_has_1 : decode cX0_has 1 = .ok (.ifCond .lt 15, 3) := by decide +kernel
theorem dX0_has_4 : decode cX0_has 4 = .ok (.iload_n 1, 1) := by decide +kernel
theorem dX0_has_5 : decode cX0_has 5 = .ok (.aload_n 0, 1) := by decide +kernel
theorem dX0_has_6 : decode cX0_has 6 = .ok (.getfield 47, 3) := by decide +kernel
theorem dX0_has_9 : decode cX0_has 9 = .ok (.if_icmp .ge 7, 3) := by decide +kernel
theorem dX0_has_12 : decode cX0_has 12 = .ok (.iconst 1, 1) := by decide +kernel
theorem dX0_has_13 : decode cX0_has 13 = .ok (.goto 4, 3) := by decide +kernel
theorem dX0_has_16 : decode cX0_has 16 = .ok (.iconst 0, 1) := by decide +kernel
theorem dX0_has_17 : decode cX0_has 17 = .ok (.ireturn, 1) := by decide +kernel
set_option maxRecDepth 20000 in
theorem ggX0_actsFrom_X5_get : GoodIn wsX0_actsFrom wsX5_get := goodIn_r _ [6, 7, 20] (by decide +kernel) (by decide +kernel)
set_option maxRecDepth 20000 in
theorem gX0_actsFrom_X5_get : GoodIn wsX0_actsFrom (wsV RX0 51 RX5 yX5_get wsX5_get) := goodIn_app (goodIn_of _ (by decide +kernel)) ggX0_actsFrom_X5_get
theorem dX0_actsFrom_0 : decode cX0_actsFrom 0 = .ok (.aload_n 0, 1) := by decide +kernel
theorem dX0_actsFrom_1 : decode cX0_actsFrom 1 = .ok (.getfield 14, 3) := by decide +kernel
theorem dX0_actsFrom_4 : decode cX0_actsFrom 4 = .ok (.iload_n 1, 1) := by decide +kernel
theorem dX0_actsFrom_5 : decode cX0_actsFrom 5 = .ok (.invokevirtual 51, 3) := by decide +kernel
theorem dX0_actsFrom_8 : decode cX0_actsFrom 8 = .ok (.lreturn, 1) := by decide +kernel
set_option maxRecDepth 20000 in
theorem ggX0_knownFrom_X5_get : GoodIn wsX0_knownFrom wsX5_get := goodIn_r _ [6, 7, 20] (by decide +kernel) (by decide +kernel)
set_option maxRecDepth 20000 in
theorem gX0_knownFrom_X5_get : GoodIn wsX0_knownFrom (wsV RX0 51 RX5 yX5_get wsX5_get) := goodIn_app (goodIn_of _ (by decide +kernel)) ggX0_knownFrom_X5_get
theorem dX0_knownFrom_0 : decode cX0_knownFrom 0 = .ok (.aload_n 0, 1) := by decide +kernel
theorem dX0_knownFrom_1 : decode cX0_knownFrom 1 = .ok (.getfield 20, 3) := by decide +kernel
theorem dX0_knownFrom_4 : decode cX0_knownFrom 4 = .ok (.iload_n 1, 1) := by decide +kernel
theorem dX0_knownFrom_5 : decode cX0_knownFrom 5 = .ok (.invokevirtual 51, 3) := by decide +kernel
theorem dX0_knownFrom_8 : decode cX0_knownFrom 8 = .ok (.lreturn, 1) := by decide +kernel
set_option maxRecDepth 20000 in
theorem ggX0_ruleCount_X5_get : GoodIn wsX0_ruleCount wsX5_get := goodIn_r _ [6, 7, 20] (by decide +kernel) (by decide +kernel)
set_option maxRecDepth 20000 in
theorem gX0_ruleCount_X5_get : GoodIn wsX0_ruleCount (wsV RX0 51 RX5 yX5_get wsX5_get) := goodIn_app (goodIn_of _ (by decide +kernel)) ggX0_ruleCount_X5_get
theorem dX0_ruleCount_0 : decode cX0_ruleCount 0 = .ok (.aload_n 0, 1) := by decide +kernel
theorem dX0_ruleCount_1 : decode cX0_ruleCount 1 = .ok (.getfield 23, 3) := by decide +kernel
theorem dX0_ruleCount_4 : decode cX0_ruleCount 4 = .ok (.iload_n 1, 1) := by decide +kernel
theorem dX0_ruleCount_5 : decode cX0_ruleCount 5 = .ok (.invokevirtual 51, 3) := by decide +kernel
theorem dX0_ruleCount_8 : decode cX0_ruleCount 8 = .ok (.lreturn, 1) := by decide +kernel
theorem dX0_cellOf_0 : decode cX0_cellOf 0 = .ok (.iload_n 0, 1) := by decide +kernel
theorem dX0_cellOf_1 : decode cX0_cellOf 1 = .ok (.bipush 6, 2) := by decide +kernel
theorem dX0_cellOf_3 : decode cX0_cellOf 3 = .ok (.imul, 1) := by decide +kernel
theorem dX0_cellOf_4 : decode cX0_cellOf 4 = .ok (.iload_n 1, 1) := by decide +kernel
theorem dX0_cellOf_5 : decode cX0_cellOf 5 = .ok (.iadd, 1) := by decide +kernel
theorem dX0_cellOf_6 : decode cX0_cellOf 6 = .ok (.ireturn, 1) := by decide +kernel
set_option maxRecDepth 20000 in
theorem ggX0_startDraft_X0_cellOf : GoodIn wsX0_startDraft wsX0_cellOf := goodIn_r _ [8] (by decide +kernel) (by decide +kernel)
set_option maxRecDepth 20000 in
theorem gX0_startDraft_X0_cellOf : GoodIn wsX0_startDraft (va_wsS RX0 58 yX0_cellOf wsX0_cellOf) := goodIn_app (goodIn_of _ (by decide +kernel)) ggX0_startDraft_X0_cellOf
set_option maxRecDepth 20000 in
theorem ggX0_startDraft_X5_set : GoodIn wsX0_startDraft wsX5_set := goodIn_r _ [13, 14, 27] (by decide +kernel) (by decide +kernel)
set_option maxRecDepth 20000 in
theorem gX0_startDraft_X5_set : GoodIn wsX0_startDraft (wsV RX0 64 RX5 yX5_set wsX5_set) := goodIn_app (goodIn_of _ (by decide +kernel)) ggX0_startDraft_X5_set
theorem dX0_startDraft_0 : decode cX0_startDraft 0 = .ok (.aload_n 0, 1) := by decide +kernel
theorem dX0_startDraft_1 : decode cX0_startDraft 1 = .ok (.iconst 0, 1) := by decide +kernel
theorem dX0_startDraft_2 : decode cX0_startDraft 2 = .ok (.putfield 55, 3) := by decide +kernel
theorem dX0_startDraft_5 : decode cX0_startDraft 5 = .ok (.iconst 0, 1) := by decide +kernel
theorem dX0_startDraft_6 : decode cX0_startDraft 6 = .ok (.istore_n 1, 1) := by decide +kernel
theorem dX0_startDraft_7 : decode cX0_startDraft 7 = .ok (.iload_n 1, 1) := by decide +kernel
theorem dX0_startDraft_8 : decode cX0_startDraft 8 = .ok (.bipush 6, 2) := by decide +kernel
theorem dX0_startDraft_10 : decode cX0_startDraft 10 = .ok (.if_icmp .ge 27, 3) := by decide +kernel
theorem dX0_startDraft_13 : decode cX0_startDraft 13 = .ok (.aload_n 0, 1) := by decide +kernel
theorem dX0_startDraft_14 : decode cX0_startDraft 14 = .ok (.getfield 26, 3) := by decide +kernel
theorem dX0_startDraft_17 : decode cX0_startDraft 17 = .ok (.aload_n 0, 1) := by decide +kernel
theorem dX0_startDraft_18 : decode cX0_startDraft 18 = .ok (.getfield 47, 3) := by decide +kernel
theorem dX0_startDraft_21 : decode cX0_startDraft 21 = .ok (.iload_n 1, 1) := by decide +kernel
theorem dX0_startDraft_22 : decode cX0_startDraft 22 = .ok (.invokestatic 58, 3) := by decide +kernel
theorem dX0_startDraft_25 : decode cX0_startDraft 25 = .ok (.ldc2_w 62, 3) := by decide +kernel
theorem dX0_startDraft_28 : decode cX0_startDraft 28 = .ok (.invokevirtual 64, 3) := by decide +kernel
theorem dX0_startDraft_31 : decode cX0_startDraft 31 = .ok (.iinc 1 1, 3) := by decide +kernel
theorem dX0_startDraft_34 : decode cX0_startDraft 34 = .ok (.goto (-27), 3) := by decide +kernel
theorem dX0_startDraft_37 : decode cX0_startDraft 37 = .ok (.return_, 1) := by decide +kernel
set_option maxRecDepth 20000 in
theorem ggX0_draftHasRule_X0_cellOf : GoodIn wsX0_draftHasRule wsX0_cellOf := goodIn_r _ [7] (by decide +kernel) (by decide +kernel)
set_option maxRecDepth 20000 in
theorem gX0_draftHasRule_X0_cellOf : GoodIn wsX0_draftHasRule (va_wsS RX0 58 yX0_cellOf wsX0_cellOf) := goodIn_app (goodIn_of _ (by decide +kernel)) ggX0_draftHasRule_X0_cellOf
set_option maxRecDepth 20000 in
theorem ggX0_draftHasRule_X5_get : GoodIn wsX0_draftHasRule wsX5_get := goodIn_r _ [12, 13, 26] (by decide +kernel) (by decide +kernel)
set_option maxRecDepth 20000 in
theorem gX0_draftHasRule_X5_get : GoodIn wsX0_draftHasRule (wsV RX0 51 RX5 yX5_get wsX5_get) := goodIn_app (goodIn_of _ (by decide +kernel)) ggX0_draftHasRule_X5_get
theorem dX0_draftHasRule_0 : decode cX0_draftHasRule 0 = .ok (.aload_n 0, 1) := by decide +kernel
theorem dX0_draftHasRule_1 : decode cX0_draftHasRule 1 = .ok (.getfield 26, 3) := by decide +kernel
theorem dX0_draftHasRule_4 : decode cX0_draftHasRule 4 = .ok (.aload_n 0, 1) := by decide +kernel
theorem dX0_draftHasRule_5 : decode cX0_draftHasRule 5 = .ok (.getfield 47, 3) := by decide +kernel
theorem dX0_draftHasRule_8 : decode cX0_draftHasRule 8 = .ok (.iload_n 1, 1) := by decide +kernel
theorem dX0_draftHasRule_9 : decode cX0_draftHasRule 9 = .ok (.invokestatic 58, 3) := by decide +kernel
theorem dX0_draftHasRule_12 : decode cX0_draftHasRule 12 = .ok (.invokevirtual 51, 3) := by decide +kernel
theorem dX0_draftHasRule_15 : decode cX0_draftHasRule 15 = .ok (.ldc2_w 62, 3) := by decide +kernel
theorem dX0_draftHasRule_18 : decode cX0_draftHasRule 18 = .ok (.lcmp, 1) := by decide +kernel
theorem dX0_draftHasRule_19 : decode cX0_draftHasRule 19 = .ok (.ifCond .eq 7, 3) := by decide +kernel
theorem dX0_draftHasRule_22 : decode cX0_draftHasRule 22 = .ok (.iconst 1, 1) := by decide +kernel
theorem dX0_draftHasRule_23 : decode cX0_draftHasRule 23 = .ok (.goto 4, 3) := by decide +kernel
theorem dX0_draftHasRule_26 : decode cX0_draftHasRule 26 = .ok (.iconst 0, 1) := by decide +kernel
theorem dX0_draftHasRule_27 : decode cX0_draftHasRule 27 = .ok (.ireturn, 1) := by decide +kernel
set_option maxRecDepth 20000 in
theorem ggX0_tellRule_X0_cellOf : GoodIn wsX0_tellRule wsX0_cellOf := goodIn_r _ [12] (by decide +kernel) (by decide +kernel)
set_option maxRecDepth 20000 in
theorem gX0_tellRule_X0_cellOf : GoodIn wsX0_tellRule (va_wsS RX0 58 yX0_cellOf wsX0_cellOf) := goodIn_app (goodIn_of _ (by decide +kernel)) ggX0_tellRule_X0_cellOf
set_option maxRecDepth 20000 in
theorem ggX0_tellRule_X5_set : GoodIn wsX0_tellRule wsX5_set := goodIn_r _ [17, 18, 31] (by decide +kernel) (by decide +kernel)
set_option maxRecDepth 20000 in
theorem gX0_tellRule_X5_set : GoodIn wsX0_tellRule (wsV RX0 64 RX5 yX5_set wsX5_set) := goodIn_app (goodIn_of _ (by decide +kernel)) ggX0_tellRule_X5_set
theorem dX0_tellRule_0 : decode cX0_tellRule 0 = .ok (.aload_n 0, 1) := by decide +kernel
theorem dX0_tellRule_1 : decode cX0_tellRule 1 = .ok (.getfield 47, 3) := by decide +kernel
theorem dX0_tellRule_4 : decode cX0_tellRule 4 = .ok (.iload_n 1, 1) := by decide +kernel
theorem dX0_tellRule_5 : decode cX0_tellRule 5 = .ok (.invokestatic 58, 3) := by decide +kernel
theorem dX0_tellRule_8 : decode cX0_tellRule 8 = .ok (.istore 6, 2) := by decide +kernel
theorem dX0_tellRule_10 : decode cX0_tellRule 10 = .ok (.aload_n 0, 1) := by decide +kernel
theorem dX0_tellRule_11 : decode cX0_tellRule 11 = .ok (.getfield 26, 3) := by decide +kernel
theorem dX0_tellRule_14 : decode cX0_tellRule 14 = .ok (.iload 6, 2) := by decide +kernel
theorem dX0_tellRule_16 : decode cX0_tellRule 16 = .ok (.lload_n 2, 1) := by decide +kernel
theorem dX0_tellRule_17 : decode cX0_tellRule 17 = .ok (.invokevirtual 64, 3) := by decide +kernel
theorem dX0_tellRule_20 : decode cX0_tellRule 20 = .ok (.aload_n 0, 1) := by decide +kernel
theorem dX0_tellRule_21 : decode cX0_tellRule 21 = .ok (.getfield 29, 3) := by decide +kernel
theorem dX0_tellRule_24 : decode cX0_tellRule 24 = .ok (.iload 6, 2) := by decide +kernel
theorem dX0_tellRule_26 : decode cX0_tellRule 26 = .ok (.lload 4, 2) := by decide +kernel
theorem dX0_tellRule_28 : decode cX0_tellRule 28 = .ok (.invokevirtual 64, 3) := by decide +kernel
theorem dX0_tellRule_31 : decode cX0_tellRule 31 = .ok (.aload_n 0, 1) := by decide +kernel
theorem dX0_tellRule_32 : decode cX0_tellRule 32 = .ok (.getfield 32, 3) := by decide +kernel
theorem dX0_tellRule_35 : decode cX0_tellRule 35 = .ok (.iload 6, 2) := by decide +kernel
theorem dX0_tellRule_37 : decode cX0_tellRule 37 = .ok (.ldc2_w 62, 3) := by decide +kernel
theorem dX0_tellRule_40 : decode cX0_tellRule 40 = .ok (.invokevirtual 64, 3) := by decide +kernel
theorem dX0_tellRule_43 : decode cX0_tellRule 43 = .ok (.aload_n 0, 1) := by decide +kernel
theorem dX0_tellRule_44 : decode cX0_tellRule 44 = .ok (.getfield 35, 3) := by decide +kernel
theorem dX0_tellRule_47 : decode cX0_tellRule 47 = .ok (.iload 6, 2) := by decide +kernel
theorem dX0_tellRule_49 : decode cX0_tellRule 49 = .ok (.aload_n 0, 1) := by decide +kernel
theorem dX0_tellRule_50 : decode cX0_tellRule 50 = .ok (.getfield 47, 3) := by decide +kernel
theorem dX0_tellRule_53 : decode cX0_tellRule 53 = .ok (.bipush 66, 2) := by decide +kernel
theorem dX0_tellRule_55 : decode cX0_tellRule 55 = .ok (.imul, 1) := by decide +kernel
theorem dX0_tellRule_56 : decode cX0_tellRule 56 = .ok (.aload_n 0, 1) := by decide +kernel
theorem dX0_tellRule_57 : decode cX0_tellRule 57 = .ok (.getfield 55, 3) := by decide +kernel
theorem dX0_tellRule_60 : decode cX0_tellRule 60 = .ok (.iadd, 1) := by decide +kernel
theorem dX0_tellRule_61 : decode cX0_tellRule 61 = .ok (.i2l, 1) := by decide +kernel
theorem dX0_tellRule_62 : decode cX0_tellRule 62 = .ok (.invokevirtual 64, 3) := by decide +kernel
theorem dX0_tellRule_65 : decode cX0_tellRule 65 = .ok (.aload_n 0, 1) := by decide +kernel
theorem dX0_tellRule_66 : decode cX0_tellRule 66 = .ok (.getfield 38, 3) := by decide +kernel
theorem dX0_tellRule_69 : decode cX0_tellRule 69 = .ok (.iload 6, 2) := by decide +kernel
theorem dX0_tellRule_71 : decode cX0_tellRule 71 = .ok (.lconst 0, 1) := by decide +kernel
theorem dX0_tellRule_72 : decode cX0_tellRule 72 = .ok (.invokevirtual 64, 3) := by decide +kernel
theorem dX0_tellRule_75 : decode cX0_tellRule 75 = .ok (.return_, 1) := by decide +kernel
set_option maxRecDepth 20000 in
theorem ggX0_tellStep_X0_cellOf : GoodIn wsX0_tellStep wsX0_cellOf := goodIn_r _ [9] (by decide +kernel) (by decide +kernel)
set_option maxRecDepth 20000 in
theorem gX0_tellStep_X0_cellOf : GoodIn wsX0_tellStep (va_wsS RX0 58 yX0_cellOf wsX0_cellOf) := goodIn_app (goodIn_of _ (by decide +kernel)) ggX0_tellStep_X0_cellOf
set_option maxRecDepth 20000 in
theorem ggX0_tellStep_X5_set : GoodIn wsX0_tellStep wsX5_set := goodIn_r _ [14, 15, 32] (by decide +kernel) (by decide +kernel)
set_option maxRecDepth 20000 in
theorem gX0_tellStep_X5_set : GoodIn wsX0_tellStep (wsV RX0 64 RX5 yX5_set wsX5_set) := goodIn_app (goodIn_of _ (by decide +kernel)) ggX0_tellStep_X5_set
set_option maxRecDepth 20000 in
theorem ggX0_tellStep_X5_get : GoodIn wsX0_tellStep wsX5_get := goodIn_r _ [19, 15, 32] (by decide +kernel) (by decide +kernel)
set_option maxRecDepth 20000 in
theorem gX0_tellStep_X5_get : GoodIn wsX0_tellStep (wsV RX0 51 RX5 yX5_get wsX5_get) := goodIn_app (goodIn_of _ (by decide +kernel)) ggX0_tellStep_X5_get
theorem dX0_tellStep_0 : decode cX0_tellStep 0 = .ok (.aload_n 0, 1) := by decide +kernel
theorem dX0_tellStep_1 : decode cX0_tellStep 1 = .ok (.getfield 47, 3) := by decide +kernel
theorem dX0_tellStep_4 : decode cX0_tellStep 4 = .ok (.iload_n 1, 1) := by decide +kernel
theorem dX0_tellStep_5 : decode cX0_tellStep 5 = .ok (.invokestatic 58, 3) := by decide +kernel
theorem dX0_tellStep_8 : decode cX0_tellStep 8 = .ok (.istore 6, 2) := by decide +kernel
theorem dX0_tellStep_10 : decode cX0_tellStep 10 = .ok (.aload_n 0, 1) := by decide +kernel
theorem dX0_tellStep_11 : decode cX0_tellStep 11 = .ok (.getfield 47, 3) := by decide +kernel
theorem dX0_tellStep_14 : decode cX0_tellStep 14 = .ok (.bipush 66, 2) := by decide +kernel
theorem dX0_tellStep_16 : decode cX0_tellStep 16 = .ok (.imul, 1) := by decide +kernel
theorem dX0_tellStep_17 : decode cX0_tellStep 17 = .ok (.aload_n 0, 1) := by decide +kernel
theorem dX0_tellStep_18 : decode cX0_tellStep 18 = .ok (.getfield 55, 3) := by decide +kernel
theorem dX0_tellStep_21 : decode cX0_tellStep 21 = .ok (.iadd, 1) := by decide +kernel
theorem dX0_tellStep_22 : decode cX0_tellStep 22 = .ok (.istore 7, 2) := by decide +kernel
theorem dX0_tellStep_24 : decode cX0_tellStep 24 = .ok (.aload_n 0, 1) := by decide +kernel
theorem dX0_tellStep_25 : decode cX0_tellStep 25 = .ok (.getfield 41, 3) := by decide +kernel
theorem dX0_tellStep_28 : decode cX0_tellStep 28 = .ok (.iload 7, 2) := by decide +kernel
theorem dX0_tellStep_30 : decode cX0_tellStep 30 = .ok (.lload_n 2, 1) := by decide +kernel
theorem dX0_tellStep_31 : decode cX0_tellStep 31 = .ok (.invokevirtual 64, 3) := by decide +kernel
theorem dX0_tellStep_34 : decode cX0_tellStep 34 = .ok (.aload_n 0, 1) := by decide +kernel
theorem dX0_tellStep_35 : decode cX0_tellStep 35 = .ok (.getfield 44, 3) := by decide +kernel
theorem dX0_tellStep_38 : decode cX0_tellStep 38 = .ok (.iload 7, 2) := by decide +kernel
theorem dX0_tellStep_40 : decode cX0_tellStep 40 = .ok (.lload 4, 2) := by decide +kernel
theorem dX0_tellStep_42 : decode cX0_tellStep 42 = .ok (.invokevirtual 64, 3) := by decide +kernel
theorem dX0_tellStep_45 : decode cX0_tellStep 45 = .ok (.aload_n 0, 1) := by decide +kernel
theorem dX0_tellStep_46 : decode cX0_tellStep 46 = .ok (.getfield 38, 3) := by decide +kernel
theorem dX0_tellStep_49 : decode cX0_tellStep 49 = .ok (.iload 6, 2) := by decide +kernel
theorem dX0_tellStep_51 : decode cX0_tellStep 51 = .ok (.aload_n 0, 1) := by decide +kernel
theorem dX0_tellStep_52 : decode cX0_tellStep 52 = .ok (.getfield 38, 3) := by decide +kernel
theorem dX0_tellStep_55 : decode cX0_tellStep 55 = .ok (.iload 6, 2) := by decide +kernel
theorem dX0_tellStep_57 : decode cX0_tellStep 57 = .ok (.invokevirtual 51, 3) := by decide +kernel
theorem dX0_tellStep_60 : decode cX0_tellStep 60 = .ok (.lconst 1, 1) := by decide +kernel
theorem dX0_tellStep_61 : decode cX0_tellStep 61 = .ok (.ladd, 1) := by decide +kernel
theorem dX0_tellStep_62 : decode cX0_tellStep 62 = .ok (.invokevirtual 64, 3) := by decide +kernel
theorem dX0_tellStep_65 : decode cX0_tellStep 65 = .ok (.aload_n 0, 1) := by decide +kernel
theorem dX0_tellStep_66 : decode cX0_tellStep 66 = .ok (.dup, 1) := by decide +kernel
theorem dX0_tellStep_67 : decode cX0_tellStep 67 = .ok (.getfield 55, 3) := by decide +kernel
theorem dX0_tellStep_70 : decode cX0_tellStep 70 = .ok (.iconst 1, 1) := by decide +kernel
theorem dX0_tellStep_71 : decode cX0_tellStep 71 = .ok (.iadd, 1) := by decide +kernel
theorem dX0_tellStep_72 : decode cX0_tellStep 72 = .ok (.putfield 55, 3) := by decide +kernel
theorem dX0_tellStep_75 : decode cX0_tellStep 75 = .ok (.return_, 1) := by decide +kernel
set_option maxRecDepth 20000 in
theorem ggX0_tellCap_X0_cellOf : GoodIn wsX0_tellCap wsX0_cellOf := goodIn_r _ [6] (by decide +kernel) (by decide +kernel)
set_option maxRecDepth 20000 in
theorem gX0_tellCap_X0_cellOf : GoodIn wsX0_tellCap (va_wsS RX0 58 yX0_cellOf wsX0_cellOf) := goodIn_app (goodIn_of _ (by decide +kernel)) ggX0_tellCap_X0_cellOf
set_option maxRecDepth 20000 in
theorem ggX0_tellCap_X5_set : GoodIn wsX0_tellCap wsX5_set := goodIn_r _ [11, 12, 25] (by decide +kernel) (by decide +kernel)
set_option maxRecDepth 20000 in
theorem gX0_tellCap_X5_set : GoodIn wsX0_tellCap (wsV RX0 64 RX5 yX5_set wsX5_set) := goodIn_app (goodIn_of _ (by decide +kernel)) ggX0_tellCap_X5_set
theorem dX0_tellCap_0 : decode cX0_tellCap 0 = .ok (.aload_n 0, 1) := by decide +kernel
theorem dX0_tellCap_1 : decode cX0_tellCap 1 = .ok (.getfield 32, 3) := by decide +kernel
theorem dX0_tellCap_4 : decode cX0_tellCap 4 = .ok (.aload_n 0, 1) := by decide +kernel
theorem dX0_tellCap_5 : decode cX0_tellCap 5 = .ok (.getfield 47, 3) := by decide +kernel
theorem dX0_tellCap_8 : decode cX0_tellCap 8 = .ok (.iload_n 1, 1) := by decide +kernel
theorem dX0_tellCap_9 : decode cX0_tellCap 9 = .ok (.invokestatic 58, 3) := by decide +kernel
theorem dX0_tellCap_12 : decode cX0_tellCap 12 = .ok (.lload_n 2, 1) := by decide +kernel
theorem dX0_tellCap_13 : decode cX0_tellCap 13 = .ok (.invokevirtual 64, 3) := by decide +kernel
theorem dX0_tellCap_16 : decode cX0_tellCap 16 = .ok (.return_, 1) := by decide +kernel
set_option maxRecDepth 20000 in
theorem ggX0_keepDraft_X5_set : GoodIn wsX0_keepDraft wsX5_set := goodIn_r _ [9, 10, 23] (by decide +kernel) (by decide +kernel)
set_option maxRecDepth 20000 in
theorem gX0_keepDraft_X5_set : GoodIn wsX0_keepDraft (wsV RX0 64 RX5 yX5_set wsX5_set) := goodIn_app (goodIn_of _ (by decide +kernel)) ggX0_keepDraft_X5_set
theorem dX0_keepDraft_0 : decode cX0_keepDraft 0 = .ok (.aload_n 0, 1) := by decide +kernel
theorem dX0_keepDraft_1 : decode cX0_keepDraft 1 = .ok (.getfield 14, 3) := by decide +kernel
theorem dX0_keepDraft_4 : decode cX0_keepDraft 4 = .ok (.aload_n 0, 1) := by decide +kernel
theorem dX0_keepDraft_5 : decode cX0_keepDraft 5 = .ok (.getfield 47, 3) := by decide +kernel
theorem dX0_keepDraft_8 : decode cX0_keepDraft 8 = .ok (.lload_n 1, 1) := by decide +kernel
theorem dX0_keepDraft_9 : decode cX0_keepDraft 9 = .ok (.invokevirtual 64, 3) := by decide +kernel
theorem dX0_keepDraft_12 : decode cX0_keepDraft 12 = .ok (.aload_n 0, 1) := by decide +kernel
theorem dX0_keepDraft_13 : decode cX0_keepDraft 13 = .ok (.getfield 20, 3) := by decide +kernel
theorem dX0_keepDraft_16 : decode cX0_keepDraft 16 = .ok (.aload_n 0, 1) := by decide +kernel
theorem dX0_keepDraft_17 : decode cX0_keepDraft 17 = .ok (.getfield 47, 3) := by decide +kernel
theorem dX0_keepDraft_20 : decode cX0_keepDraft 20 = .ok (.lload_n 3, 1) := by decide +kernel
theorem dX0_keepDraft_21 : decode cX0_keepDraft 21 = .ok (.invokevirtual 64, 3) := by decide +kernel
theorem dX0_keepDraft_24 : decode cX0_keepDraft 24 = .ok (.aload_n 0, 1) := by decide +kernel
theorem dX0_keepDraft_25 : decode cX0_keepDraft 25 = .ok (.getfield 23, 3) := by decide +kernel
theorem dX0_keepDraft_28 : decode cX0_keepDraft 28 = .ok (.aload_n 0, 1) := by decide +kernel
theorem dX0_keepDraft_29 : decode cX0_keepDraft 29 = .ok (.getfield 47, 3) := by decide +kernel
theorem dX0_keepDraft_32 : decode cX0_keepDraft 32 = .ok (.iload 5, 2) := by decide +kernel
theorem dX0_keepDraft_34 : decode cX0_keepDraft 34 = .ok (.i2l, 1) := by decide +kernel
theorem dX0_keepDraft_35 : decode cX0_keepDraft 35 = .ok (.invokevirtual 64, 3) := by decide +kernel
theorem dX0_keepDraft_38 : decode cX0_keepDraft 38 = .ok (.aload_n 0, 1) := by decide +kernel
theorem dX0_keepDraft_39 : decode cX0_keepDraft 39 = .ok (.dup, 1) := by decide +kernel
theorem dX0_keepDraft_40 : decode cX0_keepDraft 40 = .ok (.getfield 47, 3) := by decide +kernel
theorem dX0_keepDraft_43 : decode cX0_keepDraft 43 = .ok (.iconst 1, 1) := by decide +kernel
theorem dX0_keepDraft_44 : decode cX0_keepDraft 44 = .ok (.iadd, 1) := by decide +kernel
theorem dX0_keepDraft_45 : decode cX0_keepDraft 45 = .ok (.putfield 47, 3) := by decide +kernel
theorem dX0_keepDraft_48 : decode cX0_keepDraft 48 = .ok (.return_, 1) := by decide +kernel
set_option maxRecDepth 20000 in
theorem ggX0_latest_X5_get : GoodIn wsX0_latest wsX5_get := goodIn_r _ [8, 9, 22] (by decide +kernel) (by decide +kernel)
set_option maxRecDepth 20000 in
theorem gX0_latest_X5_get : GoodIn wsX0_latest (wsV RX0 51 RX5 yX5_get wsX5_get) := goodIn_app (goodIn_of _ (by decide +kernel)) ggX0_latest_X5_get
theorem dX0_latest_0 : decode cX0_latest 0 = .ok (.iconst (-1), 1) := by decide +kernel
theorem dX0_latest_1 : decode cX0_latest 1 = .ok (.istore 5, 2) := by decide +kernel
theorem dX0_latest_3 : decode cX0_latest 3 = .ok (.iconst 0, 1) := by decide +kernel
theorem dX0_latest_4 : decode cX0_latest 4 = .ok (.istore 6, 2) := by decide +kernel
theorem dX0_latest_6 : decode cX0_latest 6 = .ok (.iload 6, 2) := by decide +kernel
theorem dX0_latest_8 : decode cX0_latest 8 = .ok (.aload_n 0, 1) := by decide +kernel
theorem dX0_latest_9 : decode cX0_latest 9 = .ok (.getfield 47, 3) := by decide +kernel
theorem dX0_latest_12 : decode cX0_latest 12 = .ok (.if_icmp .ge 81, 3) := by decide +kernel
theorem dX0_latest_15 : decode cX0_latest 15 = .ok (.aload_n 0, 1) := by decide +kernel
theorem dX0_latest_16 : decode cX0_latest 16 = .ok (.getfield 20, 3) := by decide +kernel
theorem dX0_latest_19 : decode cX0_latest 19 = .ok (.iload 6, 2) := by decide +kernel
theorem dX0_latest_21 : decode cX0_latest 21 = .ok (.invokevirtual 51, 3) := by decide +kernel
theorem dX0_latest_24 : decode cX0_latest 24 = .ok (.lload_n 3, 1) := by decide +kernel
theorem dX0_latest_25 : decode cX0_latest 25 = .ok (.lcmp, 1) := by decide +kernel
theorem dX0_latest_26 : decode cX0_latest 26 = .ok (.ifCond .gt 21, 3) := by decide +kernel
theorem dX0_latest_29 : decode cX0_latest 29 = .ok (.aload_n 0, 1) := by decide +kernel
theorem dX0_latest_30 : decode cX0_latest 30 = .ok (.getfield 14, 3) := by decide +kernel
theorem dX0_latest_33 : decode cX0_latest 33 = .ok (.iload 6, 2) := by decide +kernel
theorem dX0_latest_35 : decode cX0_latest 35 = .ok (.invokevirtual 51, 3) := by decide +kernel
theorem dX0_latest_38 : decode cX0_latest 38 = .ok (.lload_n 1, 1) := by decide +kernel
theorem dX0_latest_39 : decode cX0_latest 39 = .ok (.lcmp, 1) := by decide +kernel
theorem dX0_latest_40 : decode cX0_latest 40 = .ok (.ifCond .gt 7, 3) := by decide +kernel
theorem dX0_latest_43 : decode cX0_latest 43 = .ok (.iconst 1, 1) := by decide +kernel
theorem dX0_latest_44 : decode cX0_latest 44 = .ok (.goto 4, 3) := by decide +kernel
theorem dX0_latest_47 : decode cX0_latest 47 = .ok (.iconst 0, 1) := by decide +kernel
theorem dX0_latest_48 : decode cX0_latest 48 = .ok (.istore 7, 2) := by decide +kernel
theorem dX0_latest_50 : decode cX0_latest 50 = .ok (.iload 7, 2) := by decide +kernel
theorem dX0_latest_52 : decode cX0_latest 52 = .ok (.ifCond .eq 35, 3) := by decide +kernel
theorem dX0_latest_55 : decode cX0_latest 55 = .ok (.iload 5, 2) := by decide +kernel
theorem dX0_latest_57 : decode cX0_latest 57 = .ok (.iconst (-1), 1) := by decide +kernel
theorem dX0_latest_58 : decode cX0_latest 58 = .ok (.if_icmp .eq 25, 3) := by decide +kernel
theorem dX0_latest_61 : decode cX0_latest 61 = .ok (.aload_n 0, 1) := by decide +kernel
theorem dX0_latest_62 : decode cX0_latest 62 = .ok (.getfield 14, 3) := by decide +kernel
theorem dX0_latest_65 : decode cX0_latest 65 = .ok (.iload 6, 2) := by decide +kernel
theorem dX0_latest_67 : decode cX0_latest 67 = .ok (.invokevirtual 51, 3) := by decide +kernel
theorem dX0_latest_70 : decode cX0_latest 70 = .ok (.aload_n 0, 1) := by decide +kernel
theorem dX0_latest_71 : decode cX0_latest 71 = .ok (.getfield 14, 3) := by decide +kernel
theorem dX0_latest_74 : decode cX0_latest 74 = .ok (.iload 5, 2) := by decide +kernel
theorem dX0_latest_76 : decode cX0_latest 76 = .ok (.invokevirtual 51, 3) := by decide +kernel
theorem dX0_latest_79 : decode cX0_latest 79 = .ok (.lcmp, 1) := by decide +kernel
theorem dX0_latest_80 : decode cX0_latest 80 = .ok (.ifCond .lt 7, 3) := by decide +kernel
theorem dX0_latest_83 : decode cX0_latest 83 = .ok (.iload 6, 2) := by decide +kernel
theorem dX0_latest_85 : decode cX0_latest 85 = .ok (.istore 5, 2) := by decide +kernel
theorem dX0_latest_87 : decode cX0_latest 87 = .ok (.iinc 6 1, 3) := by decide +kernel
theorem dX0_latest_90 : decode cX0_latest 90 = .ok (.goto (-84), 3) := by decide +kernel
theorem dX0_latest_93 : decode cX0_latest 93 = .ok (.iload 5, 2) := by decide +kernel
theorem dX0_latest_95 : decode cX0_latest 95 = .ok (.ireturn, 1) := by decide +kernel
set_option maxRecDepth 20000 in
theorem ggX0_hasRule_X0_has : GoodIn wsX0_hasRule wsX0_has := goodIn_r _ [7, 8, 18, 19, 20, 21, 22, 23, 24, 25, 26, 27, 28, 29] (by decide +kernel) (by decide +kernel)
set_option maxRecDepth 20000 in
theorem gX0_hasRule_X0_has : GoodIn wsX0_hasRule (wsV RX0 68 RX0 yX0_has wsX0_has) := goodIn_app (goodIn_of _ (by decide +kernel)) ggX0_hasRule_X0_has
set_option maxRecDepth 20000 in
theorem ggX0_hasRule_X0_cellOf : GoodIn wsX0_hasRule wsX0_cellOf := goodIn_r _ [11] (by decide +kernel) (by decide +kernel)
set_option maxRecDepth 20000 in
theorem gX0_hasRule_X0_cellOf : GoodIn wsX0_hasRule (va_wsS RX0 58 yX0_cellOf wsX0_cellOf) := goodIn_app (goodIn_of _ (by decide +kernel)) ggX0_hasRule_X0_cellOf
set_option maxRecDepth 20000 in
theorem ggX0_hasRule_X5_get : GoodIn wsX0_hasRule wsX5_get := goodIn_r _ [16, 17, 30] (by decide +kernel) (by decide +kernel)
set_option maxRecDepth 20000 in
theorem gX0_hasRule_X5_get : GoodIn wsX0_hasRule (wsV RX0 51 RX5 yX5_get wsX5_get) := goodIn_app (goodIn_of _ (by decide +kernel)) ggX0_hasRule_X5_get
theorem dX0_hasRule_0 : decode cX0_hasRule 0 = .ok (.aload_n 0, 1) := by decide +kernel
theorem dX0_hasRule_1 : decode cX0_hasRule 1 = .ok (.iload_n 1, 1) := by decide +kernel
theorem dX0_hasRule_2 : decode cX0_hasRule 2 = .ok (.invokevirtual 68, 3) := by decide +kernel
theorem dX0_hasRule_5 : decode cX0_hasRule 5 = .ok (.ifCond .eq 26, 3) := by decide +kernel
theorem dX0_hasRule_8 : decode cX0_hasRule 8 = .ok (.aload_n 0, 1) := by decide +kernel
theorem dX0_hasRule_9 : decode cX0_hasRule 9 = .ok (.getfield 26, 3) := by decide +kernel
theorem dX0_hasRule_12 : decode cX0_hasRule 12 = .ok (.iload_n 1, 1) := by decide +kernel
theorem dX0_hasRule_13 : decode cX0_hasRule 13 = .ok (.iload_n 2, 1) := by decide +kernel
theorem dX0_hasRule_14 : decode cX0_hasRule 14 = .ok (.invokestatic 58, 3) := by decide +kernel
theorem dX0_hasRule_17 : decode cX0_hasRule 17 = .ok (.invokevirtual 51, 3) := by decide +kernel
theorem dX0_hasRule_20 : decode cX0_hasRule 20 = .ok (.ldc2_w 62, 3) := by decide +kernel
theorem dX0_hasRule_23 : decode cX0_hasRule 23 = .ok (.lcmp, 1) := by decide +kernel
theorem dX0_hasRule_24 : decode cX0_hasRule 24 = .ok (.ifCond .eq 7, 3) := by decide +kernel
theorem dX0_hasRule_27 : decode cX0_hasRule 27 = .ok (.iconst 1, 1) := by decide +kernel
theorem dX0_hasRule_28 : decode cX0_hasRule 28 = .ok (.goto 4, 3) := by decide +kernel
theorem dX0_hasRule_31 : decode cX0_hasRule 31 = .ok (.iconst 0, 1) := by decide +kernel
theorem dX0_hasRule_32 : decode cX0_hasRule 32 = .ok (.ireturn, 1) := by decide +kernel
set_option maxRecDepth 20000 in
theorem ggX0_feeOf_X0_hasRule : GoodIn wsX0_feeOf wsX0_hasRule := goodIn_r _ [8, 2, 1, 9, 10, 11, 7, 12, 13, 14, 15, 16, 17, 18, 19, 20, 21, 22, 32, 33, 34, 35, 36, 37, 38, 39, 40, 41, 42, 43, 44] (by decide +kernel) (by decide +kernel)
set_option maxRecDepth 20000 in
theorem gX0_feeOf_X0_hasRule : GoodIn wsX0_feeOf (wsV RX0 72 RX0 yX0_hasRule wsX0_hasRule) := goodIn_app (goodIn_of _ (by decide +kernel)) ggX0_feeOf_X0_hasRule
set_option maxRecDepth 20000 in
theorem ggX0_feeOf_X0_cellOf : GoodIn wsX0_feeOf wsX0_cellOf := goodIn_r _ [16] (by decide +kernel) (by decide +kernel)
set_option maxRecDepth 20000 in
theorem gX0_feeOf_X0_cellOf : GoodIn wsX0_feeOf (va_wsS RX0 58 yX0_cellOf wsX0_cellOf) := goodIn_app (goodIn_of _ (by decide +kernel)) ggX0_feeOf_X0_cellOf
set_option maxRecDepth 20000 in
theorem ggX0_feeOf_X5_get : GoodIn wsX0_feeOf wsX5_get := goodIn_r _ [21, 22, 44] (by decide +kernel) (by decide +kernel)
set_option maxRecDepth 20000 in
theorem gX0_feeOf_X5_get : GoodIn wsX0_feeOf (wsV RX0 51 RX5 yX5_get wsX5_get) := goodIn_app (goodIn_of _ (by decide +kernel)) ggX0_feeOf_X5_get
set_option maxRecDepth 20000 in
theorem ggX0_feeOf_X0_priceOf : GoodIn wsX0_feeOf wsX0_priceOf := goodIn_r _ [26, 27, 28, 29, 30, 31, 17, 18, 19, 20, 21, 22, 32, 33, 34, 35, 36, 37, 38, 39, 40, 41, 42, 43, 44] (by decide +kernel) (by decide +kernel)
set_option maxRecDepth 20000 in
theorem gX0_feeOf_X0_priceOf : GoodIn wsX0_feeOf (wsV RX0 76 RX0 yX0_priceOf wsX0_priceOf) := goodIn_app (goodIn_of _ (by decide +kernel)) ggX0_feeOf_X0_priceOf
theorem dX0_feeOf_0 : decode cX0_feeOf 0 = .ok (.aload_n 0, 1) := by decide +kernel
theorem dX0_feeOf_1 : decode cX0_feeOf 1 = .ok (.iload_n 1, 1) := by decide +kernel
theorem dX0_feeOf_2 : decode cX0_feeOf 2 = .ok (.iload_n 2, 1) := by decide +kernel
theorem dX0_feeOf_3 : decode cX0_feeOf 3 = .ok (.invokevirtual 72, 3) := by decide +kernel
theorem dX0_feeOf_6 : decode cX0_feeOf 6 = .ok (.ifCond .ne 7, 3) := by decide +kernel
theorem dX0_feeOf_9 : decode cX0_feeOf 9 = .ok (.ldc2_w 62, 3) := by decide +kernel
theorem dX0_feeOf_12 : decode cX0_feeOf 12 = .ok (.lreturn, 1) := by decide +kernel
theorem dX0_feeOf_13 : decode cX0_feeOf 13 = .ok (.iload_n 1, 1) := by decide +kernel
theorem dX0_feeOf_14 : decode cX0_feeOf 14 = .ok (.iload_n 2, 1) := by decide +kernel
theorem dX0_feeOf_15 : decode cX0_feeOf 15 = .ok (.invokestatic 58, 3) := by decide +kernel
theorem dX0_feeOf_18 : decode cX0_feeOf 18 = .ok (.istore 5, 2) := by decide +kernel
theorem dX0_feeOf_20 : decode cX0_feeOf 20 = .ok (.aload_n 0, 1) := by decide +kernel
theorem dX0_feeOf_21 : decode cX0_feeOf 21 = .ok (.getfield 26, 3) := by decide +kernel
theorem dX0_feeOf_24 : decode cX0_feeOf 24 = .ok (.iload 5, 2) := by decide +kernel
theorem dX0_feeOf_26 : decode cX0_feeOf 26 = .ok (.invokevirtual 51, 3) := by decide +kernel
theorem dX0_feeOf_29 : decode cX0_feeOf 29 = .ok (.lstore 6, 2) := by decide +kernel
theorem dX0_feeOf_31 : decode cX0_feeOf 31 = .ok (.lload 6, 2) := by decide +kernel
theorem dX0_feeOf_33 : decode cX0_feeOf 33 = .ok (.lconst 0, 1) := by decide +kernel
theorem dX0_feeOf_34 : decode cX0_feeOf 34 = .ok (.lcmp, 1) := by decide +kernel
theorem dX0_feeOf_35 : decode cX0_feeOf 35 = .ok (.ifCond .gt 7, 3) := by decide +kernel
theorem dX0_feeOf_38 : decode cX0_feeOf 38 = .ok (.ldc2_w 62, 3) := by decide +kernel
theorem dX0_feeOf_41 : decode cX0_feeOf 41 = .ok (.lreturn, 1) := by decide +kernel
theorem dX0_feeOf_42 : decode cX0_feeOf 42 = .ok (.aload_n 0, 1) := by decide +kernel
theorem dX0_feeOf_43 : decode cX0_feeOf 43 = .ok (.iload 5, 2) := by decide +kernel
theorem dX0_feeOf_45 : decode cX0_feeOf 45 = .ok (.lload_n 3, 1) := by decide +kernel
theorem dX0_feeOf_46 : decode cX0_feeOf 46 = .ok (.invokevirtual 76, 3) := by decide +kernel
theorem dX0_feeOf_49 : decode cX0_feeOf 49 = .ok (.lload 6, 2) := by decide +kernel
theorem dX0_feeOf_51 : decode cX0_feeOf 51 = .ok (.ldiv, 1) := by decide +kernel
theorem dX0_feeOf_52 : decode cX0_feeOf 52 = .ok (.lstore 8, 2) := by decide +kernel
theorem dX0_feeOf_54 : decode cX0_feeOf 54 = .ok (.aload_n 0, 1) := by decide +kernel
theorem dX0_feeOf_55 : decode cX0_feeOf 55 = .ok (.getfield 32, 3) := by decide +kernel
theorem dX0_feeOf_58 : decode cX0_feeOf 58 = .ok (.iload 5, 2) := by decide +kernel
theorem dX0_feeOf_60 : decode cX0_feeOf 60 = .ok (.invokevirtual 51, 3) := by decide +kernel
theorem dX0_feeOf_63 : decode cX0_feeOf 63 = .ok (.lstore 10, 2) := by decide +kernel
theorem dX0_feeOf_65 : decode cX0_feeOf 65 = .ok (.lload 10, 2) := by decide +kernel
theorem dX0_feeOf_67 : decode cX0_feeOf 67 = .ok (.ldc2_w 62, 3) := by decide +kernel
theorem dX0_feeOf_70 : decode cX0_feeOf 70 = .ok (.lcmp, 1) := by decide +kernel
theorem dX0_feeOf_71 : decode cX0_feeOf 71 = .ok (.ifCond .eq 16, 3) := by decide +kernel
theorem dX0_feeOf_74 : decode cX0_feeOf 74 = .ok (.lload 8, 2) := by decide +kernel
theorem dX0_feeOf_76 : decode cX0_feeOf 76 = .ok (.lload 10, 2) := by decide +kernel
theorem dX0_feeOf_78 : decode cX0_feeOf 78 = .ok (.lcmp, 1) := by decide +kernel
theorem dX0_feeOf_79 : decode cX0_feeOf 79 = .ok (.ifCond .le 8, 3) := by decide +kernel
theorem dX0_feeOf_82 : decode cX0_feeOf 82 = .ok (.lload 10, 2) := by decide +kernel
theorem dX0_feeOf_84 : decode cX0_feeOf 84 = .ok (.goto 5, 3) := by decide +kernel
theorem dX0_feeOf_87 : decode cX0_feeOf 87 = .ok (.lload 8, 2) := by decide +kernel
theorem dX0_feeOf_89 : decode cX0_feeOf 89 = .ok (.lreturn, 1) := by decide +kernel
set_option maxRecDepth 20000 in
theorem ggX0_priceOf_X5_get : GoodIn wsX0_priceOf wsX5_get := goodIn_r _ [10, 11, 24] (by decide +kernel) (by decide +kernel)
set_option maxRecDepth 20000 in
theorem gX0_priceOf_X5_get : GoodIn wsX0_priceOf (wsV RX0 51 RX5 yX5_get wsX5_get) := goodIn_app (goodIn_of _ (by decide +kernel)) ggX0_priceOf_X5_get
theorem dX0_priceOf_0 : decode cX0_priceOf 0 = .ok (.lconst 0, 1) := by decide +kernel
theorem dX0_priceOf_1 : decode cX0_priceOf 1 = .ok (.lstore 4, 2) := by decide +kernel
theorem dX0_priceOf_3 : decode cX0_priceOf 3 = .ok (.lconst 0, 1) := by decide +kernel
theorem dX0_priceOf_4 : decode cX0_priceOf 4 = .ok (.lstore 6, 2) := by decide +kernel
theorem dX0_priceOf_6 : decode cX0_priceOf 6 = .ok (.aload_n 0, 1) := by decide +kernel
theorem dX0_priceOf_7 : decode cX0_priceOf 7 = .ok (.getfield 29, 3) := by decide +kernel
theorem dX0_priceOf_10 : decode cX0_priceOf 10 = .ok (.iload_n 1, 1) := by decide +kernel
theorem dX0_priceOf_11 : decode cX0_priceOf 11 = .ok (.invokevirtual 51, 3) := by decide +kernel
theorem dX0_priceOf_14 : decode cX0_priceOf 14 = .ok (.lstore 8, 2) := by decide +kernel
theorem dX0_priceOf_16 : decode cX0_priceOf 16 = .ok (.aload_n 0, 1) := by decide +kernel
theorem dX0_priceOf_17 : decode cX0_priceOf 17 = .ok (.getfield 35, 3) := by decide +kernel
theorem dX0_priceOf_20 : decode cX0_priceOf 20 = .ok (.iload_n 1, 1) := by decide +kernel
theorem dX0_priceOf_21 : decode cX0_priceOf 21 = .ok (.invokevirtual 51, 3) := by decide +kernel
theorem dX0_priceOf_24 : decode cX0_priceOf 24 = .ok (.lstore 10, 2) := by decide +kernel
theorem dX0_priceOf_26 : decode cX0_priceOf 26 = .ok (.aload_n 0, 1) := by decide +kernel
theorem dX0_priceOf_27 : decode cX0_priceOf 27 = .ok (.getfield 38, 3) := by decide +kernel
theorem dX0_priceOf_30 : decode cX0_priceOf 30 = .ok (.iload_n 1, 1) := by decide +kernel
theorem dX0_priceOf_31 : decode cX0_priceOf 31 = .ok (.invokevirtual 51, 3) := by decide +kernel
theorem dX0_priceOf_34 : decode cX0_priceOf 34 = .ok (.lstore 12, 2) := by decide +kernel
theorem dX0_priceOf_36 : decode cX0_priceOf 36 = .ok (.iconst 0, 1) := by decide +kernel
theorem dX0_priceOf_37 : decode cX0_priceOf 37 = .ok (.istore 14, 2) := by decide +kernel
theorem dX0_priceOf_39 : decode cX0_priceOf 39 = .ok (.iload 14, 2) := by decide +kernel
theorem dX0_priceOf_41 : decode cX0_priceOf 41 = .ok (.bipush 66, 2) := by decide +kernel
theorem dX0_priceOf_43 : decode cX0_priceOf 43 = .ok (.if_icmp .ge 75, 3) := by decide +kernel
theorem dX0_priceOf_46 : decode cX0_priceOf 46 = .ok (.iload 14, 2) := by decide +kernel
theorem dX0_priceOf_48 : decode cX0_priceOf 48 = .ok (.i2l, 1) := by decide +kernel
theorem dX0_priceOf_49 : decode cX0_priceOf 49 = .ok (.lload 12, 2) := by decide +kernel
theorem dX0_priceOf_51 : decode cX0_priceOf 51 = .ok (.lcmp, 1) := by decide +kernel
theorem dX0_priceOf_52 : decode cX0_priceOf 52 = .ok (.ifCond .ge 66, 3) := by decide +kernel
theorem dX0_priceOf_55 : decode cX0_priceOf 55 = .ok (.lload 10, 2) := by decide +kernel
theorem dX0_priceOf_57 : decode cX0_priceOf 57 = .ok (.l2i, 1) := by decide +kernel
theorem dX0_priceOf_58 : decode cX0_priceOf 58 = .ok (.iload 14, 2) := by decide +kernel
theorem dX0_priceOf_60 : decode cX0_priceOf 60 = .ok (.iadd, 1) := by decide +kernel
theorem dX0_priceOf_61 : decode cX0_priceOf 61 = .ok (.istore 15, 2) := by decide +kernel
theorem dX0_priceOf_63 : decode cX0_priceOf 63 = .ok (.aload_n 0, 1) := by decide +kernel
theorem dX0_priceOf_64 : decode cX0_priceOf 64 = .ok (.getfield 41, 3) := by decide +kernel
theorem dX0_priceOf_67 : decode cX0_priceOf 67 = .ok (.iload 15, 2) := by decide +kernel
theorem dX0_priceOf_69 : decode cX0_priceOf 69 = .ok (.invokevirtual 51, 3) := by decide +kernel
theorem dX0_priceOf_72 : decode cX0_priceOf 72 = .ok (.lstore 16, 2) := by decide +kernel
theorem dX0_priceOf_74 : decode cX0_priceOf 74 = .ok (.lload 16, 2) := by decide +kernel
theorem dX0_priceOf_76 : decode cX0_priceOf 76 = .ok (.lload_n 2, 1) := by decide +kernel
theorem dX0_priceOf_77 : decode cX0_priceOf 77 = .ok (.lcmp, 1) := by decide +kernel
theorem dX0_priceOf_78 : decode cX0_priceOf 78 = .ok (.ifCond .lt 6, 3) := by decide +kernel
theorem dX0_priceOf_81 : decode cX0_priceOf 81 = .ok (.goto 37, 3) := by decide +kernel
theorem dX0_priceOf_84 : decode cX0_priceOf 84 = .ok (.lload 4, 2) := by decide +kernel
theorem dX0_priceOf_86 : decode cX0_priceOf 86 = .ok (.lload 16, 2) := by decide +kernel
theorem dX0_priceOf_88 : decode cX0_priceOf 88 = .ok (.lload 6, 2) := by decide +kernel
theorem dX0_priceOf_90 : decode cX0_priceOf 90 = .ok (.lsub, 1) := by decide +kernel
theorem dX0_priceOf_91 : decode cX0_priceOf 91 = .ok (.lload 8, 2) := by decide +kernel
theorem dX0_priceOf_93 : decode cX0_priceOf 93 = .ok (.lmul, 1) := by decide +kernel
theorem dX0_priceOf_94 : decode cX0_priceOf 94 = .ok (.ladd, 1) := by decide +kernel
theorem dX0_priceOf_95 : decode cX0_priceOf 95 = .ok (.lstore 4, 2) := by decide +kernel
theorem dX0_priceOf_97 : decode cX0_priceOf 97 = .ok (.lload 16, 2) := by decide +kernel
theorem dX0_priceOf_99 : decode cX0_priceOf 99 = .ok (.lstore 6, 2) := by decide +kernel
theorem dX0_priceOf_101 : decode cX0_priceOf 101 = .ok (.aload_n 0, 1) := by decide +kernel
theorem dX0_priceOf_102 : decode cX0_priceOf 102 = .ok (.getfield 44, 3) := by decide +kernel
theorem dX0_priceOf_105 : decode cX0_priceOf 105 = .ok (.iload 15, 2) := by decide +kernel
theorem dX0_priceOf_107 : decode cX0_priceOf 107 = .ok (.invokevirtual 51, 3) := by decide +kernel
theorem dX0_priceOf_110 : decode cX0_priceOf 110 = .ok (.lstore 8, 2) := by decide +kernel
theorem dX0_priceOf_112 : decode cX0_priceOf 112 = .ok (.iinc 14 1, 3) := by decide +kernel
theorem dX0_priceOf_115 : decode cX0_priceOf 115 = .ok (.goto (-76), 3) := by decide +kernel
theorem dX0_priceOf_118 : decode cX0_priceOf 118 = .ok (.lload 4, 2) := by decide +kernel
theorem dX0_priceOf_120 : decode cX0_priceOf 120 = .ok (.lload_n 2, 1) := by decide +kernel
theorem dX0_priceOf_121 : decode cX0_priceOf 121 = .ok (.lload 6, 2) := by decide +kernel
theorem dX0_priceOf_123 : decode cX0_priceOf 123 = .ok (.lsub, 1) := by decide +kernel
theorem dX0_priceOf_124 : decode cX0_priceOf 124 = .ok (.lload 8, 2) := by decide +kernel
theorem dX0_priceOf_126 : decode cX0_priceOf 126 = .ok (.lmul, 1) := by decide +kernel
theorem dX0_priceOf_127 : decode cX0_priceOf 127 = .ok (.ladd, 1) := by decide +kernel
theorem dX0_priceOf_128 : decode cX0_priceOf 128 = .ok (.lreturn, 1) := by decide +kernel
set_option maxRecDepth 20000 in
theorem ggX1_init_X5_init : GoodIn wsX1_init wsX5_init := goodIn_r _ [14, 15, 2, 3, 16, 17, 18] (by decide +kernel) (by decide +kernel)
set_option maxRecDepth 20000 in
theorem gX1_init_X5_init : GoodIn wsX1_init (wsX5_init) := ggX1_init_X5_init
theorem dX1_init_0 : decode cX1_init 0 = .ok (.aload_n 0, 1) := by decide +kernel
theorem dX1_init_1 : decode cX1_init 1 = .ok (.invokespecial 3, 3) := by decide +kernel
theorem dX1_init_4 : decode cX1_init 4 = .ok (.aload_n 0, 1) := by decide +kernel
theorem dX1_init_5 : decode cX1_init 5 = .ok (.new 9, 3) := by decide +kernel
theorem dX1_init_8 : decode cX1_init 8 = .ok (.dup, 1) := by decide +kernel
theorem dX1_init_9 : decode cX1_init 9 = .ok (.bipush 24, 2) := by decide +kernel
theorem dX1_init_11 : decode cX1_init 11 = .ok (.invokespecial 11, 3) := by decide +kernel
theorem dX1_init_14 : decode cX1_init 14 = .ok (.putfield 14, 3) := by decide +kernel
theorem dX1_init_17 : decode cX1_init 17 = .ok (.aload_n 0, 1) := by decide +kernel
theorem dX1_init_18 : decode cX1_init 18 = .ok (.new 9, 3) := by decide +kernel
theorem dX1_init_21 : decode cX1_init 21 = .ok (.dup, 1) := by decide +kernel
theorem dX1_init_22 : decode cX1_init 22 = .ok (.bipush 24, 2) := by decide +kernel
theorem dX1_init_24 : decode cX1_init 24 = .ok (.invokespecial 11, 3) := by decide +kernel
theorem dX1_init_27 : decode cX1_init 27 = .ok (.putfield 20, 3) := by decide +kernel
theorem dX1_init_30 : decode cX1_init 30 = .ok (.aload_n 0, 1) := by decide +kernel
theorem dX1_init_31 : decode cX1_init 31 = .ok (.new 9, 3) := by decide +kernel
theorem dX1_init_34 : decode cX1_init 34 = .ok (.dup, 1) := by decide +kernel
theorem dX1_init_35 : decode cX1_init 35 = .ok (.bipush 24, 2) := by decide +kernel
theorem dX1_init_37 : decode cX1_init 37 = .ok (.invokespecial 11, 3) := by decide +kernel
theorem dX1_init_40 : decode cX1_init 40 = .ok (.putfield 23, 3) := by decide +kernel
theorem dX1_init_43 : decode cX1_init 43 = .ok (.aload_n 0, 1) := by decide +kernel
theorem dX1_init_44 : decode cX1_init 44 = .ok (.new 9, 3) := by decide +kernel
theorem dX1_init_47 : decode cX1_init 47 = .ok (.dup, 1) := by decide +kernel
theorem dX1_init_48 : decode cX1_init 48 = .ok (.bipush 24, 2) := by decide +kernel
theorem dX1_init_50 : decode cX1_init 50 = .ok (.invokespecial 11, 3) := by decide +kernel
theorem dX1_init_53 : decode cX1_init 53 = .ok (.putfield 26, 3) := by decide +kernel
theorem dX1_init_56 : decode cX1_init 56 = .ok (.aload_n 0, 1) := by decide +kernel
theorem dX1_init_57 : decode cX1_init 57 = .ok (.new 9, 3) := by decide +kernel
theorem dX1_init_60 : decode cX1_init 60 = .ok (.dup, 1) := by decide +kernel
theorem dX1_init_61 : decode cX1_init 61 = .ok (.bipush 24, 2) := by decide +kernel
theorem dX1_init_63 : decode cX1_init 63 = .ok (.invokespecial 11, 3) := by decide +kernel
theorem dX1_init_66 : decode cX1_init 66 = .ok (.putfield 29, 3) := by decide +kernel
theorem dX1_init_69 : decode cX1_init 69 = .ok (.return_, 1) := by decide +kernel
set_option maxRecDepth 20000 in
theorem ggX1_add_X5_set : GoodIn wsX1_add wsX5_set := goodIn_r _ [11, 12, 19] (by decide +kernel) (by decide +kernel)
set_option maxRecDepth 20000 in
theorem gX1_add_X5_set : GoodIn wsX1_add (wsV RX1 36 RX5 yX5_set wsX5_set) := goodIn_app (goodIn_of _ (by decide +kernel)) ggX1_add_X5_set
theorem dX1_add_0 : decode cX1_add 0 = .ok (.aload_n 0, 1) := by decide +kernel
theorem dX1_add_1 : decode cX1_add 1 = .ok (.getfield 32, 3) := by decide +kernel
theorem dX1_add_4 : decode cX1_add 4 = .ok (.bipush 24, 2) := by decide +kernel
theorem dX1_add_6 : decode cX1_add 6 = .ok (.if_icmp .lt 5, 3) := by decide +kernel
theorem dX1_add_9 : decode cX1_add 9 = .ok (.iconst (-1), 1) := by decide +kernel
theorem dX1_add_10 : decode cX1_add 10 = .ok (.ireturn, 1) := by decide +kernel
theorem dX1_add_11 : decode cX1_add 11 = .ok (.aload_n 0, 1) := by decide +kernel
theorem dX1_add_12 : decode cX1_add 12 = .ok (.getfield 32, 3) := by decide +kernel
theorem dX1_add_15 : decode cX1_add 15 = .ok (.istore 9, 2) := by decide +kernel
theorem dX1_add_17 : decode cX1_add 17 = .ok (.aload_n 0, 1) := by decide +kernel
theorem dX1_add_18 : decode cX1_add 18 = .ok (.getfield 14, 3) := by decide +kernel
theorem dX1_add_21 : decode cX1_add 21 = .ok (.iload 9, 2) := by decide +kernel
theorem dX1_add_23 : decode cX1_add 23 = .ok (.iload_n 1, 1) := by decide +kernel
theorem dX1_add_24 : decode cX1_add 24 = .ok (.i2l, 1) := by decide +kernel
theorem dX1_add_25 : decode cX1_add 25 = .ok (.invokevirtual 36, 3) := by decide +kernel
theorem dX1_add_28 : decode cX1_add 28 = .ok (.aload_n 0, 1) := by decide +kernel
theorem dX1_add_29 : decode cX1_add 29 = .ok (.getfield 20, 3) := by decide +kernel
theorem dX1_add_32 : decode cX1_add 32 = .ok (.iload 9, 2) := by decide +kernel
theorem dX1_add_34 : decode cX1_add 34 = .ok (.iload_n 2, 1) := by decide +kernel
theorem dX1_add_35 : decode cX1_add 35 = .ok (.i2l, 1) := by decide +kernel
theorem dX1_add_36 : decode cX1_add 36 = .ok (.invokevirtual 36, 3) := by decide +kernel
theorem dX1_add_39 : decode cX1_add 39 = .ok (.aload_n 0, 1) := by decide +kernel
theorem dX1_add_40 : decode cX1_add 40 = .ok (.getfield 23, 3) := by decide +kernel
theorem dX1_add_43 : decode cX1_add 43 = .ok (.iload 9, 2) := by decide +kernel
theorem dX1_add_45 : decode cX1_add 45 = .ok (.lload_n 3, 1) := by decide +kernel
theorem dX1_add_46 : decode cX1_add 46 = .ok (.invokevirtual 36, 3) := by decide +kernel
theorem dX1_add_49 : decode cX1_add 49 = .ok (.aload_n 0, 1) := by decide +kernel
theorem dX1_add_50 : decode cX1_add 50 = .ok (.getfield 26, 3) := by decide +kernel
theorem dX1_add_53 : decode cX1_add 53 = .ok (.iload 9, 2) := by decide +kernel
theorem dX1_add_55 : decode cX1_add 55 = .ok (.lload 5, 2) := by decide +kernel
theorem dX1_add_57 : decode cX1_add 57 = .ok (.invokevirtual 36, 3) := by decide +kernel
theorem dX1_add_60 : decode cX1_add 60 = .ok (.aload_n 0, 1) := by decide +kernel
theorem dX1_add_61 : decode cX1_add 61 = .ok (.getfield 29, 3) := by decide +kernel
theorem dX1_add_64 : decode cX1_add 64 = .ok (.iload 9, 2) := by decide +kernel
theorem dX1_add_66 : decode cX1_add 66 = .ok (.lload 7, 2) := by decide +kernel
theorem dX1_add_68 : decode cX1_add 68 = .ok (.invokevirtual 36, 3) := by decide +kernel
theorem dX1_add_71 : decode cX1_add 71 = .ok (.aload_n 0, 1) := by decide +kernel
theorem dX1_add_72 : decode cX1_add 72 = .ok (.dup, 1) := by decide +kernel
theorem dX1_add_73 : decode cX1_add 73 = .ok (.getfield 32, 3) := by decide +kernel
theorem dX1_add_76 : decode cX1_add 76 = .ok (.iconst 1, 1) := by decide +kernel
theorem dX1_add_77 : decode cX1_add 77 = .ok (.iadd, 1) := by decide +kernel
theorem dX1_add_78 : decode cX1_add 78 = .ok (.putfield 32, 3) := by decide +kernel
theorem dX1_add_81 : decode cX1_add 81 = .ok (.iload 9, 2) := by decide +kernel
theorem dX1_add_83 : decode cX1_add 83 = .ok (.ireturn, 1) := by decide +kernel
theorem dX1_count_0 : decode cX1_count 0 = .ok (.aload_n 0, 1) := by decide +kernel
theorem dX1_count_1 : decode cX1_count 1 = .ok (.getfield 32, 3) := by decide +kernel
theorem dX1_count_4 : decode cX1_count 4 = .ok (.ireturn, 1) := by decide +kernel
set_option maxRecDepth 20000 in
theorem ggX1_houseOf_X5_get : GoodIn wsX1_houseOf wsX5_get := goodIn_r _ [6, 7, 14] (by decide +kernel) (by decide +kernel)
set_option maxRecDepth 20000 in
theorem gX1_houseOf_X5_get : GoodIn wsX1_houseOf (wsV RX1 40 RX5 yX5_get wsX5_get) := goodIn_app (goodIn_of _ (by decide +kernel)) ggX1_houseOf_X5_get
theorem dX1_houseOf_0 : decode cX1_houseOf 0 = .ok (.aload_n 0, 1) := by decide +kernel
theorem dX1_houseOf_1 : decode cX1_houseOf 1 = .ok (.getfield 14, 3) := by decide +kernel
theorem dX1_houseOf_4 : decode cX1_houseOf 4 = .ok (.iload_n 1, 1) := by decide +kernel
theorem dX1_houseOf_5 : decode cX1_houseOf 5 = .ok (.invokevirtual 40, 3) := by decide +kernel
theorem dX1_houseOf_8 : decode cX1_houseOf 8 = .ok (.l2i, 1) := by decide +kernel
theorem dX1_houseOf_9 : decode cX1_houseOf 9 = .ok (.ireturn, 1) := by decide +kernel
set_option maxRecDepth 20000 in
theorem ggX1_kindOf_X5_get : GoodIn wsX1_kindOf wsX5_get := goodIn_r _ [6, 7, 14] (by decide +kernel) (by decide +kernel)
set_option maxRecDepth 20000 in
theorem gX1_kindOf_X5_get : GoodIn wsX1_kindOf (wsV RX1 40 RX5 yX5_get wsX5_get) := goodIn_app (goodIn_of _ (by decide +kernel)) ggX1_kindOf_X5_get
theorem dX1_kindOf_0 : decode cX1_kindOf 0 = .ok (.aload_n 0, 1) := by decide +kernel
theorem dX1_kindOf_1 : decode cX1_kindOf 1 = .ok (.getfield 20, 3) := by decide +kernel
theorem dX1_kindOf_4 : decode cX1_kindOf 4 = .ok (.iload_n 1, 1) := by decide +kernel
theorem dX1_kindOf_5 : decode cX1_kindOf 5 = .ok (.invokevirtual 40, 3) := by decide +kernel
theorem dX1_kindOf_8 : decode cX1_kindOf 8 = .ok (.l2i, 1) := by decide +kernel
theorem dX1_kindOf_9 : decode cX1_kindOf 9 = .ok (.ireturn, 1) := by decide +kernel
set_option maxRecDepth 20000 in
theorem ggX1_dayOf_X5_get : GoodIn wsX1_dayOf wsX5_get := goodIn_r _ [6, 7, 14] (by decide +kernel) (by decide +kernel)
set_option maxRecDepth 20000 in
theorem gX1_dayOf_X5_get : GoodIn wsX1_dayOf (wsV RX1 40 RX5 yX5_get wsX5_get) := goodIn_app (goodIn_of _ (by decide +kernel)) ggX1_dayOf_X5_get
theorem dX1_dayOf_0 : decode cX1_dayOf 0 = .ok (.aload_n 0, 1) := by decide +kernel
theorem dX1_dayOf_1 : decode cX1_dayOf 1 = .ok (.getfield 23, 3) := by decide +kernel
theorem dX1_dayOf_4 : decode cX1_dayOf 4 = .ok (.iload_n 1, 1) := by decide +kernel
theorem dX1_dayOf_5 : decode cX1_dayOf 5 = .ok (.invokevirtual 40, 3) := by decide +kernel
theorem dX1_dayOf_8 : decode cX1_dayOf 8 = .ok (.lreturn, 1) := by decide +kernel
set_option maxRecDepth 20000 in
theorem ggX1_measureOf_X5_get : GoodIn wsX1_measureOf wsX5_get := goodIn_r _ [6, 7, 14] (by decide +kernel) (by decide +kernel)
set_option maxRecDepth 20000 in
theorem gX1_measureOf_X5_get : GoodIn wsX1_measureOf (wsV RX1 40 RX5 yX5_get wsX5_get) := goodIn_app (goodIn_of _ (by decide +kernel)) ggX1_measureOf_X5_get
theorem dX1_measureOf_0 : decode cX1_measureOf 0 = .ok (.aload_n 0, 1) := by decide +kernel
theorem dX1_measureOf_1 : decode cX1_measureOf 1 = .ok (.getfield 26, 3) := by decide +kernel
theorem dX1_measureOf_4 : decode cX1_measureOf 4 = .ok (.iload_n 1, 1) := by decide +kernel
theorem dX1_measureOf_5 : decode cX1_measureOf 5 = .ok (.invokevirtual 40, 3) := by decide +kernel
theorem dX1_measureOf_8 : decode cX1_measureOf 8 = .ok (.lreturn, 1) := by decide +kernel
set_option maxRecDepth 20000 in
theorem ggX1_isOf_X5_get : GoodIn wsX1_isOf wsX5_get := goodIn_r _ [9, 10, 17] (by decide +kernel) (by decide +kernel)
set_option maxRecDepth 20000 in
theorem gX1_isOf_X5_get : GoodIn wsX1_isOf (wsV RX1 40 RX5 yX5_get wsX5_get) := goodIn_app (goodIn_of _ (by decide +kernel)) ggX1_isOf_X5_get
theorem dX1_isOf_0 : decode cX1_isOf 0 = .ok (.aload_n 0, 1) := by decide +kernel
theorem dX1_isOf_1 : decode cX1_isOf 1 = .ok (.getfield 14, 3) := by decide +kernel
theorem dX1_isOf_4 : decode cX1_isOf 4 = .ok (.iload_n 1, 1) := by decide +kernel
theorem dX1_isOf_5 : decode cX1_isOf 5 = .ok (.invokevirtual 40, 3) := by decide +kernel
theorem dX1_isOf_8 : decode cX1_isOf 8 = .ok (.iload_n 2, 1) := by decide +kernel
theorem dX1_isOf_9 : decode cX1_isOf 9 = .ok (.i2l, 1) := by decide +kernel
theorem dX1_isOf_10 : decode cX1_isOf 10 = .ok (.lcmp, 1) := by decide +kernel
theorem dX1_isOf_11 : decode cX1_isOf 11 = .ok (.ifCond .ne 39, 3) := by decide +kernel
theorem dX1_isOf_14 : decode cX1_isOf 14 = .ok (.aload_n 0, 1) := by decide +kernel
theorem dX1_isOf_15 : decode cX1_isOf 15 = .ok (.getfield 23, 3) := by decide +kernel
theorem dX1_isOf_18 : decode cX1_isOf 18 = .ok (.iload_n 1, 1) := by decide +kernel
theorem dX1_isOf_19 : decode cX1_isOf 19 = .ok (.invokevirtual 40, 3) := by decide +kernel
theorem dX1_isOf_22 : decode cX1_isOf 22 = .ok (.ldc2_w 44, 3) := by decide +kernel
theorem dX1_isOf_25 : decode cX1_isOf 25 = .ok (.ldiv, 1) := by decide +kernel
theorem dX1_isOf_26 : decode cX1_isOf 26 = .ok (.iload_n 3, 1) := by decide +kernel
theorem dX1_isOf_27 : decode cX1_isOf 27 = .ok (.i2l, 1) := by decide +kernel
theorem dX1_isOf_28 : decode cX1_isOf 28 = .ok (.lcmp, 1) := by decide +kernel
theorem dX1_isOf_29 : decode cX1_isOf 29 = .ok (.ifCond .ne 21, 3) := by decide +kernel
theorem dX1_isOf_32 : decode cX1_isOf 32 = .ok (.aload_n 0, 1) := by decide +kernel
theorem dX1_isOf_33 : decode cX1_isOf 33 = .ok (.getfield 29, 3) := by decide +kernel
theorem dX1_isOf_36 : decode cX1_isOf 36 = .ok (.iload_n 1, 1) := by decide +kernel
theorem dX1_isOf_37 : decode cX1_isOf 37 = .ok (.invokevirtual 40, 3) := by decide +kernel
theorem dX1_isOf_40 : decode cX1_isOf 40 = .ok (.lload 4, 2) := by decide +kernel
theorem dX1_isOf_42 : decode cX1_isOf 42 = .ok (.lcmp, 1) := by decide +kernel
theorem dX1_isOf_43 : decode cX1_isOf 43 = .ok (.ifCond .gt 7, 3) := by decide +kernel
theorem dX1_isOf_46 : decode cX1_isOf 46 = .ok (.iconst 1, 1) := by decide +kernel
theorem dX1_isOf_47 : decode cX1_isOf 47 = .ok (.goto 4, 3) := by decide +kernel
theorem dX1_isOf_50 : decode cX1_isOf 50 = .ok (.iconst 0, 1) := by decide +kernel
theorem dX1_isOf_51 : decode cX1_isOf 51 = .ok (.ireturn, 1) := by decide +kernel
end
section
set_option maxRecDepth 20000 in
theorem ggX2_init_X5_init : GoodIn wsX2_init wsX5_init := goodIn_r _ [14, 15, 2, 3, 16, 17, 18] (by decide +kernel) (by decide +kernel)
set_option maxRecDepth 20000 in
theorem gX2_init_X5_init : GoodIn wsX2_init (wsX5_init) := ggX2_init_X5_init
theorem dX2_init_0 : decode cX2_init 0 = .ok (.aload_n 0, 1) := by decide +kernel
theorem dX2_init_1 : decode cX2_init 1 = .ok (.invokespecial 3, 3) := by decide +kernel
theorem dX2_init_4 : decode cX2_init 4 = .ok (.aload_n 0, 1) := by decide +kernel
theorem dX2_init_5 : decode cX2_init 5 = .ok (.new 9, 3) := by decide +kernel
theorem dX2_init_8 : decode cX2_init 8 = .ok (.dup, 1) := by decide +kernel
theorem dX2_init_9 : decode cX2_init 9 = .ok (.bipush 24, 2) := by decide +kernel
theorem dX2_init_11 : decode cX2_init 11 = .ok (.invokespecial 11, 3) := by decide +kernel
theorem dX2_init_14 : decode cX2_init 14 = .ok (.putfield 14, 3) := by decide +kernel
theorem dX2_init_17 : decode cX2_init 17 = .ok (.aload_n 0, 1) := by decide +kernel
theorem dX2_init_18 : decode cX2_init 18 = .ok (.new 9, 3) := by decide +kernel
theorem dX2_init_21 : decode cX2_init 21 = .ok (.dup, 1) := by decide +kernel
theorem dX2_init_22 : decode cX2_init 22 = .ok (.bipush 24, 2) := by decide +kernel
theorem dX2_init_24 : decode cX2_init 24 = .ok (.invokespecial 11, 3) := by decide +kernel
theorem dX2_init_27 : decode cX2_init 27 = .ok (.putfield 20, 3) := by decide +kernel
theorem dX2_init_30 : decode cX2_init 30 = .ok (.aload_n 0, 1) := by decide +kernel
theorem dX2_init_31 : decode cX2_init 31 = .ok (.new 9, 3) := by decide +kernel
theorem dX2_init_34 : decode cX2_init 34 = .ok (.dup, 1) := by decide +kernel
theorem dX2_init_35 : decode cX2_init 35 = .ok (.bipush 24, 2) := by decide +kernel
theorem dX2_init_37 : decode cX2_init 37 = .ok (.invokespecial 11, 3) := by decide +kernel
theorem dX2_init_40 : decode cX2_init 40 = .ok (.putfield 23, 3) := by decide +kernel
theorem dX2_init_43 : decode cX2_init 43 = .ok (.aload_n 0, 1) := by decide +kernel
theorem dX2_init_44 : decode cX2_init 44 = .ok (.new 9, 3) := by decide +kernel
theorem dX2_init_47 : decode cX2_init 47 = .ok (.dup, 1) := by decide +kernel
theorem dX2_init_48 : decode cX2_init 48 = .ok (.bipush 24, 2) := by decide +kernel
theorem dX2_init_50 : decode cX2_init 50 = .ok (.invokespecial 11, 3) := by decide +kernel
theorem dX2_init_53 : decode cX2_init 53 = .ok (.putfield 26, 3) := by decide +kernel
theorem dX2_init_56 : decode cX2_init 56 = .ok (.aload_n 0, 1) := by decide +kernel
theorem dX2_init_57 : decode cX2_init 57 = .ok (.new 9, 3) := by decide +kernel
theorem dX2_init_60 : decode cX2_init 60 = .ok (.dup, 1) := by decide +kernel
theorem dX2_init_61 : decode cX2_init 61 = .ok (.sipush 552, 3) := by decide +kernel
theorem dX2_init_64 : decode cX2_init 64 = .ok (.invokespecial 11, 3) := by decide +kernel
theorem dX2_init_67 : decode cX2_init 67 = .ok (.putfield 29, 3) := by decide +kernel
theorem dX2_init_70 : decode cX2_init 70 = .ok (.return_, 1) := by decide +kernel
theorem dX2_clear_0 : decode cX2_clear 0 = .ok (.aload_n 0, 1) := by decide +kernel
theorem dX2_clear_1 : decode cX2_clear 1 = .ok (.iconst 0, 1) := by decide +kernel
theorem dX2_clear_2 : decode cX2_clear 2 = .ok (.putfield 32, 3) := by decide +kernel
theorem dX2_clear_5 : decode cX2_clear 5 = .ok (.aload_n 0, 1) := by decide +kernel
theorem dX2_clear_6 : decode cX2_clear 6 = .ok (.iconst 0, 1) := by decide +kernel
theorem dX2_clear_7 : decode cX2_clear 7 = .ok (.putfield 36, 3) := by decide +kernel
theorem dX2_clear_10 : decode cX2_clear 10 = .ok (.return_, 1) := by decide +kernel
set_option maxRecDepth 20000 in
theorem ggX2_add_X5_set : GoodIn wsX2_add wsX5_set := goodIn_r _ [10, 11, 19] (by decide +kernel) (by decide +kernel)
set_option maxRecDepth 20000 in
theorem gX2_add_X5_set : GoodIn wsX2_add (wsV RX2 39 RX5 yX5_set wsX5_set) := goodIn_app (goodIn_of _ (by decide +kernel)) ggX2_add_X5_set
theorem dX2_add_0 : decode cX2_add 0 = .ok (.aload_n 0, 1) := by decide +kernel
theorem dX2_add_1 : decode cX2_add 1 = .ok (.getfield 14, 3) := by decide +kernel
theorem dX2_add_4 : decode cX2_add 4 = .ok (.aload_n 0, 1) := by decide +kernel
theorem dX2_add_5 : decode cX2_add 5 = .ok (.getfield 32, 3) := by decide +kernel
theorem dX2_add_8 : decode cX2_add 8 = .ok (.iload_n 1, 1) := by decide +kernel
theorem dX2_add_9 : decode cX2_add 9 = .ok (.i2l, 1) := by decide +kernel
theorem dX2_add_10 : decode cX2_add 10 = .ok (.invokevirtual 39, 3) := by decide +kernel
theorem dX2_add_13 : decode cX2_add 13 = .ok (.aload_n 0, 1) := by decide +kernel
theorem dX2_add_14 : decode cX2_add 14 = .ok (.getfield 20, 3) := by decide +kernel
theorem dX2_add_17 : decode cX2_add 17 = .ok (.aload_n 0, 1) := by decide +kernel
theorem dX2_add_18 : decode cX2_add 18 = .ok (.getfield 32, 3) := by decide +kernel
theorem dX2_add_21 : decode cX2_add 21 = .ok (.lload_n 2, 1) := by decide +kernel
theorem dX2_add_22 : decode cX2_add 22 = .ok (.invokevirtual 39, 3) := by decide +kernel
theorem dX2_add_25 : decode cX2_add 25 = .ok (.aload_n 0, 1) := by decide +kernel
theorem dX2_add_26 : decode cX2_add 26 = .ok (.getfield 23, 3) := by decide +kernel
theorem dX2_add_29 : decode cX2_add 29 = .ok (.aload_n 0, 1) := by decide +kernel
theorem dX2_add_30 : decode cX2_add 30 = .ok (.getfield 32, 3) := by decide +kernel
theorem dX2_add_33 : decode cX2_add 33 = .ok (.iload 4, 2) := by decide +kernel
theorem dX2_add_35 : decode cX2_add 35 = .ok (.i2l, 1) := by decide +kernel
theorem dX2_add_36 : decode cX2_add 36 = .ok (.invokevirtual 39, 3) := by decide +kernel
theorem dX2_add_39 : decode cX2_add 39 = .ok (.aload_n 0, 1) := by decide +kernel
theorem dX2_add_40 : decode cX2_add 40 = .ok (.getfield 26, 3) := by decide +kernel
theorem dX2_add_43 : decode cX2_add 43 = .ok (.aload_n 0, 1) := by decide +kernel
theorem dX2_add_44 : decode cX2_add 44 = .ok (.getfield 32, 3) := by decide +kernel
theorem dX2_add_47 : decode cX2_add 47 = .ok (.iload 5, 2) := by decide +kernel
theorem dX2_add_49 : decode cX2_add 49 = .ok (.i2l, 1) := by decide +kernel
theorem dX2_add_50 : decode cX2_add 50 = .ok (.invokevirtual 39, 3) := by decide +kernel
theorem dX2_add_53 : decode cX2_add 53 = .ok (.aload_n 0, 1) := by decide +kernel
theorem dX2_add_54 : decode cX2_add 54 = .ok (.dup, 1) := by decide +kernel
theorem dX2_add_55 : decode cX2_add 55 = .ok (.getfield 32, 3) := by decide +kernel
theorem dX2_add_58 : decode cX2_add 58 = .ok (.iconst 1, 1) := by decide +kernel
theorem dX2_add_59 : decode cX2_add 59 = .ok (.iadd, 1) := by decide +kernel
theorem dX2_add_60 : decode cX2_add 60 = .ok (.putfield 32, 3) := by decide +kernel
theorem dX2_add_63 : decode cX2_add 63 = .ok (.return_, 1) := by decide +kernel
theorem dX2_count_0 : decode cX2_count 0 = .ok (.aload_n 0, 1) := by decide +kernel
theorem dX2_count_1 : decode cX2_count 1 = .ok (.getfield 32, 3) := by decide +kernel
theorem dX2_count_4 : decode cX2_count 4 = .ok (.ireturn, 1) := by decide +kernel
theorem dX2_has_0 : decode cX2_has 0 = .ok (.iload_n 1, 1) := by decide +kernel
theorem dX2_has_1 : decode cX2_has 1 = .ok (.ifCond .lt 15, 3) := by decide +kernel
theorem dX2_has_4 : decode cX2_has 4 = .ok (.iload_n 1, 1) := by decide +kernel
theorem dX2_has_5 : decode cX2_has 5 = .ok (.aload_n 0, 1) := by decide +kernel
theorem dX2_has_6 : decode cX2_has 6 = .ok (.getfield 32, 3) := by decide +kernel
theorem dX2_has_9 : decode cX2_has 9 = .ok (.if_icmp .ge 7, 3) := by decide +kernel
theorem dX2_has_12 : decode cX2_has 12 = .ok (.iconst 1, 1) := by decide +kernel
theorem dX2_has_13 : decode cX2_has 13 = .ok (.goto 4, 3) := by decide +kernel
theorem dX2_has_16 : decode cX2_has 16 = .ok (.iconst 0, 1) := by decide +kernel
theorem dX2_has_17 : decode cX2_has 17 = .ok (.ireturn, 1) := by decide +kernel
set_option maxRecDepth 20000 in
theorem ggX2_factOf_X5_get : GoodIn wsX2_factOf wsX5_get := goodIn_r _ [6, 7, 15] (by decide +kernel) (by decide +kernel)
set_option maxRecDepth 20000 in
theorem gX2_factOf_X5_get : GoodIn wsX2_factOf (wsV RX2 43 RX5 yX5_get wsX5_get) := goodIn_app (goodIn_of _ (by decide +kernel)) ggX2_factOf_X5_get
theorem dX2_factOf_0 : decode cX2_factOf 0 = .ok (.aload_n 0, 1) := by decide +kernel
theorem dX2_factOf_1 : decode cX2_factOf 1 = .ok (.getfield 14, 3) := by decide +kernel
theorem dX2_factOf_4 : decode cX2_factOf 4 = .ok (.iload_n 1, 1) := by decide +kernel
theorem dX2_factOf_5 : decode cX2_factOf 5 = .ok (.invokevirtual 43, 3) := by decide +kernel
theorem dX2_factOf_8 : decode cX2_factOf 8 = .ok (.lreturn, 1) := by decide +kernel
set_option maxRecDepth 20000 in
theorem ggX2_centsOf_X5_get : GoodIn wsX2_centsOf wsX5_get := goodIn_r _ [6, 7, 15] (by decide +kernel) (by decide +kernel)
set_option maxRecDepth 20000 in
theorem gX2_centsOf_X5_get : GoodIn wsX2_centsOf (wsV RX2 43 RX5 yX5_get wsX5_get) := goodIn_app (goodIn_of _ (by decide +kernel)) ggX2_centsOf_X5_get
theorem dX2_centsOf_0 : decode cX2_centsOf 0 = .ok (.aload_n 0, 1) := by decide +kernel
theorem dX2_centsOf_1 : decode cX2_centsOf 1 = .ok (.getfield 20, 3) := by decide +kernel
theorem dX2_centsOf_4 : decode cX2_centsOf 4 = .ok (.iload_n 1, 1) := by decide +kernel
theorem dX2_centsOf_5 : decode cX2_centsOf 5 = .ok (.invokevirtual 43, 3) := by decide +kernel
theorem dX2_centsOf_8 : decode cX2_centsOf 8 = .ok (.lreturn, 1) := by decide +kernel
set_option maxRecDepth 20000 in
theorem ggX2_editionOf_X5_get : GoodIn wsX2_editionOf wsX5_get := goodIn_r _ [6, 7, 15] (by decide +kernel) (by decide +kernel)
set_option maxRecDepth 20000 in
theorem gX2_editionOf_X5_get : GoodIn wsX2_editionOf (wsV RX2 43 RX5 yX5_get wsX5_get) := goodIn_app (goodIn_of _ (by decide +kernel)) ggX2_editionOf_X5_get
theorem dX2_editionOf_0 : decode cX2_editionOf 0 = .ok (.aload_n 0, 1) := by decide +kernel
theorem dX2_editionOf_1 : decode cX2_editionOf 1 = .ok (.getfield 23, 3) := by decide +kernel
theorem dX2_editionOf_4 : decode cX2_editionOf 4 = .ok (.iload_n 1, 1) := by decide +kernel
theorem dX2_editionOf_5 : decode cX2_editionOf 5 = .ok (.invokevirtual 43, 3) := by decide +kernel
theorem dX2_editionOf_8 : decode cX2_editionOf 8 = .ok (.lreturn, 1) := by decide +kernel
set_option maxRecDepth 20000 in
theorem ggX2_lackOf_X5_get : GoodIn wsX2_lackOf wsX5_get := goodIn_r _ [6, 7, 15] (by decide +kernel) (by decide +kernel)
set_option maxRecDepth 20000 in
theorem gX2_lackOf_X5_get : GoodIn wsX2_lackOf (wsV RX2 43 RX5 yX5_get wsX5_get) := goodIn_app (goodIn_of _ (by decide +kernel)) ggX2_lackOf_X5_get
theorem dX2_lackOf_0 : decode cX2_lackOf 0 = .ok (.aload_n 0, 1) := by decide +kernel
theorem dX2_lackOf_1 : decode cX2_lackOf 1 = .ok (.getfield 26, 3) := by decide +kernel
theorem dX2_lackOf_4 : decode cX2_lackOf 4 = .ok (.iload_n 1, 1) := by decide +kernel
theorem dX2_lackOf_5 : decode cX2_lackOf 5 = .ok (.invokevirtual 43, 3) := by decide +kernel
theorem dX2_lackOf_8 : decode cX2_lackOf 8 = .ok (.lreturn, 1) := by decide +kernel
set_option maxRecDepth 20000 in
theorem ggX2_openFact_X5_get : GoodIn wsX2_openFact wsX5_get := goodIn_r _ [8, 9, 17] (by decide +kernel) (by decide +kernel)
set_option maxRecDepth 20000 in
theorem gX2_openFact_X5_get : GoodIn wsX2_openFact (wsV RX2 43 RX5 yX5_get wsX5_get) := goodIn_app (goodIn_of _ (by decide +kernel)) ggX2_openFact_X5_get
theorem dX2_openFact_0 : decode cX2_openFact 0 = .ok (.iconst 0, 1) := by decide +kernel
theorem dX2_openFact_1 : decode cX2_openFact 1 = .ok (.istore_n 2, 1) := by decide +kernel
theorem dX2_openFact_2 : decode cX2_openFact 2 = .ok (.iconst 0, 1) := by decide +kernel
theorem dX2_openFact_3 : decode cX2_openFact 3 = .ok (.istore_n 3, 1) := by decide +kernel
theorem dX2_openFact_4 : decode cX2_openFact 4 = .ok (.iload_n 3, 1) := by decide +kernel
theorem dX2_openFact_5 : decode cX2_openFact 5 = .ok (.aload_n 0, 1) := by decide +kernel
theorem dX2_openFact_6 : decode cX2_openFact 6 = .ok (.getfield 32, 3) := by decide +kernel
theorem dX2_openFact_9 : decode cX2_openFact 9 = .ok (.if_icmp .ge 40, 3) := by decide +kernel
theorem dX2_openFact_12 : decode cX2_openFact 12 = .ok (.aload_n 0, 1) := by decide +kernel
theorem dX2_openFact_13 : decode cX2_openFact 13 = .ok (.getfield 26, 3) := by decide +kernel
theorem dX2_openFact_16 : decode cX2_openFact 16 = .ok (.iload_n 3, 1) := by decide +kernel
theorem dX2_openFact_17 : decode cX2_openFact 17 = .ok (.invokevirtual 43, 3) := by decide +kernel
theorem dX2_openFact_20 : decode cX2_openFact 20 = .ok (.lconst 0, 1) := by decide +kernel
theorem dX2_openFact_21 : decode cX2_openFact 21 = .ok (.lcmp, 1) := by decide +kernel
theorem dX2_openFact_22 : decode cX2_openFact 22 = .ok (.ifCond .eq 21, 3) := by decide +kernel
theorem dX2_openFact_25 : decode cX2_openFact 25 = .ok (.iload_n 2, 1) := by decide +kernel
theorem dX2_openFact_26 : decode cX2_openFact 26 = .ok (.iload_n 1, 1) := by decide +kernel
theorem dX2_openFact_27 : decode cX2_openFact 27 = .ok (.if_icmp .ne 13, 3) := by decide +kernel
theorem dX2_openFact_30 : decode cX2_openFact 30 = .ok (.aload_n 0, 1) := by decide +kernel
theorem dX2_openFact_31 : decode cX2_openFact 31 = .ok (.getfield 14, 3) := by decide +kernel
theorem dX2_openFact_34 : decode cX2_openFact 34 = .ok (.iload_n 3, 1) := by decide +kernel
theorem dX2_openFact_35 : decode cX2_openFact 35 = .ok (.invokevirtual 43, 3) := by decide +kernel
theorem dX2_openFact_38 : decode cX2_openFact 38 = .ok (.l2i, 1) := by decide +kernel
theorem dX2_openFact_39 : decode cX2_openFact 39 = .ok (.ireturn, 1) := by decide +kernel
theorem dX2_openFact_40 : decode cX2_openFact 40 = .ok (.iinc 2 1, 3) := by decide +kernel
theorem dX2_openFact_43 : decode cX2_openFact 43 = .ok (.iinc 3 1, 3) := by decide +kernel
theorem dX2_openFact_46 : decode cX2_openFact 46 = .ok (.goto (-42), 3) := by decide +kernel
theorem dX2_openFact_49 : decode cX2_openFact 49 = .ok (.iconst (-1), 1) := by decide +kernel
theorem dX2_openFact_50 : decode cX2_openFact 50 = .ok (.ireturn, 1) := by decide +kernel
set_option maxRecDepth 20000 in
theorem ggX2_printedByte_X5_get : GoodIn wsX2_printedByte wsX5_get := goodIn_r _ [7, 8, 16] (by decide +kernel) (by decide +kernel)
set_option maxRecDepth 20000 in
theorem gX2_printedByte_X5_get : GoodIn wsX2_printedByte (wsV RX2 43 RX5 yX5_get wsX5_get) := goodIn_app (goodIn_of _ (by decide +kernel)) ggX2_printedByte_X5_get
theorem dX2_printedByte_0 : decode cX2_printedByte 0 = .ok (.iload_n 1, 1) := by decide +kernel
theorem dX2_printedByte_1 : decode cX2_printedByte 1 = .ok (.ifCond .lt 23, 3) := by decide +kernel
theorem dX2_printedByte_4 : decode cX2_printedByte 4 = .ok (.iload_n 1, 1) := by decide +kernel
theorem dX2_printedByte_5 : decode cX2_printedByte 5 = .ok (.aload_n 0, 1) := by decide +kernel
theorem dX2_printedByte_6 : decode cX2_printedByte 6 = .ok (.getfield 36, 3) := by decide +kernel
theorem dX2_printedByte_9 : decode cX2_printedByte 9 = .ok (.if_icmp .ge 15, 3) := by decide +kernel
theorem dX2_printedByte_12 : decode cX2_printedByte 12 = .ok (.aload_n 0, 1) := by decide +kernel
theorem dX2_printedByte_13 : decode cX2_printedByte 13 = .ok (.getfield 29, 3) := by decide +kernel
theorem dX2_printedByte_16 : decode cX2_printedByte 16 = .ok (.iload_n 1, 1) := by decide +kernel
theorem dX2_printedByte_17 : decode cX2_printedByte 17 = .ok (.invokevirtual 43, 3) := by decide +kernel
theorem dX2_printedByte_20 : decode cX2_printedByte 20 = .ok (.l2i, 1) := by decide +kernel
theorem dX2_printedByte_21 : decode cX2_printedByte 21 = .ok (.goto 4, 3) := by decide +kernel
theorem dX2_printedByte_24 : decode cX2_printedByte 24 = .ok (.iconst (-1), 1) := by decide +kernel
theorem dX2_printedByte_25 : decode cX2_printedByte 25 = .ok (.ireturn, 1) := by decide +kernel
set_option maxRecDepth 20000 in
theorem ggX2_print_X2_printNumber : GoodIn wsX2_print wsX2_printNumber := goodIn_r _ [6, 7, 8, 9, 10, 5, 11, 12, 13, 14, 15, 16, 17, 18, 19, 20, 21, 22, 23, 24, 25, 26, 27] (by decide +kernel) (by decide +kernel)
set_option maxRecDepth 20000 in
theorem gX2_print_X2_printNumber : GoodIn wsX2_print (wsV RX2 47 RX2 yX2_printNumber wsX2_printNumber) := goodIn_app (goodIn_of _ (by decide +kernel)) ggX2_print_X2_printNumber
set_option maxRecDepth 20000 in
theorem ggX2_print_X2_printSign : GoodIn wsX2_print wsX2_printSign := goodIn_r _ [11, 12, 13, 14, 15, 16, 17, 18, 19, 20, 21, 22, 23, 24, 25, 26, 27] (by decide +kernel) (by decide +kernel)
set_option maxRecDepth 20000 in
theorem gX2_print_X2_printSign : GoodIn wsX2_print (wsV RX2 51 RX2 yX2_printSign wsX2_printSign) := goodIn_app (goodIn_of _ (by decide +kernel)) ggX2_print_X2_printSign
theorem dX2_print_0 : decode cX2_print 0 = .ok (.aload_n 0, 1) := by decide +kernel
theorem dX2_print_1 : decode cX2_print 1 = .ok (.iload_n 1, 1) := by decide +kernel
theorem dX2_print_2 : decode cX2_print 2 = .ok (.i2l, 1) := by decide +kernel
theorem dX2_print_3 : decode cX2_print 3 = .ok (.invokevirtual 47, 3) := by decide +kernel
theorem dX2_print_6 : decode cX2_print 6 = .ok (.aload_n 0, 1) := by decide +kernel
theorem dX2_print_7 : decode cX2_print 7 = .ok (.bipush 32, 2) := by decide +kernel
theorem dX2_print_9 : decode cX2_print 9 = .ok (.invokevirtual 51, 3) := by decide +kernel
theorem dX2_print_12 : decode cX2_print 12 = .ok (.aload_n 0, 1) := by decide +kernel
theorem dX2_print_13 : decode cX2_print 13 = .ok (.lload_n 2, 1) := by decide +kernel
theorem dX2_print_14 : decode cX2_print 14 = .ok (.invokevirtual 47, 3) := by decide +kernel
theorem dX2_print_17 : decode cX2_print 17 = .ok (.aload_n 0, 1) := by decide +kernel
theorem dX2_print_18 : decode cX2_print 18 = .ok (.bipush 32, 2) := by decide +kernel
theorem dX2_print_20 : decode cX2_print 20 = .ok (.invokevirtual 51, 3) := by decide +kernel
theorem dX2_print_23 : decode cX2_print 23 = .ok (.lload 4, 2) := by decide +kernel
theorem dX2_print_25 : decode cX2_print 25 = .ok (.ldc2_w 54, 3) := by decide +kernel
theorem dX2_print_28 : decode cX2_print 28 = .ok (.lcmp, 1) := by decide +kernel
theorem dX2_print_29 : decode cX2_print 29 = .ok (.ifCond .ne 12, 3) := by decide +kernel
theorem dX2_print_32 : decode cX2_print 32 = .ok (.aload_n 0, 1) := by decide +kernel
theorem dX2_print_33 : decode cX2_print 33 = .ok (.bipush 63, 2) := by decide +kernel
theorem dX2_print_35 : decode cX2_print 35 = .ok (.invokevirtual 51, 3) := by decide +kernel
theorem dX2_print_38 : decode cX2_print 38 = .ok (.goto 9, 3) := by decide +kernel
theorem dX2_print_41 : decode cX2_print 41 = .ok (.aload_n 0, 1) := by decide +kernel
theorem dX2_print_42 : decode cX2_print 42 = .ok (.lload 4, 2) := by decide +kernel
theorem dX2_print_44 : decode cX2_print 44 = .ok (.invokevirtual 47, 3) := by decide +kernel
theorem dX2_print_47 : decode cX2_print 47 = .ok (.aload_n 0, 1) := by decide +kernel
theorem dX2_print_48 : decode cX2_print 48 = .ok (.bipush 10, 2) := by decide +kernel
theorem dX2_print_50 : decode cX2_print 50 = .ok (.invokevirtual 51, 3) := by decide +kernel
theorem dX2_print_53 : decode cX2_print 53 = .ok (.return_, 1) := by decide +kernel
set_option maxRecDepth 20000 in
theorem ggX2_printNumber_X2_printSign : GoodIn wsX2_printNumber wsX2_printSign := goodIn_r _ [6, 7, 8, 9, 10, 11, 12, 13, 14, 15, 16, 17, 18, 19, 20, 21, 22] (by decide +kernel) (by decide +kernel)
set_option maxRecDepth 20000 in
theorem gX2_printNumber_X2_printSign : GoodIn wsX2_printNumber (wsV RX2 51 RX2 yX2_printSign wsX2_printSign) := goodIn_app (goodIn_of _ (by decide +kernel)) ggX2_printNumber_X2_printSign
theorem dX2_printNumber_0 : decode cX2_printNumber 0 = .ok (.lconst 1, 1) := by decide +kernel
theorem dX2_printNumber_1 : decode cX2_printNumber 1 = .ok (.lstore_n 3, 1) := by decide +kernel
theorem dX2_printNumber_2 : decode cX2_printNumber 2 = .ok (.iconst 1, 1) := by decide +kernel
theorem dX2_printNumber_3 : decode cX2_printNumber 3 = .ok (.istore 5, 2) := by decide +kernel
theorem dX2_printNumber_5 : decode cX2_printNumber 5 = .ok (.iload 5, 2) := by decide +kernel
theorem dX2_printNumber_7 : decode cX2_printNumber 7 = .ok (.bipush 18, 2) := by decide +kernel
theorem dX2_printNumber_9 : decode cX2_printNumber 9 = .ok (.if_icmp .ge 25, 3) := by decide +kernel
theorem dX2_printNumber_12 : decode cX2_printNumber 12 = .ok (.lload_n 3, 1) := by decide +kernel
theorem dX2_printNumber_13 : decode cX2_printNumber 13 = .ok (.lload_n 1, 1) := by decide +kernel
theorem dX2_printNumber_14 : decode cX2_printNumber 14 = .ok (.ldc2_w 56, 3) := by decide +kernel
theorem dX2_printNumber_17 : decode cX2_printNumber 17 = .ok (.ldiv, 1) := by decide +kernel
theorem dX2_printNumber_18 : decode cX2_printNumber 18 = .ok (.lcmp, 1) := by decide +kernel
theorem dX2_printNumber_19 : decode cX2_printNumber 19 = .ok (.ifCond .gt 15, 3) := by decide +kernel
theorem dX2_printNumber_22 : decode cX2_printNumber 22 = .ok (.lload_n 3, 1) := by decide +kernel
theorem dX2_printNumber_23 : decode cX2_printNumber 23 = .ok (.ldc2_w 56, 3) := by decide +kernel
theorem dX2_printNumber_26 : decode cX2_printNumber 26 = .ok (.lmul, 1) := by decide +kernel
theorem dX2_printNumber_27 : decode cX2_printNumber 27 = .ok (.lstore_n 3, 1) := by decide +kernel
theorem dX2_printNumber_28 : decode cX2_printNumber 28 = .ok (.iinc 5 1, 3) := by decide +kernel
theorem dX2_printNumber_31 : decode cX2_printNumber 31 = .ok (.goto (-26), 3) := by decide +kernel
theorem dX2_printNumber_34 : decode cX2_printNumber 34 = .ok (.iconst 0, 1) := by decide +kernel
theorem dX2_printNumber_35 : decode cX2_printNumber 35 = .ok (.istore 5, 2) := by decide +kernel
theorem dX2_printNumber_37 : decode cX2_printNumber 37 = .ok (.iload 5, 2) := by decide +kernel
theorem dX2_printNumber_39 : decode cX2_printNumber 39 = .ok (.bipush 18, 2) := by decide +kernel
theorem dX2_printNumber_41 : decode cX2_printNumber 41 = .ok (.if_icmp .ge 36, 3) := by decide +kernel
theorem dX2_printNumber_44 : decode cX2_printNumber 44 = .ok (.lload_n 3, 1) := by decide +kernel
theorem dX2_printNumber_45 : decode cX2_printNumber 45 = .ok (.lconst 0, 1) := by decide +kernel
theorem dX2_printNumber_46 : decode cX2_printNumber 46 = .ok (.lcmp, 1) := by decide +kernel
theorem dX2_printNumber_47 : decode cX2_printNumber 47 = .ok (.ifCond .le 30, 3) := by decide +kernel
theorem dX2_printNumber_50 : decode cX2_printNumber 50 = .ok (.aload_n 0, 1) := by decide +kernel
theorem dX2_printNumber_51 : decode cX2_printNumber 51 = .ok (.lload_n 1, 1) := by decide +kernel
theorem dX2_printNumber_52 : decode cX2_printNumber 52 = .ok (.lload_n 3, 1) := by decide +kernel
theorem dX2_printNumber_53 : decode cX2_printNumber 53 = .ok (.ldiv, 1) := by decide +kernel
theorem dX2_printNumber_54 : decode cX2_printNumber 54 = .ok (.ldc2_w 56, 3) := by decide +kernel
theorem dX2_printNumber_57 : decode cX2_printNumber 57 = .ok (.lrem, 1) := by decide +kernel
theorem dX2_printNumber_58 : decode cX2_printNumber 58 = .ok (.l2i, 1) := by decide +kernel
theorem dX2_printNumber_59 : decode cX2_printNumber 59 = .ok (.bipush 48, 2) := by decide +kernel
theorem dX2_printNumber_61 : decode cX2_printNumber 61 = .ok (.iadd, 1) := by decide +kernel
theorem dX2_printNumber_62 : decode cX2_printNumber 62 = .ok (.invokevirtual 51, 3) := by decide +kernel
theorem dX2_printNumber_65 : decode cX2_printNumber 65 = .ok (.lload_n 3, 1) := by decide +kernel
theorem dX2_printNumber_66 : decode cX2_printNumber 66 = .ok (.ldc2_w 56, 3) := by decide +kernel
theorem dX2_printNumber_69 : decode cX2_printNumber 69 = .ok (.ldiv, 1) := by decide +kernel
theorem dX2_printNumber_70 : decode cX2_printNumber 70 = .ok (.lstore_n 3, 1) := by decide +kernel
theorem dX2_printNumber_71 : decode cX2_printNumber 71 = .ok (.iinc 5 1, 3) := by decide +kernel
theorem dX2_printNumber_74 : decode cX2_printNumber 74 = .ok (.goto (-37), 3) := by decide +kernel
theorem dX2_printNumber_77 : decode cX2_printNumber 77 = .ok (.return_, 1) := by decide +kernel
set_option maxRecDepth 20000 in
theorem ggX2_printSign_X5_set : GoodIn wsX2_printSign wsX5_set := goodIn_r _ [7, 8, 16] (by decide +kernel) (by decide +kernel)
set_option maxRecDepth 20000 in
theorem gX2_printSign_X5_set : GoodIn wsX2_printSign (wsV RX2 39 RX5 yX5_set wsX5_set) := goodIn_app (goodIn_of _ (by decide +kernel)) ggX2_printSign_X5_set
theorem dX2_printSign_0 : decode cX2_printSign 0 = .ok (.aload_n 0, 1) := by decide +kernel
theorem dX2_printSign_1 : decode cX2_printSign 1 = .ok (.getfield 29, 3) := by decide +kernel
theorem dX2_printSign_4 : decode cX2_printSign 4 = .ok (.aload_n 0, 1) := by decide +kernel
theorem dX2_printSign_5 : decode cX2_printSign 5 = .ok (.getfield 36, 3) := by decide +kernel
theorem dX2_printSign_8 : decode cX2_printSign 8 = .ok (.iload_n 1, 1) := by decide +kernel
theorem dX2_printSign_9 : decode cX2_printSign 9 = .ok (.i2l, 1) := by decide +kernel
theorem dX2_printSign_10 : decode cX2_printSign 10 = .ok (.invokevirtual 39, 3) := by decide +kernel
theorem dX2_printSign_13 : decode cX2_printSign 13 = .ok (.aload_n 0, 1) := by decide +kernel
theorem dX2_printSign_14 : decode cX2_printSign 14 = .ok (.dup, 1) := by decide +kernel
theorem dX2_printSign_15 : decode cX2_printSign 15 = .ok (.getfield 36, 3) := by decide +kernel
theorem dX2_printSign_18 : decode cX2_printSign 18 = .ok (.iconst 1, 1) := by decide +kernel
theorem dX2_printSign_19 : decode cX2_printSign 19 = .ok (.iadd, 1) := by decide +kernel
theorem dX2_printSign_20 : decode cX2_printSign 20 = .ok (.putfield 36, 3) := by decide +kernel
theorem dX2_printSign_23 : decode cX2_printSign 23 = .ok (.return_, 1) := by decide +kernel
set_option maxRecDepth 20000 in
theorem ggX3_init_X5_init : GoodIn wsX3_init wsX5_init := goodIn_r _ [12, 13, 2, 3, 14, 15, 16] (by decide +kernel) (by decide +kernel)
set_option maxRecDepth 20000 in
theorem gX3_init_X5_init : GoodIn wsX3_init (wsX5_init) := ggX3_init_X5_init
theorem dX3_init_0 : decode cX3_init 0 = .ok (.aload_n 0, 1) := by decide +kernel
theorem dX3_init_1 : decode cX3_init 1 = .ok (.invokespecial 3, 3) := by decide +kernel
theorem dX3_init_4 : decode cX3_init 4 = .ok (.aload_n 0, 1) := by decide +kernel
theorem dX3_init_5 : decode cX3_init 5 = .ok (.new 9, 3) := by decide +kernel
theorem dX3_init_8 : decode cX3_init 8 = .ok (.dup, 1) := by decide +kernel
theorem dX3_init_9 : decode cX3_init 9 = .ok (.iconst 4, 1) := by decide +kernel
theorem dX3_init_10 : decode cX3_init 10 = .ok (.invokespecial 11, 3) := by decide +kernel
theorem dX3_init_13 : decode cX3_init 13 = .ok (.putfield 14, 3) := by decide +kernel
theorem dX3_init_16 : decode cX3_init 16 = .ok (.aload_n 0, 1) := by decide +kernel
theorem dX3_init_17 : decode cX3_init 17 = .ok (.new 9, 3) := by decide +kernel
theorem dX3_init_20 : decode cX3_init 20 = .ok (.dup, 1) := by decide +kernel
theorem dX3_init_21 : decode cX3_init 21 = .ok (.bipush 24, 2) := by decide +kernel
theorem dX3_init_23 : decode cX3_init 23 = .ok (.invokespecial 11, 3) := by decide +kernel
theorem dX3_init_26 : decode cX3_init 26 = .ok (.putfield 20, 3) := by decide +kernel
theorem dX3_init_29 : decode cX3_init 29 = .ok (.aload_n 0, 1) := by decide +kernel
theorem dX3_init_30 : decode cX3_init 30 = .ok (.new 9, 3) := by decide +kernel
theorem dX3_init_33 : decode cX3_init 33 = .ok (.dup, 1) := by decide +kernel
theorem dX3_init_34 : decode cX3_init 34 = .ok (.sipush 480, 3) := by decide +kernel
theorem dX3_init_37 : decode cX3_init 37 = .ok (.invokespecial 11, 3) := by decide +kernel
theorem dX3_init_40 : decode cX3_init 40 = .ok (.putfield 23, 3) := by decide +kernel
theorem dX3_init_43 : decode cX3_init 43 = .ok (.return_, 1) := by decide +kernel
set_option maxRecDepth 20000 in
theorem ggX3_add_X5_set : GoodIn wsX3_add wsX5_set := goodIn_r _ [7, 8, 19] (by decide +kernel) (by decide +kernel)
set_option maxRecDepth 20000 in
theorem gX3_add_X5_set : GoodIn wsX3_add (wsV RX3 30 RX5 yX5_set wsX5_set) := goodIn_app (goodIn_of _ (by decide +kernel)) ggX3_add_X5_set
set_option maxRecDepth 20000 in
theorem ggX3_add_X3_setWeight : GoodIn wsX3_add wsX3_setWeight := goodIn_r _ [13, 14, 3, 4, 5, 6, 7, 8, 15, 16, 17, 18, 19] (by decide +kernel) (by decide +kernel)
set_option maxRecDepth 20000 in
theorem gX3_add_X3_setWeight : GoodIn wsX3_add (wsV RX3 34 RX3 yX3_setWeight wsX3_setWeight) := goodIn_app (goodIn_of _ (by decide +kernel)) ggX3_add_X3_setWeight
theorem dX3_add_0 : decode cX3_add 0 = .ok (.aload_n 0, 1) := by decide +kernel
theorem dX3_add_1 : decode cX3_add 1 = .ok (.getfield 26, 3) := by decide +kernel
theorem dX3_add_4 : decode cX3_add 4 = .ok (.iconst 4, 1) := by decide +kernel
theorem dX3_add_5 : decode cX3_add 5 = .ok (.if_icmp .lt 5, 3) := by decide +kernel
theorem dX3_add_8 : decode cX3_add 8 = .ok (.iconst (-1), 1) := by decide +kernel
theorem dX3_add_9 : decode cX3_add 9 = .ok (.ireturn, 1) := by decide +kernel
theorem dX3_add_10 : decode cX3_add 10 = .ok (.aload_n 0, 1) := by decide +kernel
theorem dX3_add_11 : decode cX3_add 11 = .ok (.getfield 26, 3) := by decide +kernel
theorem dX3_add_14 : decode cX3_add 14 = .ok (.istore_n 2, 1) := by decide +kernel
theorem dX3_add_15 : decode cX3_add 15 = .ok (.aload_n 0, 1) := by decide +kernel
theorem dX3_add_16 : decode cX3_add 16 = .ok (.getfield 14, 3) := by decide +kernel
theorem dX3_add_19 : decode cX3_add 19 = .ok (.iload_n 2, 1) := by decide +kernel
theorem dX3_add_20 : decode cX3_add 20 = .ok (.iload_n 1, 1) := by decide +kernel
theorem dX3_add_21 : decode cX3_add 21 = .ok (.i2l, 1) := by decide +kernel
theorem dX3_add_22 : decode cX3_add 22 = .ok (.invokevirtual 30, 3) := by decide +kernel
theorem dX3_add_25 : decode cX3_add 25 = .ok (.iconst 0, 1) := by decide +kernel
theorem dX3_add_26 : decode cX3_add 26 = .ok (.istore_n 3, 1) := by decide +kernel
theorem dX3_add_27 : decode cX3_add 27 = .ok (.iload_n 3, 1) := by decide +kernel
theorem dX3_add_28 : decode cX3_add 28 = .ok (.bipush 6, 2) := by decide +kernel
theorem dX3_add_30 : decode cX3_add 30 = .ok (.if_icmp .ge 16, 3) := by decide +kernel
theorem dX3_add_33 : decode cX3_add 33 = .ok (.aload_n 0, 1) := by decide +kernel
theorem dX3_add_34 : decode cX3_add 34 = .ok (.iload_n 2, 1) := by decide +kernel
theorem dX3_add_35 : decode cX3_add 35 = .ok (.iload_n 3, 1) := by decide +kernel
theorem dX3_add_36 : decode cX3_add 36 = .ok (.iconst 1, 1) := by decide +kernel
theorem dX3_add_37 : decode cX3_add 37 = .ok (.invokevirtual 34, 3) := by decide +kernel
theorem dX3_add_40 : decode cX3_add 40 = .ok (.iinc 3 1, 3) := by decide +kernel
theorem dX3_add_43 : decode cX3_add 43 = .ok (.goto (-16), 3) := by decide +kernel
theorem dX3_add_46 : decode cX3_add 46 = .ok (.aload_n 0, 1) := by decide +kernel
theorem dX3_add_47 : decode cX3_add 47 = .ok (.dup, 1) := by decide +kernel
theorem dX3_add_48 : decode cX3_add 48 = .ok (.getfield 26, 3) := by decide +kernel
theorem dX3_add_51 : decode cX3_add 51 = .ok (.iconst 1, 1) := by decide +kernel
theorem dX3_add_52 : decode cX3_add 52 = .ok (.iadd, 1) := by decide +kernel
theorem dX3_add_53 : decode cX3_add 53 = .ok (.putfield 26, 3) := by decide +kernel
theorem dX3_add_56 : decode cX3_add 56 = .ok (.iload_n 2, 1) := by decide +kernel
theorem dX3_add_57 : decode cX3_add 57 = .ok (.ireturn, 1) := by decide +kernel
theorem dX3_has_0 : decode cX3_has 0 = .ok (.iload_n 1, 1) := by decide +kernel
theorem dX3_has_1 : decode cX3_has 1 = .ok (.ifCond .lt 15, 3) := by decide +kernel
theorem dX3_has_4 : decode cX3_has 4 = .ok (.iload_n 1, 1) := by decide +kernel
theorem dX3_has_5 : decode cX3_has 5 = .ok (.aload_n 0, 1) := by decide +kernel
theorem dX3_has_6 : decode cX3_has 6 = .ok (.getfield 26, 3) := by decide +kernel
theorem dX3_has_9 : decode cX3_has 9 = .ok (.if_icmp .ge 7, 3) := by decide +kernel
theorem dX3_has_12 : decode cX3_has 12 = .ok (.iconst 1, 1) := by decide +kernel
theorem dX3_has_13 : decode cX3_has 13 = .ok (.goto 4, 3) := by decide +kernel
theorem dX3_has_16 : decode cX3_has 16 = .ok (.iconst 0, 1) := by decide +kernel
theorem dX3_has_17 : decode cX3_has 17 = .ok (.ireturn, 1) := by decide +kernel
set_option maxRecDepth 20000 in
theorem ggX3_hasFlat_X3_has : GoodIn wsX3_hasFlat wsX3_has := goodIn_r _ [6, 7, 14, 15, 16, 17] (by decide +kernel) (by decide +kernel)
set_option maxRecDepth 20000 in
theorem gX3_hasFlat_X3_has : GoodIn wsX3_hasFlat (wsV RX3 38 RX3 yX3_has wsX3_has) := goodIn_app (goodIn_of _ (by decide +kernel)) ggX3_hasFlat_X3_has
set_option maxRecDepth 20000 in
theorem ggX3_hasFlat_X5_get : GoodIn wsX3_hasFlat wsX5_get := goodIn_r _ [12, 13, 18] (by decide +kernel) (by decide +kernel)
set_option maxRecDepth 20000 in
theorem gX3_hasFlat_X5_get : GoodIn wsX3_hasFlat (wsV RX3 42 RX5 yX5_get wsX5_get) := goodIn_app (goodIn_of _ (by decide +kernel)) ggX3_hasFlat_X5_get
theorem dX3_hasFlat_0 : decode cX3_hasFlat 0 = .ok (.aload_n 0, 1) := by decide +kernel
theorem dX3_hasFlat_1 : decode cX3_hasFlat 1 = .ok (.iload_n 1, 1) := by decide +kernel
theorem dX3_hasFlat_2 : decode cX3_hasFlat 2 = .ok (.invokevirtual 38, 3) := by decide +kernel
theorem dX3_hasFlat_5 : decode cX3_hasFlat 5 = .ok (.ifCond .eq 25, 3) := by decide +kernel
theorem dX3_hasFlat_8 : decode cX3_hasFlat 8 = .ok (.iload_n 2, 1) := by decide +kernel
theorem dX3_hasFlat_9 : decode cX3_hasFlat 9 = .ok (.ifCond .lt 21, 3) := by decide +kernel
theorem dX3_hasFlat_12 : decode cX3_hasFlat 12 = .ok (.iload_n 2, 1) := by decide +kernel
theorem dX3_hasFlat_13 : decode cX3_hasFlat 13 = .ok (.i2l, 1) := by decide +kernel
theorem dX3_hasFlat_14 : decode cX3_hasFlat 14 = .ok (.aload_n 0, 1) := by decide +kernel
theorem dX3_hasFlat_15 : decode cX3_hasFlat 15 = .ok (.getfield 14, 3) := by decide +kernel
theorem dX3_hasFlat_18 : decode cX3_hasFlat 18 = .ok (.iload_n 1, 1) := by decide +kernel
theorem dX3_hasFlat_19 : decode cX3_hasFlat 19 = .ok (.invokevirtual 42, 3) := by decide +kernel
theorem dX3_hasFlat_22 : decode cX3_hasFlat 22 = .ok (.lcmp, 1) := by decide +kernel
theorem dX3_hasFlat_23 : decode cX3_hasFlat 23 = .ok (.ifCond .ge 7, 3) := by decide +kernel
theorem dX3_hasFlat_26 : decode cX3_hasFlat 26 = .ok (.iconst 1, 1) := by decide +kernel
theorem dX3_hasFlat_27 : decode cX3_hasFlat 27 = .ok (.goto 4, 3) := by decide +kernel
theorem dX3_hasFlat_30 : decode cX3_hasFlat 30 = .ok (.iconst 0, 1) := by decide +kernel
theorem dX3_hasFlat_31 : decode cX3_hasFlat 31 = .ok (.ireturn, 1) := by decide +kernel
set_option maxRecDepth 20000 in
theorem ggX3_setWeight_X5_set : GoodIn wsX3_setWeight wsX5_set := goodIn_r _ [6, 7, 12] (by decide +kernel) (by decide +kernel)
set_option maxRecDepth 20000 in
theorem gX3_setWeight_X5_set : GoodIn wsX3_setWeight (wsV RX3 30 RX5 yX5_set wsX5_set) := goodIn_app (goodIn_of _ (by decide +kernel)) ggX3_setWeight_X5_set
theorem dX3_setWeight_0 : decode cX3_setWeight 0 = .ok (.aload_n 0, 1) := by decide +kernel
theorem dX3_setWeight_1 : decode cX3_setWeight 1 = .ok (.getfield 20, 3) := by decide +kernel
theorem dX3_setWeight_4 : decode cX3_setWeight 4 = .ok (.iload_n 1, 1) := by decide +kernel
theorem dX3_setWeight_5 : decode cX3_setWeight 5 = .ok (.bipush 6, 2) := by decide +kernel
theorem dX3_setWeight_7 : decode cX3_setWeight 7 = .ok (.imul, 1) := by decide +kernel
theorem dX3_setWeight_8 : decode cX3_setWeight 8 = .ok (.iload_n 2, 1) := by decide +kernel
theorem dX3_setWeight_9 : decode cX3_setWeight 9 = .ok (.iadd, 1) := by decide +kernel
theorem dX3_setWeight_10 : decode cX3_setWeight 10 = .ok (.iload_n 3, 1) := by decide +kernel
theorem dX3_setWeight_11 : decode cX3_setWeight 11 = .ok (.i2l, 1) := by decide +kernel
theorem dX3_setWeight_12 : decode cX3_setWeight 12 = .ok (.invokevirtual 30, 3) := by decide +kernel
theorem dX3_setWeight_15 : decode cX3_setWeight 15 = .ok (.return_, 1) := by decide +kernel
set_option maxRecDepth 20000 in
theorem ggX3_weightOf_X5_get : GoodIn wsX3_weightOf wsX5_get := goodIn_r _ [6, 7, 12] (by decide +kernel) (by decide +kernel)
set_option maxRecDepth 20000 in
theorem gX3_weightOf_X5_get : GoodIn wsX3_weightOf (wsV RX3 42 RX5 yX5_get wsX5_get) := goodIn_app (goodIn_of _ (by decide +kernel)) ggX3_weightOf_X5_get
theorem dX3_weightOf_0 : decode cX3_weightOf 0 = .ok (.aload_n 0, 1) := by decide +kernel
theorem dX3_weightOf_1 : decode cX3_weightOf 1 = .ok (.getfield 20, 3) := by decide +kernel
theorem dX3_weightOf_4 : decode cX3_weightOf 4 = .ok (.iload_n 1, 1) := by decide +kernel
theorem dX3_weightOf_5 : decode cX3_weightOf 5 = .ok (.bipush 6, 2) := by decide +kernel
theorem dX3_weightOf_7 : decode cX3_weightOf 7 = .ok (.imul, 1) := by decide +kernel
theorem dX3_weightOf_8 : decode cX3_weightOf 8 = .ok (.iload_n 2, 1) := by decide +kernel
theorem dX3_weightOf_9 : decode cX3_weightOf 9 = .ok (.iadd, 1) := by decide +kernel
theorem dX3_weightOf_10 : decode cX3_weightOf 10 = .ok (.invokevirtual 42, 3) := by decide +kernel
theorem dX3_weightOf_13 : decode cX3_weightOf 13 = .ok (.lreturn, 1) := by decide +kernel
set_option maxRecDepth 20000 in
theorem ggX3_shareOf_X3_hasFlat : GoodIn wsX3_shareOf wsX3_hasFlat := goodIn_r _ [6, 7, 8, 9, 10, 5, 11, 12, 13, 14, 15, 16, 17, 18, 24, 25, 26, 27, 28] (by decide +kernel) (by decide +kernel)
set_option maxRecDepth 20000 in
theorem gX3_shareOf_X3_hasFlat : GoodIn wsX3_shareOf (wsV RX3 46 RX3 yX3_hasFlat wsX3_hasFlat) := goodIn_app (goodIn_of _ (by decide +kernel)) ggX3_shareOf_X3_hasFlat
set_option maxRecDepth 20000 in
theorem ggX3_shareOf_X3_weightOf : GoodIn wsX3_shareOf wsX3_weightOf := goodIn_r _ [22, 23, 13, 14, 15, 16, 17, 18, 24, 25, 26, 27, 28] (by decide +kernel) (by decide +kernel)
set_option maxRecDepth 20000 in
theorem gX3_shareOf_X3_weightOf : GoodIn wsX3_shareOf (wsV RX3 50 RX3 yX3_weightOf wsX3_weightOf) := goodIn_app (goodIn_of _ (by decide +kernel)) ggX3_shareOf_X3_weightOf
theorem dX3_shareOf_0 : decode cX3_shareOf 0 = .ok (.lconst 0, 1) := by decide +kernel
theorem dX3_shareOf_1 : decode cX3_shareOf 1 = .ok (.lstore 5, 2) := by decide +kernel
theorem dX3_shareOf_3 : decode cX3_shareOf 3 = .ok (.iconst 0, 1) := by decide +kernel
theorem dX3_shareOf_4 : decode cX3_shareOf 4 = .ok (.istore 7, 2) := by decide +kernel
theorem dX3_shareOf_6 : decode cX3_shareOf 6 = .ok (.aload_n 0, 1) := by decide +kernel
theorem dX3_shareOf_7 : decode cX3_shareOf 7 = .ok (.iload_n 1, 1) := by decide +kernel
theorem dX3_shareOf_8 : decode cX3_shareOf 8 = .ok (.iload 7, 2) := by decide +kernel
theorem dX3_shareOf_10 : decode cX3_shareOf 10 = .ok (.invokevirtual 46, 3) := by decide +kernel
theorem dX3_shareOf_13 : decode cX3_shareOf 13 = .ok (.ifCond .eq 28, 3) := by decide +kernel
theorem dX3_shareOf_16 : decode cX3_shareOf 16 = .ok (.iload 7, 2) := by decide +kernel
theorem dX3_shareOf_18 : decode cX3_shareOf 18 = .ok (.bipush 6, 2) := by decide +kernel
theorem dX3_shareOf_20 : decode cX3_shareOf 20 = .ok (.if_icmp .ge 21, 3) := by decide +kernel
theorem dX3_shareOf_23 : decode cX3_shareOf 23 = .ok (.lload 5, 2) := by decide +kernel
theorem dX3_shareOf_25 : decode cX3_shareOf 25 = .ok (.aload_n 0, 1) := by decide +kernel
theorem dX3_shareOf_26 : decode cX3_shareOf 26 = .ok (.iload_n 1, 1) := by decide +kernel
theorem dX3_shareOf_27 : decode cX3_shareOf 27 = .ok (.iload 7, 2) := by decide +kernel
theorem dX3_shareOf_29 : decode cX3_shareOf 29 = .ok (.invokevirtual 50, 3) := by decide +kernel
theorem dX3_shareOf_32 : decode cX3_shareOf 32 = .ok (.ladd, 1) := by decide +kernel
theorem dX3_shareOf_33 : decode cX3_shareOf 33 = .ok (.lstore 5, 2) := by decide +kernel
theorem dX3_shareOf_35 : decode cX3_shareOf 35 = .ok (.iinc 7 1, 3) := by decide +kernel
theorem dX3_shareOf_38 : decode cX3_shareOf 38 = .ok (.goto (-32), 3) := by decide +kernel
theorem dX3_shareOf_41 : decode cX3_shareOf 41 = .ok (.lload 5, 2) := by decide +kernel
theorem dX3_shareOf_43 : decode cX3_shareOf 43 = .ok (.lconst 0, 1) := by decide +kernel
theorem dX3_shareOf_44 : decode cX3_shareOf 44 = .ok (.lcmp, 1) := by decide +kernel
theorem dX3_shareOf_45 : decode cX3_shareOf 45 = .ok (.ifCond .gt 7, 3) := by decide +kernel
theorem dX3_shareOf_48 : decode cX3_shareOf 48 = .ok (.ldc2_w 54, 3) := by decide +kernel
theorem dX3_shareOf_51 : decode cX3_shareOf 51 = .ok (.lreturn, 1) := by decide +kernel
theorem dX3_shareOf_52 : decode cX3_shareOf 52 = .ok (.lload_n 3, 1) := by decide +kernel
theorem dX3_shareOf_53 : decode cX3_shareOf 53 = .ok (.lstore 7, 2) := by decide +kernel
theorem dX3_shareOf_55 : decode cX3_shareOf 55 = .ok (.lconst 0, 1) := by decide +kernel
theorem dX3_shareOf_56 : decode cX3_shareOf 56 = .ok (.lstore 9, 2) := by decide +kernel
theorem dX3_shareOf_58 : decode cX3_shareOf 58 = .ok (.iconst 0, 1) := by decide +kernel
theorem dX3_shareOf_59 : decode cX3_shareOf 59 = .ok (.istore 11, 2) := by decide +kernel
theorem dX3_shareOf_61 : decode cX3_shareOf 61 = .ok (.aload_n 0, 1) := by decide +kernel
theorem dX3_shareOf_62 : decode cX3_shareOf 62 = .ok (.iload_n 1, 1) := by decide +kernel
theorem dX3_shareOf_63 : decode cX3_shareOf 63 = .ok (.iload 11, 2) := by decide +kernel
theorem dX3_shareOf_65 : decode cX3_shareOf 65 = .ok (.invokevirtual 46, 3) := by decide +kernel
theorem dX3_shareOf_68 : decode cX3_shareOf 68 = .ok (.ifCond .eq 57, 3) := by decide +kernel
theorem dX3_shareOf_71 : decode cX3_shareOf 71 = .ok (.iload 11, 2) := by decide +kernel
theorem dX3_shareOf_73 : decode cX3_shareOf 73 = .ok (.bipush 6, 2) := by decide +kernel
theorem dX3_shareOf_75 : decode cX3_shareOf 75 = .ok (.if_icmp .ge 50, 3) := by decide +kernel
theorem dX3_shareOf_78 : decode cX3_shareOf 78 = .ok (.lload 7, 2) := by decide +kernel
theorem dX3_shareOf_80 : decode cX3_shareOf 80 = .ok (.lload_n 3, 1) := by decide +kernel
theorem dX3_shareOf_81 : decode cX3_shareOf 81 = .ok (.aload_n 0, 1) := by decide +kernel
theorem dX3_shareOf_82 : decode cX3_shareOf 82 = .ok (.iload_n 1, 1) := by decide +kernel
theorem dX3_shareOf_83 : decode cX3_shareOf 83 = .ok (.iload 11, 2) := by decide +kernel
theorem dX3_shareOf_85 : decode cX3_shareOf 85 = .ok (.invokevirtual 50, 3) := by decide +kernel
theorem dX3_shareOf_88 : decode cX3_shareOf 88 = .ok (.lmul, 1) := by decide +kernel
theorem dX3_shareOf_89 : decode cX3_shareOf 89 = .ok (.lload 5, 2) := by decide +kernel
theorem dX3_shareOf_91 : decode cX3_shareOf 91 = .ok (.ldiv, 1) := by decide +kernel
theorem dX3_shareOf_92 : decode cX3_shareOf 92 = .ok (.lsub, 1) := by decide +kernel
theorem dX3_shareOf_93 : decode cX3_shareOf 93 = .ok (.lstore 7, 2) := by decide +kernel
theorem dX3_shareOf_95 : decode cX3_shareOf 95 = .ok (.iload 11, 2) := by decide +kernel
theorem dX3_shareOf_97 : decode cX3_shareOf 97 = .ok (.iload_n 2, 1) := by decide +kernel
theorem dX3_shareOf_98 : decode cX3_shareOf 98 = .ok (.if_icmp .ge 21, 3) := by decide +kernel
theorem dX3_shareOf_101 : decode cX3_shareOf 101 = .ok (.aload_n 0, 1) := by decide +kernel
theorem dX3_shareOf_102 : decode cX3_shareOf 102 = .ok (.iload_n 1, 1) := by decide +kernel
theorem dX3_shareOf_103 : decode cX3_shareOf 103 = .ok (.iload 11, 2) := by decide +kernel
theorem dX3_shareOf_105 : decode cX3_shareOf 105 = .ok (.invokevirtual 50, 3) := by decide +kernel
theorem dX3_shareOf_108 : decode cX3_shareOf 108 = .ok (.lconst 0, 1) := by decide +kernel
theorem dX3_shareOf_109 : decode cX3_shareOf 109 = .ok (.lcmp, 1) := by decide +kernel
theorem dX3_shareOf_110 : decode cX3_shareOf 110 = .ok (.ifCond .le 9, 3) := by decide +kernel
theorem dX3_shareOf_113 : decode cX3_shareOf 113 = .ok (.lload 9, 2) := by decide +kernel
theorem dX3_shareOf_115 : decode cX3_shareOf 115 = .ok (.lconst 1, 1) := by decide +kernel
theorem dX3_shareOf_116 : decode cX3_shareOf 116 = .ok (.ladd, 1) := by decide +kernel
theorem dX3_shareOf_117 : decode cX3_shareOf 117 = .ok (.lstore 9, 2) := by decide +kernel
theorem dX3_shareOf_119 : decode cX3_shareOf 119 = .ok (.iinc 11 1, 3) := by decide +kernel
theorem dX3_shareOf_122 : decode cX3_shareOf 122 = .ok (.goto (-61), 3) := by decide +kernel
theorem dX3_shareOf_125 : decode cX3_shareOf 125 = .ok (.aload_n 0, 1) := by decide +kernel
theorem dX3_shareOf_126 : decode cX3_shareOf 126 = .ok (.iload_n 1, 1) := by decide +kernel
theorem dX3_shareOf_127 : decode cX3_shareOf 127 = .ok (.iload_n 2, 1) := by decide +kernel
theorem dX3_shareOf_128 : decode cX3_shareOf 128 = .ok (.invokevirtual 50, 3) := by decide +kernel
theorem dX3_shareOf_131 : decode cX3_shareOf 131 = .ok (.lstore 11, 2) := by decide +kernel
theorem dX3_shareOf_133 : decode cX3_shareOf 133 = .ok (.lload 11, 2) := by decide +kernel
theorem dX3_shareOf_135 : decode cX3_shareOf 135 = .ok (.lconst 0, 1) := by decide +kernel
theorem dX3_shareOf_136 : decode cX3_shareOf 136 = .ok (.lcmp, 1) := by decide +kernel
theorem dX3_shareOf_137 : decode cX3_shareOf 137 = .ok (.ifCond .le 15, 3) := by decide +kernel
theorem dX3_shareOf_140 : decode cX3_shareOf 140 = .ok (.lload 9, 2) := by decide +kernel
theorem dX3_shareOf_142 : decode cX3_shareOf 142 = .ok (.lload 7, 2) := by decide +kernel
theorem dX3_shareOf_144 : decode cX3_shareOf 144 = .ok (.lcmp, 1) := by decide +kernel
theorem dX3_shareOf_145 : decode cX3_shareOf 145 = .ok (.ifCond .ge 7, 3) := by decide +kernel
theorem dX3_shareOf_148 : decode cX3_shareOf 148 = .ok (.lconst 1, 1) := by decide +kernel
theorem dX3_shareOf_149 : decode cX3_shareOf 149 = .ok (.goto 4, 3) := by decide +kernel
theorem dX3_shareOf_152 : decode cX3_shareOf 152 = .ok (.lconst 0, 1) := by decide +kernel
theorem dX3_shareOf_153 : decode cX3_shareOf 153 = .ok (.lstore 13, 2) := by decide +kernel
theorem dX3_shareOf_155 : decode cX3_shareOf 155 = .ok (.lload_n 3, 1) := by decide +kernel
theorem dX3_shareOf_156 : decode cX3_shareOf 156 = .ok (.lload 11, 2) := by decide +kernel
theorem dX3_shareOf_158 : decode cX3_shareOf 158 = .ok (.lmul, 1) := by decide +kernel
theorem dX3_shareOf_159 : decode cX3_shareOf 159 = .ok (.lload 5, 2) := by decide +kernel
theorem dX3_shareOf_161 : decode cX3_shareOf 161 = .ok (.ldiv, 1) := by decide +kernel
theorem dX3_shareOf_162 : decode cX3_shareOf 162 = .ok (.lload 13, 2) := by decide +kernel
theorem dX3_shareOf_164 : decode cX3_shareOf 164 = .ok (.ladd, 1) := by decide +kernel
theorem dX3_shareOf_165 : decode cX3_shareOf 165 = .ok (.lreturn, 1) := by decide +kernel
set_option maxRecDepth 20000 in
theorem ggX3_issuedOf_X5_get : GoodIn wsX3_issuedOf wsX5_get := goodIn_r _ [6, 7, 12] (by decide +kernel) (by decide +kernel)
set_option maxRecDepth 20000 in
theorem gX3_issuedOf_X5_get : GoodIn wsX3_issuedOf (wsV RX3 42 RX5 yX5_get wsX5_get) := goodIn_app (goodIn_of _ (by decide +kernel)) ggX3_issuedOf_X5_get
theorem dX3_issuedOf_0 : decode cX3_issuedOf 0 = .ok (.aload_n 0, 1) := by decide +kernel
theorem dX3_issuedOf_1 : decode cX3_issuedOf 1 = .ok (.getfield 23, 3) := by decide +kernel
theorem dX3_issuedOf_4 : decode cX3_issuedOf 4 = .ok (.iload_n 1, 1) := by decide +kernel
theorem dX3_issuedOf_5 : decode cX3_issuedOf 5 = .ok (.bipush 120, 2) := by decide +kernel
theorem dX3_issuedOf_7 : decode cX3_issuedOf 7 = .ok (.imul, 1) := by decide +kernel
theorem dX3_issuedOf_8 : decode cX3_issuedOf 8 = .ok (.iload_n 2, 1) := by decide +kernel
theorem dX3_issuedOf_9 : decode cX3_issuedOf 9 = .ok (.iadd, 1) := by decide +kernel
theorem dX3_issuedOf_10 : decode cX3_issuedOf 10 = .ok (.invokevirtual 42, 3) := by decide +kernel
theorem dX3_issuedOf_13 : decode cX3_issuedOf 13 = .ok (.lreturn, 1) := by decide +kernel
set_option maxRecDepth 20000 in
theorem ggX3_setIssued_X5_set : GoodIn wsX3_setIssued wsX5_set := goodIn_r _ [6, 7, 12] (by decide +kernel) (by decide +kernel)
set_option maxRecDepth 20000 in
theorem gX3_setIssued_X5_set : GoodIn wsX3_setIssued (wsV RX3 30 RX5 yX5_set wsX5_set) := goodIn_app (goodIn_of _ (by decide +kernel)) ggX3_setIssued_X5_set
theorem dX3_setIssued_0 : decode cX3_setIssued 0 = .ok (.aload_n 0, 1) := by decide +kernel
theorem dX3_setIssued_1 : decode cX3_setIssued 1 = .ok (.getfield 23, 3) := by decide +kernel
theorem dX3_setIssued_4 : decode cX3_setIssued 4 = .ok (.iload_n 1, 1) := by decide +kernel
theorem dX3_setIssued_5 : decode cX3_setIssued 5 = .ok (.bipush 120, 2) := by decide +kernel
theorem dX3_setIssued_7 : decode cX3_setIssued 7 = .ok (.imul, 1) := by decide +kernel
theorem dX3_setIssued_8 : decode cX3_setIssued 8 = .ok (.iload_n 2, 1) := by decide +kernel
theorem dX3_setIssued_9 : decode cX3_setIssued 9 = .ok (.iadd, 1) := by decide +kernel
theorem dX3_setIssued_10 : decode cX3_setIssued 10 = .ok (.lload_n 3, 1) := by decide +kernel
theorem dX3_setIssued_11 : decode cX3_setIssued 11 = .ok (.invokevirtual 30, 3) := by decide +kernel
theorem dX3_setIssued_14 : decode cX3_setIssued 14 = .ok (.return_, 1) := by decide +kernel
set_option maxRecDepth 20000 in
theorem ggX4_init_X5_init : GoodIn wsX4_init wsX5_init := goodIn_r _ [13, 14, 2, 3, 15, 16, 17] (by decide +kernel) (by decide +kernel)
set_option maxRecDepth 20000 in
theorem gX4_init_X5_init : GoodIn wsX4_init (wsX5_init) := ggX4_init_X5_init
theorem dX4_init_0 : decode cX4_init 0 = .ok (.aload_n 0, 1) := by decide +kernel
theorem dX4_init_1 : decode cX4_init 1 = .ok (.invokespecial 3, 3) := by decide +kernel
theorem dX4_init_4 : decode cX4_init 4 = .ok (.aload_n 0, 1) := by decide +kernel
theorem dX4_init_5 : decode cX4_init 5 = .ok (.new 9, 3) := by decide +kernel
theorem dX4_init_8 : decode cX4_init 8 = .ok (.dup, 1) := by decide +kernel
theorem dX4_init_9 : decode cX4_init 9 = .ok (.bipush 8, 2) := by decide +kernel
theorem dX4_init_11 : decode cX4_init 11 = .ok (.invokespecial 11, 3) := by decide +kernel
theorem dX4_init_14 : decode cX4_init 14 = .ok (.putfield 14, 3) := by decide +kernel
theorem dX4_init_17 : decode cX4_init 17 = .ok (.aload_n 0, 1) := by decide +kernel
theorem dX4_init_18 : decode cX4_init 18 = .ok (.new 9, 3) := by decide +kernel
theorem dX4_init_21 : decode cX4_init 21 = .ok (.dup, 1) := by decide +kernel
theorem dX4_init_22 : decode cX4_init 22 = .ok (.bipush 8, 2) := by decide +kernel
theorem dX4_init_24 : decode cX4_init 24 = .ok (.invokespecial 11, 3) := by decide +kernel
theorem dX4_init_27 : decode cX4_init 27 = .ok (.putfield 20, 3) := by decide +kernel
theorem dX4_init_30 : decode cX4_init 30 = .ok (.aload_n 0, 1) := by decide +kernel
theorem dX4_init_31 : decode cX4_init 31 = .ok (.new 9, 3) := by decide +kernel
theorem dX4_init_34 : decode cX4_init 34 = .ok (.dup, 1) := by decide +kernel
theorem dX4_init_35 : decode cX4_init 35 = .ok (.bipush 8, 2) := by decide +kernel
theorem dX4_init_37 : decode cX4_init 37 = .ok (.invokespecial 11, 3) := by decide +kernel
theorem dX4_init_40 : decode cX4_init 40 = .ok (.putfield 23, 3) := by decide +kernel
theorem dX4_init_43 : decode cX4_init 43 = .ok (.aload_n 0, 1) := by decide +kernel
theorem dX4_init_44 : decode cX4_init 44 = .ok (.new 9, 3) := by decide +kernel
theorem dX4_init_47 : decode cX4_init 47 = .ok (.dup, 1) := by decide +kernel
theorem dX4_init_48 : decode cX4_init 48 = .ok (.bipush 8, 2) := by decide +kernel
theorem dX4_init_50 : decode cX4_init 50 = .ok (.invokespecial 11, 3) := by decide +kernel
theorem dX4_init_53 : decode cX4_init 53 = .ok (.putfield 26, 3) := by decide +kernel
theorem dX4_init_56 : decode cX4_init 56 = .ok (.return_, 1) := by decide +kernel
set_option maxRecDepth 20000 in
theorem ggX4_add_X5_set : GoodIn wsX4_add wsX5_set := goodIn_r _ [10, 11, 17] (by decide +kernel) (by decide +kernel)
set_option maxRecDepth 20000 in
theorem gX4_add_X5_set : GoodIn wsX4_add (wsV RX4 33 RX5 yX5_set wsX5_set) := goodIn_app (goodIn_of _ (by decide +kernel)) ggX4_add_X5_set
theorem dX4_add_0 : decode cX4_add 0 = .ok (.aload_n 0, 1) := by decide +kernel
theorem dX4_add_1 : decode cX4_add 1 = .ok (.getfield 29, 3) := by decide +kernel
theorem dX4_add_4 : decode cX4_add 4 = .ok (.bipush 8, 2) := by decide +kernel
theorem dX4_add_6 : decode cX4_add 6 = .ok (.if_icmp .lt 5, 3) := by decide +kernel
theorem dX4_add_9 : decode cX4_add 9 = .ok (.iconst 0, 1) := by decide +kernel
theorem dX4_add_10 : decode cX4_add 10 = .ok (.ireturn, 1) := by decide +kernel
theorem dX4_add_11 : decode cX4_add 11 = .ok (.aload_n 0, 1) := by decide +kernel
theorem dX4_add_12 : decode cX4_add 12 = .ok (.getfield 14, 3) := by decide +kernel
theorem dX4_add_15 : decode cX4_add 15 = .ok (.aload_n 0, 1) := by decide +kernel
theorem dX4_add_16 : decode cX4_add 16 = .ok (.getfield 29, 3) := by decide +kernel
theorem dX4_add_19 : decode cX4_add 19 = .ok (.iload_n 1, 1) := by decide +kernel
theorem dX4_add_20 : decode cX4_add 20 = .ok (.i2l, 1) := by decide +kernel
theorem dX4_add_21 : decode cX4_add 21 = .ok (.invokevirtual 33, 3) := by decide +kernel
theorem dX4_add_24 : decode cX4_add 24 = .ok (.aload_n 0, 1) := by decide +kernel
theorem dX4_add_25 : decode cX4_add 25 = .ok (.getfield 20, 3) := by decide +kernel
theorem dX4_add_28 : decode cX4_add 28 = .ok (.aload_n 0, 1) := by decide +kernel
theorem dX4_add_29 : decode cX4_add 29 = .ok (.getfield 29, 3) := by decide +kernel
theorem dX4_add_32 : decode cX4_add 32 = .ok (.iload_n 2, 1) := by decide +kernel
theorem dX4_add_33 : decode cX4_add 33 = .ok (.i2l, 1) := by decide +kernel
theorem dX4_add_34 : decode cX4_add 34 = .ok (.invokevirtual 33, 3) := by decide +kernel
theorem dX4_add_37 : decode cX4_add 37 = .ok (.aload_n 0, 1) := by decide +kernel
theorem dX4_add_38 : decode cX4_add 38 = .ok (.getfield 23, 3) := by decide +kernel
theorem dX4_add_41 : decode cX4_add 41 = .ok (.aload_n 0, 1) := by decide +kernel
theorem dX4_add_42 : decode cX4_add 42 = .ok (.getfield 29, 3) := by decide +kernel
theorem dX4_add_45 : decode cX4_add 45 = .ok (.lload_n 3, 1) := by decide +kernel
theorem dX4_add_46 : decode cX4_add 46 = .ok (.invokevirtual 33, 3) := by decide +kernel
theorem dX4_add_49 : decode cX4_add 49 = .ok (.aload_n 0, 1) := by decide +kernel
theorem dX4_add_50 : decode cX4_add 50 = .ok (.getfield 26, 3) := by decide +kernel
theorem dX4_add_53 : decode cX4_add 53 = .ok (.aload_n 0, 1) := by decide +kernel
theorem dX4_add_54 : decode cX4_add 54 = .ok (.getfield 29, 3) := by decide +kernel
theorem dX4_add_57 : decode cX4_add 57 = .ok (.lload 5, 2) := by decide +kernel
theorem dX4_add_59 : decode cX4_add 59 = .ok (.invokevirtual 33, 3) := by decide +kernel
theorem dX4_add_62 : decode cX4_add 62 = .ok (.aload_n 0, 1) := by decide +kernel
theorem dX4_add_63 : decode cX4_add 63 = .ok (.dup, 1) := by decide +kernel
theorem dX4_add_64 : decode cX4_add 64 = .ok (.getfield 29, 3) := by decide +kernel
theorem dX4_add_67 : decode cX4_add 67 = .ok (.iconst 1, 1) := by decide +kernel
theorem dX4_add_68 : decode cX4_add 68 = .ok (.iadd, 1) := by decide +kernel
theorem dX4_add_69 : decode cX4_add 69 = .ok (.putfield 29, 3) := by decide +kernel
theorem dX4_add_72 : decode cX4_add 72 = .ok (.iconst 1, 1) := by decide +kernel
theorem dX4_add_73 : decode cX4_add 73 = .ok (.ireturn, 1) := by decide +kernel
set_option maxRecDepth 20000 in
theorem ggX4_relieve_X5_get : GoodIn wsX4_relieve wsX5_get := goodIn_r _ [10, 11, 17] (by decide +kernel) (by decide +kernel)
set_option maxRecDepth 20000 in
theorem gX4_relieve_X5_get : GoodIn wsX4_relieve (wsV RX4 37 RX5 yX5_get wsX5_get) := goodIn_app (goodIn_of _ (by decide +kernel)) ggX4_relieve_X5_get
theorem dX4_relieve_0 : decode cX4_relieve 0 = .ok (.iconst 0, 1) := by decide +kernel
theorem dX4_relieve_1 : decode cX4_relieve 1 = .ok (.istore 5, 2) := by decide +kernel
theorem dX4_relieve_3 : decode cX4_relieve 3 = .ok (.iload 5, 2) := by decide +kernel
theorem dX4_relieve_5 : decode cX4_relieve 5 = .ok (.aload_n 0, 1) := by decide +kernel
theorem dX4_relieve_6 : decode cX4_relieve 6 = .ok (.getfield 29, 3) := by decide +kernel
theorem dX4_relieve_9 : decode cX4_relieve 9 = .ok (.if_icmp .ge 69, 3) := by decide +kernel
theorem dX4_relieve_12 : decode cX4_relieve 12 = .ok (.aload_n 0, 1) := by decide +kernel
theorem dX4_relieve_13 : decode cX4_relieve 13 = .ok (.getfield 14, 3) := by decide +kernel
theorem dX4_relieve_16 : decode cX4_relieve 16 = .ok (.iload 5, 2) := by decide +kernel
theorem dX4_relieve_18 : decode cX4_relieve 18 = .ok (.invokevirtual 37, 3) := by decide +kernel
theorem dX4_relieve_21 : decode cX4_relieve 21 = .ok (.iload_n 1, 1) := by decide +kernel
theorem dX4_relieve_22 : decode cX4_relieve 22 = .ok (.i2l, 1) := by decide +kernel
theorem dX4_relieve_23 : decode cX4_relieve 23 = .ok (.lcmp, 1) := by decide +kernel
theorem dX4_relieve_24 : decode cX4_relieve 24 = .ok (.ifCond .ne 48, 3) := by decide +kernel
theorem dX4_relieve_27 : decode cX4_relieve 27 = .ok (.aload_n 0, 1) := by decide +kernel
theorem dX4_relieve_28 : decode cX4_relieve 28 = .ok (.getfield 20, 3) := by decide +kernel
theorem dX4_relieve_31 : decode cX4_relieve 31 = .ok (.iload 5, 2) := by decide +kernel
theorem dX4_relieve_33 : decode cX4_relieve 33 = .ok (.invokevirtual 37, 3) := by decide +kernel
theorem dX4_relieve_36 : decode cX4_relieve 36 = .ok (.iload_n 2, 1) := by decide +kernel
theorem dX4_relieve_37 : decode cX4_relieve 37 = .ok (.i2l, 1) := by decide +kernel
theorem dX4_relieve_38 : decode cX4_relieve 38 = .ok (.lcmp, 1) := by decide +kernel
theorem dX4_relieve_39 : decode cX4_relieve 39 = .ok (.ifCond .ne 33, 3) := by decide +kernel
theorem dX4_relieve_42 : decode cX4_relieve 42 = .ok (.aload_n 0, 1) := by decide +kernel
theorem dX4_relieve_43 : decode cX4_relieve 43 = .ok (.getfield 23, 3) := by decide +kernel
theorem dX4_relieve_46 : decode cX4_relieve 46 = .ok (.iload 5, 2) := by decide +kernel
theorem dX4_relieve_48 : decode cX4_relieve 48 = .ok (.invokevirtual 37, 3) := by decide +kernel
theorem dX4_relieve_51 : decode cX4_relieve 51 = .ok (.lload_n 3, 1) := by decide +kernel
theorem dX4_relieve_52 : decode cX4_relieve 52 = .ok (.lcmp, 1) := by decide +kernel
theorem dX4_relieve_53 : decode cX4_relieve 53 = .ok (.ifCond .gt 19, 3) := by decide +kernel
theorem dX4_relieve_56 : decode cX4_relieve 56 = .ok (.lload_n 3, 1) := by decide +kernel
theorem dX4_relieve_57 : decode cX4_relieve 57 = .ok (.aload_n 0, 1) := by decide +kernel
theorem dX4_relieve_58 : decode cX4_relieve 58 = .ok (.getfield 26, 3) := by decide +kernel
theorem dX4_relieve_61 : decode cX4_relieve 61 = .ok (.iload 5, 2) := by decide +kernel
theorem dX4_relieve_63 : decode cX4_relieve 63 = .ok (.invokevirtual 37, 3) := by decide +kernel
theorem dX4_relieve_66 : decode cX4_relieve 66 = .ok (.lcmp, 1) := by decide +kernel
theorem dX4_relieve_67 : decode cX4_relieve 67 = .ok (.ifCond .gt 5, 3) := by decide +kernel
theorem dX4_relieve_70 : decode cX4_relieve 70 = .ok (.iconst 1, 1) := by decide +kernel
theorem dX4_relieve_71 : decode cX4_relieve 71 = .ok (.ireturn, 1) := by decide +kernel
theorem dX4_relieve_72 : decode cX4_relieve 72 = .ok (.iinc 5 1, 3) := by decide +kernel
theorem dX4_relieve_75 : decode cX4_relieve 75 = .ok (.goto (-72), 3) := by decide +kernel
theorem dX4_relieve_78 : decode cX4_relieve 78 = .ok (.iconst 0, 1) := by decide +kernel
theorem dX4_relieve_79 : decode cX4_relieve 79 = .ok (.ireturn, 1) := by decide +kernel
set_option maxRecDepth 20000 in
theorem ggX7_init_X5_init : GoodIn wsX7_init wsX5_init := goodIn_r _ [10, 11, 2, 3, 12, 13, 14] (by decide +kernel) (by decide +kernel)
set_option maxRecDepth 20000 in
theorem gX7_init_X5_init : GoodIn wsX7_init (wsX5_init) := ggX7_init_X5_init
theorem dX7_init_0 : decode cX7_init 0 = .ok (.aload_n 0, 1) := by decide +kernel
theorem dX7_init_1 : decode cX7_init 1 = .ok (.invokespecial 3, 3) := by decide +kernel
theorem dX7_init_4 : decode cX7_init 4 = .ok (.aload_n 0, 1) := by decide +kernel
theorem dX7_init_5 : decode cX7_init 5 = .ok (.new 9, 3) := by decide +kernel
theorem dX7_init_8 : decode cX7_init 8 = .ok (.dup, 1) := by decide +kernel
theorem dX7_init_9 : decode cX7_init 9 = .ok (.sipush 600, 3) := by decide +kernel
theorem dX7_init_12 : decode cX7_init 12 = .ok (.invokespecial 11, 3) := by decide +kernel
theorem dX7_init_15 : decode cX7_init 15 = .ok (.putfield 14, 3) := by decide +kernel
theorem dX7_init_18 : decode cX7_init 18 = .ok (.return_, 1) := by decide +kernel
set_option maxRecDepth 20000 in
theorem ggX7_add_X5_set : GoodIn wsX7_add wsX5_set := goodIn_r _ [7, 8, 14] (by decide +kernel) (by decide +kernel)
set_option maxRecDepth 20000 in
theorem gX7_add_X5_set : GoodIn wsX7_add (wsV RX7 24 RX5 yX5_set wsX5_set) := goodIn_app (goodIn_of _ (by decide +kernel)) ggX7_add_X5_set
theorem dX7_add_0 : decode cX7_add 0 = .ok (.aload_n 0, 1) := by decide +kernel
theorem dX7_add_1 : decode cX7_add 1 = .ok (.getfield 20, 3) := by decide +kernel
theorem dX7_add_4 : decode cX7_add 4 = .ok (.sipush 600, 3) := by decide +kernel
theorem dX7_add_7 : decode cX7_add 7 = .ok (.if_icmp .lt 5, 3) := by decide +kernel
theorem dX7_add_10 : decode cX7_add 10 = .ok (.iconst 0, 1) := by decide +kernel
theorem dX7_add_11 : decode cX7_add 11 = .ok (.ireturn, 1) := by decide +kernel
theorem dX7_add_12 : decode cX7_add 12 = .ok (.aload_n 0, 1) := by decide +kernel
theorem dX7_add_13 : decode cX7_add 13 = .ok (.getfield 14, 3) := by decide +kernel
theorem dX7_add_16 : decode cX7_add 16 = .ok (.aload_n 0, 1) := by decide +kernel
theorem dX7_add_17 : decode cX7_add 17 = .ok (.getfield 20, 3) := by decide +kernel
theorem dX7_add_20 : decode cX7_add 20 = .ok (.iload_n 1, 1) := by decide +kernel
theorem dX7_add_21 : decode cX7_add 21 = .ok (.i2l, 1) := by decide +kernel
theorem dX7_add_22 : decode cX7_add 22 = .ok (.invokevirtual 24, 3) := by decide +kernel
theorem dX7_add_25 : decode cX7_add 25 = .ok (.aload_n 0, 1) := by decide +kernel
theorem dX7_add_26 : decode cX7_add 26 = .ok (.dup, 1) := by decide +kernel
theorem dX7_add_27 : decode cX7_add 27 = .ok (.getfield 20, 3) := by decide +kernel
theorem dX7_add_30 : decode cX7_add 30 = .ok (.iconst 1, 1) := by decide +kernel
theorem dX7_add_31 : decode cX7_add 31 = .ok (.iadd, 1) := by decide +kernel
theorem dX7_add_32 : decode cX7_add 32 = .ok (.putfield 20, 3) := by decide +kernel
theorem dX7_add_35 : decode cX7_add 35 = .ok (.iconst 1, 1) := by decide +kernel
theorem dX7_add_36 : decode cX7_add 36 = .ok (.ireturn, 1) := by decide +kernel
theorem dX7_clear_0 : decode cX7_clear 0 = .ok (.aload_n 0, 1) := by decide +kernel
theorem dX7_clear_1 : decode cX7_clear 1 = .ok (.iconst 0, 1) := by decide +kernel
theorem dX7_clear_2 : decode cX7_clear 2 = .ok (.putfield 20, 3) := by decide +kernel
theorem dX7_clear_5 : decode cX7_clear 5 = .ok (.return_, 1) := by decide +kernel
set_option maxRecDepth 20000 in
theorem ggX7_toFirstWord_X7_toNextWord : GoodIn wsX7_toFirstWord wsX7_toNextWord := goodIn_r _ [7, 1, 8, 9, 10, 2, 11, 12, 13, 14, 15, 16, 17, 18, 6, 19, 20, 21, 22, 23, 24, 25, 26, 27] (by decide +kernel) (by decide +kernel)
set_option maxRecDepth 20000 in
theorem gX7_toFirstWord_X7_toNextWord : GoodIn wsX7_toFirstWord (wsV RX7 31 RX7 yX7_toNextWord wsX7_toNextWord) := goodIn_app (goodIn_of _ (by decide +kernel)) ggX7_toFirstWord_X7_toNextWord
theorem dX7_toFirstWord_0 : decode cX7_toFirstWord 0 = .ok (.aload_n 0, 1) := by decide +kernel
theorem dX7_toFirstWord_1 : decode cX7_toFirstWord 1 = .ok (.iconst 0, 1) := by decide +kernel
theorem dX7_toFirstWord_2 : decode cX7_toFirstWord 2 = .ok (.putfield 28, 3) := by decide +kernel
theorem dX7_toFirstWord_5 : decode cX7_toFirstWord 5 = .ok (.aload_n 0, 1) := by decide +kernel
theorem dX7_toFirstWord_6 : decode cX7_toFirstWord 6 = .ok (.invokevirtual 31, 3) := by decide +kernel
theorem dX7_toFirstWord_9 : decode cX7_toFirstWord 9 = .ok (.aload_n 0, 1) := by decide +kernel
theorem dX7_toFirstWord_10 : decode cX7_toFirstWord 10 = .ok (.iconst 0, 1) := by decide +kernel
theorem dX7_toFirstWord_11 : decode cX7_toFirstWord 11 = .ok (.putfield 34, 3) := by decide +kernel
theorem dX7_toFirstWord_14 : decode cX7_toFirstWord 14 = .ok (.return_, 1) := by decide +kernel
set_option maxRecDepth 20000 in
theorem ggX7_toNextWord_X5_get : GoodIn wsX7_toNextWord wsX5_get := goodIn_r _ [10, 11, 23] (by decide +kernel) (by decide +kernel)
set_option maxRecDepth 20000 in
theorem gX7_toNextWord_X5_get : GoodIn wsX7_toNextWord (wsV RX7 40 RX5 yX5_get wsX5_get) := goodIn_app (goodIn_of _ (by decide +kernel)) ggX7_toNextWord_X5_get
set_option maxRecDepth 20000 in
theorem ggX7_toNextWord_X7_isBlank : GoodIn wsX7_toNextWord wsX7_isBlank := goodIn_r _ [15, 16, 17] (by decide +kernel) (by decide +kernel)
set_option maxRecDepth 20000 in
theorem gX7_toNextWord_X7_isBlank : GoodIn wsX7_toNextWord (va_wsS RX7 44 yX7_isBlank wsX7_isBlank) := goodIn_app (goodIn_of _ (by decide +kernel)) ggX7_toNextWord_X7_isBlank
theorem dX7_toNextWord_0 : decode cX7_toNextWord 0 = .ok (.aload_n 0, 1) := by decide +kernel
theorem dX7_toNextWord_1 : decode cX7_toNextWord 1 = .ok (.aload_n 0, 1) := by decide +kernel
theorem dX7_toNextWord_2 : decode cX7_toNextWord 2 = .ok (.getfield 28, 3) := by decide +kernel
theorem dX7_toNextWord_5 : decode cX7_toNextWord 5 = .ok (.putfield 37, 3) := by decide +kernel
theorem dX7_toNextWord_8 : decode cX7_toNextWord 8 = .ok (.aload_n 0, 1) := by decide +kernel
theorem dX7_toNextWord_9 : decode cX7_toNextWord 9 = .ok (.getfield 37, 3) := by decide +kernel
theorem dX7_toNextWord_12 : decode cX7_toNextWord 12 = .ok (.aload_n 0, 1) := by decide +kernel
theorem dX7_toNextWord_13 : decode cX7_toNextWord 13 = .ok (.getfield 20, 3) := by decide +kernel
theorem dX7_toNextWord_16 : decode cX7_toNextWord 16 = .ok (.if_icmp .ge 33, 3) := by decide +kernel
theorem dX7_toNextWord_19 : decode cX7_toNextWord 19 = .ok (.aload_n 0, 1) := by decide +kernel
theorem dX7_toNextWord_20 : decode cX7_toNextWord 20 = .ok (.getfield 14, 3) := by decide +kernel
theorem dX7_toNextWord_23 : decode cX7_toNextWord 23 = .ok (.aload_n 0, 1) := by decide +kernel
theorem dX7_toNextWord_24 : decode cX7_toNextWord 24 = .ok (.getfield 37, 3) := by decide +kernel
theorem dX7_toNextWord_27 : decode cX7_toNextWord 27 = .ok (.invokevirtual 40, 3) := by decide +kernel
theorem dX7_toNextWord_30 : decode cX7_toNextWord 30 = .ok (.invokestatic 44, 3) := by decide +kernel
theorem dX7_toNextWord_33 : decode cX7_toNextWord 33 = .ok (.ifCond .eq 16, 3) := by decide +kernel
theorem dX7_toNextWord_36 : decode cX7_toNextWord 36 = .ok (.aload_n 0, 1) := by decide +kernel
theorem dX7_toNextWord_37 : decode cX7_toNextWord 37 = .ok (.dup, 1) := by decide +kernel
theorem dX7_toNextWord_38 : decode cX7_toNextWord 38 = .ok (.getfield 37, 3) := by decide +kernel
theorem dX7_toNextWord_41 : decode cX7_toNextWord 41 = .ok (.iconst 1, 1) := by decide +kernel
theorem dX7_toNextWord_42 : decode cX7_toNextWord 42 = .ok (.iadd, 1) := by decide +kernel
theorem dX7_toNextWord_43 : decode cX7_toNextWord 43 = .ok (.putfield 37, 3) := by decide +kernel
theorem dX7_toNextWord_46 : decode cX7_toNextWord 46 = .ok (.goto (-38), 3) := by decide +kernel
theorem dX7_toNextWord_49 : decode cX7_toNextWord 49 = .ok (.aload_n 0, 1) := by decide +kernel
theorem dX7_toNextWord_50 : decode cX7_toNextWord 50 = .ok (.aload_n 0, 1) := by decide +kernel
theorem dX7_toNextWord_51 : decode cX7_toNextWord 51 = .ok (.getfield 37, 3) := by decide +kernel
theorem dX7_toNextWord_54 : decode cX7_toNextWord 54 = .ok (.putfield 28, 3) := by decide +kernel
theorem dX7_toNextWord_57 : decode cX7_toNextWord 57 = .ok (.aload_n 0, 1) := by decide +kernel
theorem dX7_toNextWord_58 : decode cX7_toNextWord 58 = .ok (.getfield 28, 3) := by decide +kernel
theorem dX7_toNextWord_61 : decode cX7_toNextWord 61 = .ok (.aload_n 0, 1) := by decide +kernel
theorem dX7_toNextWord_62 : decode cX7_toNextWord 62 = .ok (.getfield 20, 3) := by decide +kernel
theorem dX7_toNextWord_65 : decode cX7_toNextWord 65 = .ok (.if_icmp .ge 33, 3) := by decide +kernel
theorem dX7_toNextWord_68 : decode cX7_toNextWord 68 = .ok (.aload_n 0, 1) := by decide +kernel
theorem dX7_toNextWord_69 : decode cX7_toNextWord 69 = .ok (.getfield 14, 3) := by decide +kernel
theorem dX7_toNextWord_72 : decode cX7_toNextWord 72 = .ok (.aload_n 0, 1) := by decide +kernel
theorem dX7_toNextWord_73 : decode cX7_toNextWord 73 = .ok (.getfield 28, 3) := by decide +kernel
theorem dX7_toNextWord_76 : decode cX7_toNextWord 76 = .ok (.invokevirtual 40, 3) := by decide +kernel
theorem dX7_toNextWord_79 : decode cX7_toNextWord 79 = .ok (.invokestatic 44, 3) := by decide +kernel
theorem dX7_toNextWord_82 : decode cX7_toNextWord 82 = .ok (.ifCond .ne 16, 3) := by decide +kernel
theorem dX7_toNextWord_85 : decode cX7_toNextWord 85 = .ok (.aload_n 0, 1) := by decide +kernel
theorem dX7_toNextWord_86 : decode cX7_toNextWord 86 = .ok (.dup, 1) := by decide +kernel
theorem dX7_toNextWord_87 : decode cX7_toNextWord 87 = .ok (.getfield 28, 3) := by decide +kernel
theorem dX7_toNextWord_90 : decode cX7_toNextWord 90 = .ok (.iconst 1, 1) := by decide +kernel
theorem dX7_toNextWord_91 : decode cX7_toNextWord 91 = .ok (.iadd, 1) := by decide +kernel
theorem dX7_toNextWord_92 : decode cX7_toNextWord 92 = .ok (.putfield 28, 3) := by decide +kernel
theorem dX7_toNextWord_95 : decode cX7_toNextWord 95 = .ok (.goto (-38), 3) := by decide +kernel
theorem dX7_toNextWord_98 : decode cX7_toNextWord 98 = .ok (.aload_n 0, 1) := by decide +kernel
theorem dX7_toNextWord_99 : decode cX7_toNextWord 99 = .ok (.dup, 1) := by decide +kernel
theorem dX7_toNextWord_100 : decode cX7_toNextWord 100 = .ok (.getfield 34, 3) := by decide +kernel
theorem dX7_toNextWord_103 : decode cX7_toNextWord 103 = .ok (.iconst 1, 1) := by decide +kernel
theorem dX7_toNextWord_104 : decode cX7_toNextWord 104 = .ok (.iadd, 1) := by decide +kernel
theorem dX7_toNextWord_105 : decode cX7_toNextWord 105 = .ok (.putfield 34, 3) := by decide +kernel
theorem dX7_toNextWord_108 : decode cX7_toNextWord 108 = .ok (.return_, 1) := by decide +kernel
theorem dX7_isBlank_0 : decode cX7_isBlank 0 = .ok (.lload_n 0, 1) := by decide +kernel
theorem dX7_isBlank_1 : decode cX7_isBlank 1 = .ok (.ldc2_w 48, 3) := by decide +kernel
theorem dX7_isBlank_4 : decode cX7_isBlank 4 = .ok (.lcmp, 1) := by decide +kernel
theorem dX7_isBlank_5 : decode cX7_isBlank 5 = .ok (.ifCond .eq 11, 3) := by decide +kernel
theorem dX7_isBlank_8 : decode cX7_isBlank 8 = .ok (.lload_n 0, 1) := by decide +kernel
theorem dX7_isBlank_9 : decode cX7_isBlank 9 = .ok (.ldc2_w 50, 3) := by decide +kernel
theorem dX7_isBlank_12 : decode cX7_isBlank 12 = .ok (.lcmp, 1) := by decide +kernel
theorem dX7_isBlank_13 : decode cX7_isBlank 13 = .ok (.ifCond .ne 7, 3) := by decide +kernel
theorem dX7_isBlank_16 : decode cX7_isBlank 16 = .ok (.iconst 1, 1) := by decide +kernel
theorem dX7_isBlank_17 : decode cX7_isBlank 17 = .ok (.goto 4, 3) := by decide +kernel
theorem dX7_isBlank_20 : decode cX7_isBlank 20 = .ok (.iconst 0, 1) := by decide +kernel
theorem dX7_isBlank_21 : decode cX7_isBlank 21 = .ok (.ireturn, 1) := by decide +kernel
theorem dX7_hasWord_0 : decode cX7_hasWord 0 = .ok (.aload_n 0, 1) := by decide +kernel
theorem dX7_hasWord_1 : decode cX7_hasWord 1 = .ok (.getfield 37, 3) := by decide +kernel
theorem dX7_hasWord_4 : decode cX7_hasWord 4 = .ok (.aload_n 0, 1) := by decide +kernel
theorem dX7_hasWord_5 : decode cX7_hasWord 5 = .ok (.getfield 28, 3) := by decide +kernel
theorem dX7_hasWord_8 : decode cX7_hasWord 8 = .ok (.if_icmp .ge 7, 3) := by decide +kernel
theorem dX7_hasWord_11 : decode cX7_hasWord 11 = .ok (.iconst 1, 1) := by decide +kernel
theorem dX7_hasWord_12 : decode cX7_hasWord 12 = .ok (.goto 4, 3) := by decide +kernel
theorem dX7_hasWord_15 : decode cX7_hasWord 15 = .ok (.iconst 0, 1) := by decide +kernel
theorem dX7_hasWord_16 : decode cX7_hasWord 16 = .ok (.ireturn, 1) := by decide +kernel
theorem dX7_numberOfWord_0 : decode cX7_numberOfWord 0 = .ok (.aload_n 0, 1) := by decide +kernel
theorem dX7_numberOfWord_1 : decode cX7_numberOfWord 1 = .ok (.getfield 34, 3) := by decide +kernel
theorem dX7_numberOfWord_4 : decode cX7_numberOfWord 4 = .ok (.ireturn, 1) := by decide +kernel
set_option maxRecDepth 20000 in
theorem ggX7_isWord_J0_length_8abf5 : GoodIn wsX7_isWord wsJ0_length_8abf5 := goodIn_r _ [8, 9, 10, 11, 12, 7, 13, 14, 15] (by decide +kernel) (by decide +kernel)
set_option maxRecDepth 20000 in
theorem gX7_isWord_J0_length_8abf5 : GoodIn wsX7_isWord (wsV RX7 52 RJ0 yJ0_length_8abf5 wsJ0_length_8abf5) := goodIn_app (goodIn_of _ (by decide +kernel)) ggX7_isWord_J0_length_8abf5
set_option maxRecDepth 20000 in
theorem ggX7_isWord_X5_get : GoodIn wsX7_isWord wsX5_get := goodIn_r _ [20, 21, 64] (by decide +kernel) (by decide +kernel)
set_option maxRecDepth 20000 in
theorem gX7_isWord_X5_get : GoodIn wsX7_isWord (wsV RX7 40 RX5 yX5_get wsX5_get) := goodIn_app (goodIn_of _ (by decide +kernel)) ggX7_isWord_X5_get
set_option maxRecDepth 20000 in
theorem ggX7_isWord_J0_charAt_5068e : GoodIn wsX7_isWord wsJ0_charAt_5068e := goodIn_r _ [25, 9, 26, 27, 28, 7, 29, 14, 15, 30, 31, 32, 33, 34, 35, 36, 37, 38, 39, 40, 41, 42, 43, 44, 45, 46, 47, 48, 49, 50, 51, 52, 53, 54, 55, 56, 57, 58] (by decide +kernel) (by decide +kernel)
set_option maxRecDepth 20000 in
theorem gX7_isWord_J0_charAt_5068e : GoodIn wsX7_isWord (wsV RX7 57 RJ0 yJ0_charAt_5068e wsJ0_charAt_5068e) := goodIn_app (goodIn_of _ (by decide +kernel)) ggX7_isWord_J0_charAt_5068e
theorem dX7_isWord_0 : decode cX7_isWord 0 = .ok (.aload_n 1, 1) := by decide +kernel
theorem dX7_isWord_1 : decode cX7_isWord 1 = .ok (.ifnull 19, 3) := by decide +kernel
theorem dX7_isWord_4 : decode cX7_isWord 4 = .ok (.aload_n 0, 1) := by decide +kernel
theorem dX7_isWord_5 : decode cX7_isWord 5 = .ok (.getfield 28, 3) := by decide +kernel
theorem dX7_isWord_8 : decode cX7_isWord 8 = .ok (.aload_n 0, 1) := by decide +kernel
theorem dX7_isWord_9 : decode cX7_isWord 9 = .ok (.getfield 37, 3) := by decide +kernel
theorem dX7_isWord_12 : decode cX7_isWord 12 = .ok (.isub, 1) := by decide +kernel
theorem dX7_isWord_13 : decode cX7_isWord 13 = .ok (.aload_n 1, 1) := by decide +kernel
theorem dX7_isWord_14 : decode cX7_isWord 14 = .ok (.invokevirtual 52, 3) := by decide +kernel
theorem dX7_isWord_17 : decode cX7_isWord 17 = .ok (.if_icmp .eq 5, 3) := by decide +kernel
theorem dX7_isWord_20 : decode cX7_isWord 20 = .ok (.iconst 0, 1) := by decide +kernel
theorem dX7_isWord_21 : decode cX7_isWord 21 = .ok (.ireturn, 1) := by decide +kernel
theorem dX7_isWord_22 : decode cX7_isWord 22 = .ok (.iconst 0, 1) := by decide +kernel
theorem dX7_isWord_23 : decode cX7_isWord 23 = .ok (.istore_n 2, 1) := by decide +kernel
theorem dX7_isWord_24 : decode cX7_isWord 24 = .ok (.iload_n 2, 1) := by decide +kernel
theorem dX7_isWord_25 : decode cX7_isWord 25 = .ok (.aload_n 1, 1) := by decide +kernel
theorem dX7_isWord_26 : decode cX7_isWord 26 = .ok (.invokevirtual 52, 3) := by decide +kernel
theorem dX7_isWord_29 : decode cX7_isWord 29 = .ok (.if_icmp .ge 34, 3) := by decide +kernel
theorem dX7_isWord_32 : decode cX7_isWord 32 = .ok (.aload_n 0, 1) := by decide +kernel
theorem dX7_isWord_33 : decode cX7_isWord 33 = .ok (.getfield 14, 3) := by decide +kernel
theorem dX7_isWord_36 : decode cX7_isWord 36 = .ok (.aload_n 0, 1) := by decide +kernel
theorem dX7_isWord_37 : decode cX7_isWord 37 = .ok (.getfield 37, 3) := by decide +kernel
theorem dX7_isWord_40 : decode cX7_isWord 40 = .ok (.iload_n 2, 1) := by decide +kernel
theorem dX7_isWord_41 : decode cX7_isWord 41 = .ok (.iadd, 1) := by decide +kernel
theorem dX7_isWord_42 : decode cX7_isWord 42 = .ok (.invokevirtual 40, 3) := by decide +kernel
theorem dX7_isWord_45 : decode cX7_isWord 45 = .ok (.aload_n 1, 1) := by decide +kernel
theorem dX7_isWord_46 : decode cX7_isWord 46 = .ok (.iload_n 2, 1) := by decide +kernel
theorem dX7_isWord_47 : decode cX7_isWord 47 = .ok (.invokevirtual 57, 3) := by decide +kernel
theorem dX7_isWord_50 : decode cX7_isWord 50 = .ok (.i2l, 1) := by decide +kernel
theorem dX7_isWord_51 : decode cX7_isWord 51 = .ok (.lcmp, 1) := by decide +kernel
theorem dX7_isWord_52 : decode cX7_isWord 52 = .ok (.ifCond .eq 5, 3) := by decide +kernel
theorem dX7_isWord_55 : decode cX7_isWord 55 = .ok (.iconst 0, 1) := by decide +kernel
theorem dX7_isWord_56 : decode cX7_isWord 56 = .ok (.ireturn, 1) := by decide +kernel
theorem dX7_isWord_57 : decode cX7_isWord 57 = .ok (.iinc 2 1, 3) := by decide +kernel
theorem dX7_isWord_60 : decode cX7_isWord 60 = .ok (.goto (-36), 3) := by decide +kernel
theorem dX7_isWord_63 : decode cX7_isWord 63 = .ok (.iconst 1, 1) := by decide +kernel
theorem dX7_isWord_64 : decode cX7_isWord 64 = .ok (.ireturn, 1) := by decide +kernel
set_option maxRecDepth 20000 in
theorem ggX7_asNumber_X7_hasWord : GoodIn wsX7_asNumber wsX7_hasWord := goodIn_r _ [12, 2, 1, 19, 20, 21, 22, 23] (by decide +kernel) (by decide +kernel)
set_option maxRecDepth 20000 in
theorem gX7_asNumber_X7_hasWord : GoodIn wsX7_asNumber (wsV RX7 61 RX7 yX7_hasWord wsX7_hasWord) := goodIn_app (goodIn_of _ (by decide +kernel)) ggX7_asNumber_X7_hasWord
set_option maxRecDepth 20000 in
theorem ggX7_asNumber_X5_get : GoodIn wsX7_asNumber wsX5_get := goodIn_r _ [17, 18, 24] (by decide +kernel) (by decide +kernel)
set_option maxRecDepth 20000 in
theorem gX7_asNumber_X5_get : GoodIn wsX7_asNumber (wsV RX7 40 RX5 yX5_get wsX5_get) := goodIn_app (goodIn_of _ (by decide +kernel)) ggX7_asNumber_X5_get
theorem dX7_asNumber_0 : decode cX7_asNumber 0 = .ok (.aload_n 0, 1) := by decide +kernel
theorem dX7_asNumber_1 : decode cX7_asNumber 1 = .ok (.invokevirtual 61, 3) := by decide +kernel
theorem dX7_asNumber_4 : decode cX7_asNumber 4 = .ok (.ifCond .eq 17, 3) := by decide +kernel
theorem dX7_asNumber_7 : decode cX7_asNumber 7 = .ok (.aload_n 0, 1) := by decide +kernel
theorem dX7_asNumber_8 : decode cX7_asNumber 8 = .ok (.getfield 28, 3) := by decide +kernel
theorem dX7_asNumber_11 : decode cX7_asNumber 11 = .ok (.aload_n 0, 1) := by decide +kernel
theorem dX7_asNumber_12 : decode cX7_asNumber 12 = .ok (.getfield 37, 3) := by decide +kernel
theorem dX7_asNumber_15 : decode cX7_asNumber 15 = .ok (.isub, 1) := by decide +kernel
theorem dX7_asNumber_16 : decode cX7_asNumber 16 = .ok (.bipush 6, 2) := by decide +kernel
theorem dX7_asNumber_18 : decode cX7_asNumber 18 = .ok (.if_icmp .le 7, 3) := by decide +kernel
theorem dX7_asNumber_21 : decode cX7_asNumber 21 = .ok (.ldc2_w 65, 3) := by decide +kernel
theorem dX7_asNumber_24 : decode cX7_asNumber 24 = .ok (.lreturn, 1) := by decide +kernel
theorem dX7_asNumber_25 : decode cX7_asNumber 25 = .ok (.lconst 0, 1) := by decide +kernel
theorem dX7_asNumber_26 : decode cX7_asNumber 26 = .ok (.lstore_n 1, 1) := by decide +kernel
theorem dX7_asNumber_27 : decode cX7_asNumber 27 = .ok (.aload_n 0, 1) := by decide +kernel
theorem dX7_asNumber_28 : decode cX7_asNumber 28 = .ok (.getfield 37, 3) := by decide +kernel
theorem dX7_asNumber_31 : decode cX7_asNumber 31 = .ok (.istore_n 3, 1) := by decide +kernel
theorem dX7_asNumber_32 : decode cX7_asNumber 32 = .ok (.iload_n 3, 1) := by decide +kernel
theorem dX7_asNumber_33 : decode cX7_asNumber 33 = .ok (.aload_n 0, 1) := by decide +kernel
theorem dX7_asNumber_34 : decode cX7_asNumber 34 = .ok (.getfield 28, 3) := by decide +kernel
theorem dX7_asNumber_37 : decode cX7_asNumber 37 = .ok (.if_icmp .ge 52, 3) := by decide +kernel
theorem dX7_asNumber_40 : decode cX7_asNumber 40 = .ok (.aload_n 0, 1) := by decide +kernel
theorem dX7_asNumber_41 : decode cX7_asNumber 41 = .ok (.getfield 14, 3) := by decide +kernel
theorem dX7_asNumber_44 : decode cX7_asNumber 44 = .ok (.iload_n 3, 1) := by decide +kernel
theorem dX7_asNumber_45 : decode cX7_asNumber 45 = .ok (.invokevirtual 40, 3) := by decide +kernel
theorem dX7_asNumber_48 : decode cX7_asNumber 48 = .ok (.ldc2_w 67, 3) := by decide +kernel
theorem dX7_asNumber_51 : decode cX7_asNumber 51 = .ok (.lsub, 1) := by decide +kernel
theorem dX7_asNumber_52 : decode cX7_asNumber 52 = .ok (.lstore 4, 2) := by decide +kernel
theorem dX7_asNumber_54 : decode cX7_asNumber 54 = .ok (.lload 4, 2) := by decide +kernel
theorem dX7_asNumber_56 : decode cX7_asNumber 56 = .ok (.lconst 0, 1) := by decide +kernel
theorem dX7_asNumber_57 : decode cX7_asNumber 57 = .ok (.lcmp, 1) := by decide +kernel
theorem dX7_asNumber_58 : decode cX7_asNumber 58 = .ok (.ifCond .lt 12, 3) := by decide +kernel
theorem dX7_asNumber_61 : decode cX7_asNumber 61 = .ok (.lload 4, 2) := by decide +kernel
theorem dX7_asNumber_63 : decode cX7_asNumber 63 = .ok (.ldc2_w 69, 3) := by decide +kernel
theorem dX7_asNumber_66 : decode cX7_asNumber 66 = .ok (.lcmp, 1) := by decide +kernel
theorem dX7_asNumber_67 : decode cX7_asNumber 67 = .ok (.ifCond .le 7, 3) := by decide +kernel
theorem dX7_asNumber_70 : decode cX7_asNumber 70 = .ok (.ldc2_w 65, 3) := by decide +kernel
theorem dX7_asNumber_73 : decode cX7_asNumber 73 = .ok (.lreturn, 1) := by decide +kernel
theorem dX7_asNumber_74 : decode cX7_asNumber 74 = .ok (.lload_n 1, 1) := by decide +kernel
theorem dX7_asNumber_75 : decode cX7_asNumber 75 = .ok (.ldc2_w 50, 3) := by decide +kernel
theorem dX7_asNumber_78 : decode cX7_asNumber 78 = .ok (.lmul, 1) := by decide +kernel
theorem dX7_asNumber_79 : decode cX7_asNumber 79 = .ok (.lload 4, 2) := by decide +kernel
theorem dX7_asNumber_81 : decode cX7_asNumber 81 = .ok (.ladd, 1) := by decide +kernel
theorem dX7_asNumber_82 : decode cX7_asNumber 82 = .ok (.lstore_n 1, 1) := by decide +kernel
theorem dX7_asNumber_83 : decode cX7_asNumber 83 = .ok (.iinc 3 1, 3) := by decide +kernel
theorem dX7_asNumber_86 : decode cX7_asNumber 86 = .ok (.goto (-54), 3) := by decide +kernel
theorem dX7_asNumber_89 : decode cX7_asNumber 89 = .ok (.lload_n 1, 1) := by decide +kernel
theorem dX7_asNumber_90 : decode cX7_asNumber 90 = .ok (.lreturn, 1) := by decide +kernel
end
section
theorem dX6_init_0 : decode cX6_init 0 = .ok (.aload_n 0, 1) := by decide +kernel
theorem dX6_init_1 : decode cX6_init 1 = .ok (.invokespecial 3, 3) := by decide +kernel
theorem dX6_init_4 : decode cX6_init 4 = .ok (.aload_n 0, 1) := by decide +kernel
theorem dX6_init_5 : decode cX6_init 5 = .ok (.aload_n 1, 1) := by decide +kernel
theorem dX6_init_6 : decode cX6_init 6 = .ok (.putfield 9, 3) := by decide +kernel
theorem dX6_init_9 : decode cX6_init 9 = .ok (.aload_n 0, 1) := by decide +kernel
theorem dX6_init_10 : decode cX6_init 10 = .ok (.aload_n 2, 1) := by decide +kernel
theorem dX6_init_11 : decode cX6_init 11 = .ok (.putfield 15, 3) := by decide +kernel
theorem dX6_init_14 : decode cX6_init 14 = .ok (.return_, 1) := by decide +kernel
set_option maxRecDepth 20000 in
theorem ggX6_readRules_X0_startDraft : GoodIn wsX6_readRules wsX0_startDraft := goodIn_r _ [7, 8, 9, 10, 11, 12, 13, 6, 14, 15, 16, 17, 18, 19, 20, 166, 167, 168, 169, 170, 171, 172, 173, 174, 175, 176, 177, 178] (by decide +kernel) (by decide +kernel)
set_option maxRecDepth 20000 in
theorem gX6_readRules_X0_startDraft : GoodIn wsX6_readRules (wsV RX6 19 RX0 yX0_startDraft wsX0_startDraft) := goodIn_app (goodIn_of _ (by decide +kernel)) ggX6_readRules_X0_startDraft
set_option maxRecDepth 20000 in
theorem ggX6_readRules_X7_toFirstWord : GoodIn wsX6_readRules wsX7_toFirstWord := goodIn_r _ [25, 26, 27, 28, 29, 30, 24, 31, 32, 33, 34, 35, 36, 37, 18, 38, 20, 39, 40, 41, 42, 43, 179, 180, 181, 182, 183, 178] (by decide +kernel) (by decide +kernel)
set_option maxRecDepth 20000 in
theorem gX6_readRules_X7_toFirstWord : GoodIn wsX6_readRules (wsV RX6 24 RX7 yX7_toFirstWord wsX7_toFirstWord) := goodIn_app (goodIn_of _ (by decide +kernel)) ggX6_readRules_X7_toFirstWord
set_option maxRecDepth 20000 in
theorem ggX6_readRules_X7_hasWord : GoodIn wsX6_readRules wsX7_hasWord := goodIn_r _ [47, 32, 26, 179, 180, 181, 182, 183] (by decide +kernel) (by decide +kernel)
set_option maxRecDepth 20000 in
theorem gX6_readRules_X7_hasWord : GoodIn wsX6_readRules (wsV RX6 29 RX7 yX7_hasWord wsX7_hasWord) := goodIn_app (goodIn_of _ (by decide +kernel)) ggX6_readRules_X7_hasWord
set_option maxRecDepth 20000 in
theorem ggX6_readRules_X6_takeRule : GoodIn wsX6_readRules wsX6_takeRule := goodIn_r _ [52, 2, 53, 1, 54, 55, 56, 51, 57, 58, 59, 60, 24, 61, 26, 32, 34, 62, 63, 64, 65, 66, 67, 68, 69, 70, 71, 72, 73, 35, 36, 37, 18, 38, 20, 74, 75, 76, 77, 78, 79, 80, 81, 82, 83, 84, 85, 86, 87, 88, 89, 90, 91, 92, 93, 94, 95, 96, 97, 98, 99, 100, 101, 102, 103, 104, 105, 106, 107, 108, 109, 110, 111, 29, 30, 31, 33, 27, 39, 40, 41, 42, 43, 112, 113, 114, 115, 116, 117, 118, 119, 45, 46, 47, 120, 121, 122, 6, 123, 9, 10, 11, 12, 13, 14, 124, 125, 126, 127, 128, 129, 130, 131, 132, 133, 134, 135, 136, 137, 138, 139, 140, 8, 141, 15, 16, 17, 19, 142, 143, 144, 145, 146, 147, 148, 149, 150, 151, 152, 153, 154, 155, 156, 157, 158, 159, 164, 165, 179, 180, 181, 182, 183, 178, 166, 167, 168, 169, 170, 171, 172, 173, 174, 175, 176, 177] (by decide +kernel) (by decide +kernel)
set_option maxRecDepth 20000 in
theorem gX6_readRules_X6_takeRule : GoodIn wsX6_readRules (wsV RX6 33 RX6 yX6_takeRule wsX6_takeRule) := goodIn_app (goodIn_of _ (by decide +kernel)) ggX6_readRules_X6_takeRule
set_option maxRecDepth 20000 in
theorem ggX6_readRules_X7_numberOfWord : GoodIn wsX6_readRules wsX7_numberOfWord := goodIn_r _ [163, 27, 179, 180, 181, 182, 183] (by decide +kernel) (by decide +kernel)
set_option maxRecDepth 20000 in
theorem gX6_readRules_X7_numberOfWord : GoodIn wsX6_readRules (wsV RX6 36 RX7 yX7_numberOfWord wsX7_numberOfWord) := goodIn_app (goodIn_of _ (by decide +kernel)) ggX6_readRules_X7_numberOfWord
theorem dX6_readRules_0 : decode cX6_readRules 0 = .ok (.aload_n 0, 1) := by decide +kernel
theorem dX6_readRules_1 : decode cX6_readRules 1 = .ok (.getfield 15, 3) := by decide +kernel
theorem dX6_readRules_4 : decode cX6_readRules 4 = .ok (.invokevirtual 19, 3) := by decide +kernel
theorem dX6_readRules_7 : decode cX6_readRules 7 = .ok (.aload_n 0, 1) := by decide +kernel
theorem dX6_readRules_8 : decode cX6_readRules 8 = .ok (.getfield 9, 3) := by decide +kernel
theorem dX6_readRules_11 : decode cX6_readRules 11 = .ok (.invokevirtual 24, 3) := by decide +kernel
theorem dX6_readRules_14 : decode cX6_readRules 14 = .ok (.iconst 0, 1) := by decide +kernel
theorem dX6_readRules_15 : decode cX6_readRules 15 = .ok (.istore_n 1, 1) := by decide +kernel
theorem dX6_readRules_16 : decode cX6_readRules 16 = .ok (.iload_n 1, 1) := by decide +kernel
theorem dX6_readRules_17 : decode cX6_readRules 17 = .ok (.bipush 6, 2) := by decide +kernel
theorem dX6_readRules_19 : decode cX6_readRules 19 = .ok (.if_icmp .gt 31, 3) := by decide +kernel
theorem dX6_readRules_22 : decode cX6_readRules 22 = .ok (.aload_n 0, 1) := by decide +kernel
theorem dX6_readRules_23 : decode cX6_readRules 23 = .ok (.getfield 9, 3) := by decide +kernel
theorem dX6_readRules_26 : decode cX6_readRules 26 = .ok (.invokevirtual 29, 3) := by decide +kernel
theorem dX6_readRules_29 : decode cX6_readRules 29 = .ok (.ifCond .ne 5, 3) := by decide +kernel
theorem dX6_readRules_32 : decode cX6_readRules 32 = .ok (.iload_n 1, 1) := by decide +kernel
theorem dX6_readRules_33 : decode cX6_readRules 33 = .ok (.ireturn, 1) := by decide +kernel
theorem dX6_readRules_34 : decode cX6_readRules 34 = .ok (.aload_n 0, 1) := by decide +kernel
theorem dX6_readRules_35 : decode cX6_readRules 35 = .ok (.invokevirtual 33, 3) := by decide +kernel
theorem dX6_readRules_38 : decode cX6_readRules 38 = .ok (.ifCond .ne 6, 3) := by decide +kernel
theorem dX6_readRules_41 : decode cX6_readRules 41 = .ok (.goto 9, 3) := by decide +kernel
theorem dX6_readRules_44 : decode cX6_readRules 44 = .ok (.iinc 1 1, 3) := by decide +kernel
theorem dX6_readRules_47 : decode cX6_readRules 47 = .ok (.goto (-31), 3) := by decide +kernel
theorem dX6_readRules_50 : decode cX6_readRules 50 = .ok (.iconst (-1), 1) := by decide +kernel
theorem dX6_readRules_51 : decode cX6_readRules 51 = .ok (.aload_n 0, 1) := by decide +kernel
theorem dX6_readRules_52 : decode cX6_readRules 52 = .ok (.getfield 9, 3) := by decide +kernel
theorem dX6_readRules_55 : decode cX6_readRules 55 = .ok (.invokevirtual 36, 3) := by decide +kernel
theorem dX6_readRules_58 : decode cX6_readRules 58 = .ok (.isub, 1) := by decide +kernel
theorem dX6_readRules_59 : decode cX6_readRules 59 = .ok (.ireturn, 1) := by decide +kernel
set_option maxRecDepth 20000 in
theorem ggX6_takeRule_X6_takeWord : GoodIn wsX6_takeRule wsX6_takeWord := goodIn_r _ [8, 1, 9, 10, 11, 12, 13, 14, 15, 16, 17, 18, 19, 20, 21, 22, 23, 24, 25, 26, 27, 28, 29, 30, 31, 32, 33, 34, 35, 36, 37, 38, 39, 40, 41, 42, 43, 44, 45, 46, 47, 48, 49, 50, 51, 52, 53, 54, 55, 56, 57, 58, 59, 60, 61, 62, 63, 64, 65, 66, 67, 68, 69, 70, 71, 72, 73, 74, 75, 76, 77, 78, 79, 80, 81, 82, 146, 147, 148, 149, 150, 151, 152, 153] (by decide +kernel) (by decide +kernel)
set_option maxRecDepth 20000 in
theorem gX6_takeRule_X6_takeWord : GoodIn wsX6_takeRule (wsV RX6 42 RX6 yX6_takeWord wsX6_takeWord) := goodIn_app (goodIn_of _ (by decide +kernel)) ggX6_takeRule_X6_takeWord
set_option maxRecDepth 20000 in
theorem ggX6_takeRule_X7_asNumber : GoodIn wsX6_takeRule wsX7_asNumber := goodIn_r _ [86, 14, 15, 87, 16, 88, 89, 82, 90, 91, 92, 12, 93, 29, 30, 31, 32, 33, 34, 148, 149, 150, 151, 152, 153] (by decide +kernel) (by decide +kernel)
set_option maxRecDepth 20000 in
theorem gX6_takeRule_X7_asNumber : GoodIn wsX6_takeRule (wsV RX6 46 RX7 yX7_asNumber wsX7_asNumber) := goodIn_app (goodIn_of _ (by decide +kernel)) ggX6_takeRule_X7_asNumber
set_option maxRecDepth 20000 in
theorem ggX6_takeRule_X0_draftHasRule : GoodIn wsX6_takeRule wsX0_draftHasRule := goodIn_r _ [98, 99, 100, 101, 102, 103, 97, 104, 105, 30, 31, 32, 33, 34, 154, 155, 156, 157, 158, 159, 160, 161, 162, 163, 164, 165, 153] (by decide +kernel) (by decide +kernel)
set_option maxRecDepth 20000 in
theorem gX6_takeRule_X0_draftHasRule : GoodIn wsX6_takeRule (wsV RX6 52 RX0 yX0_draftHasRule wsX0_draftHasRule) := goodIn_app (goodIn_of _ (by decide +kernel)) ggX6_takeRule_X0_draftHasRule
set_option maxRecDepth 20000 in
theorem ggX6_takeRule_X7_toNextWord : GoodIn wsX6_takeRule wsX7_toNextWord := goodIn_r _ [75, 14, 15, 76, 16, 77, 29, 30, 31, 32, 33, 34, 78, 79, 12, 80, 81, 82, 148, 149, 150, 151, 152, 153] (by decide +kernel) (by decide +kernel)
set_option maxRecDepth 20000 in
theorem gX6_takeRule_X7_toNextWord : GoodIn wsX6_takeRule (wsV RX6 56 RX7 yX7_toNextWord wsX7_toNextWord) := goodIn_app (goodIn_of _ (by decide +kernel)) ggX6_takeRule_X7_toNextWord
set_option maxRecDepth 20000 in
theorem ggX6_takeRule_X6_takePrice : GoodIn wsX6_takeRule wsX6_takePrice := goodIn_r _ [109, 110, 3, 4, 5, 6, 7, 8, 1, 9, 10, 11, 12, 13, 14, 15, 16, 17, 18, 19, 20, 21, 22, 23, 24, 25, 26, 27, 28, 29, 30, 31, 32, 33, 34, 35, 36, 37, 38, 39, 40, 41, 42, 43, 44, 45, 46, 47, 48, 49, 50, 51, 52, 53, 54, 55, 56, 57, 58, 59, 60, 61, 62, 63, 64, 65, 66, 67, 68, 69, 70, 71, 72, 73, 74, 75, 76, 77, 78, 79, 80, 81, 82, 111, 112, 113, 114, 83, 84, 85, 86, 87, 88, 89, 90, 91, 92, 93, 115, 116, 117, 97, 118, 100, 99, 119, 120, 101, 121, 122, 123, 102, 103, 104, 124, 125, 126, 127, 146, 147, 148, 149, 150, 151, 152, 153, 154, 155, 156, 157, 158, 159, 160, 161, 162, 163, 164, 165] (by decide +kernel) (by decide +kernel)
set_option maxRecDepth 20000 in
theorem gX6_takeRule_X6_takePrice : GoodIn wsX6_takeRule (wsV RX6 59 RX6 yX6_takePrice wsX6_takePrice) := goodIn_app (goodIn_of _ (by decide +kernel)) ggX6_takeRule_X6_takePrice
set_option maxRecDepth 20000 in
theorem ggX6_takeRule_X6_takeSteps : GoodIn wsX6_takeRule wsX6_takeSteps := goodIn_r _ [131, 110, 3, 4, 5, 6, 7, 8, 1, 9, 10, 11, 12, 13, 14, 15, 16, 17, 18, 19, 20, 21, 22, 23, 24, 25, 26, 27, 28, 29, 30, 31, 32, 33, 34, 35, 36, 37, 38, 39, 40, 41, 42, 43, 44, 45, 46, 47, 48, 49, 50, 51, 52, 53, 54, 55, 56, 57, 58, 59, 60, 61, 62, 63, 64, 65, 66, 67, 68, 69, 70, 71, 72, 73, 74, 75, 76, 77, 78, 79, 80, 81, 82, 111, 112, 113, 114, 83, 84, 85, 86, 87, 88, 89, 90, 91, 92, 93, 132, 133, 134, 97, 135, 100, 122, 136, 137, 123, 102, 103, 104, 124, 125, 126, 127, 105, 146, 147, 148, 149, 150, 151, 152, 153, 154, 155, 156, 157, 158, 159, 160, 161, 162, 163, 164, 165] (by decide +kernel) (by decide +kernel)
set_option maxRecDepth 20000 in
theorem gX6_takeRule_X6_takeSteps : GoodIn wsX6_takeRule (wsV RX6 62 RX6 yX6_takeSteps wsX6_takeSteps) := goodIn_app (goodIn_of _ (by decide +kernel)) ggX6_takeRule_X6_takeSteps
set_option maxRecDepth 20000 in
theorem ggX6_takeRule_X6_takeCap : GoodIn wsX6_takeRule wsX6_takeCap := goodIn_r _ [141, 110, 3, 4, 5, 6, 7, 8, 1, 9, 10, 11, 12, 13, 14, 15, 16, 17, 18, 19, 20, 21, 22, 23, 24, 25, 26, 27, 28, 29, 30, 31, 32, 33, 34, 35, 36, 37, 38, 39, 40, 41, 42, 43, 44, 45, 46, 47, 48, 49, 50, 51, 52, 53, 54, 55, 56, 57, 58, 59, 60, 61, 62, 63, 64, 65, 66, 67, 68, 69, 70, 71, 72, 73, 74, 75, 76, 77, 78, 79, 80, 81, 82, 111, 112, 113, 114, 83, 84, 85, 86, 87, 88, 89, 90, 91, 92, 93, 142, 143, 144, 97, 145, 120, 100, 102, 103, 104, 124, 125, 126, 127, 146, 147, 148, 149, 150, 151, 152, 153, 154, 155, 156, 157, 158, 159, 160, 161, 162, 163, 164, 165] (by decide +kernel) (by decide +kernel)
set_option maxRecDepth 20000 in
theorem gX6_takeRule_X6_takeCap : GoodIn wsX6_takeRule (wsV RX6 65 RX6 yX6_takeCap wsX6_takeCap) := goodIn_app (goodIn_of _ (by decide +kernel)) ggX6_takeRule_X6_takeCap
theorem dX6_takeRule_0 : decode cX6_takeRule 0 = .ok (.aload_n 0, 1) := by decide +kernel
theorem dX6_takeRule_1 : decode cX6_takeRule 1 = .ok (.ldc 40, 2) := by decide +kernel
theorem dX6_takeRule_3 : decode cX6_takeRule 3 = .ok (.invokevirtual 42, 3) := by decide +kernel
theorem dX6_takeRule_6 : decode cX6_takeRule 6 = .ok (.ifCond .ne 5, 3) := by decide +kernel
theorem dX6_takeRule_9 : decode cX6_takeRule 9 = .ok (.iconst 0, 1) := by decide +kernel
theorem dX6_takeRule_10 : decode cX6_takeRule 10 = .ok (.ireturn, 1) := by decide +kernel
theorem dX6_takeRule_11 : decode cX6_takeRule 11 = .ok (.aload_n 0, 1) := by decide +kernel
theorem dX6_takeRule_12 : decode cX6_takeRule 12 = .ok (.getfield 9, 3) := by decide +kernel
theorem dX6_takeRule_15 : decode cX6_takeRule 15 = .ok (.invokevirtual 46, 3) := by decide +kernel
theorem dX6_takeRule_18 : decode cX6_takeRule 18 = .ok (.lstore_n 1, 1) := by decide +kernel
theorem dX6_takeRule_19 : decode cX6_takeRule 19 = .ok (.lload_n 1, 1) := by decide +kernel
theorem dX6_takeRule_20 : decode cX6_takeRule 20 = .ok (.lconst 0, 1) := by decide +kernel
theorem dX6_takeRule_21 : decode cX6_takeRule 21 = .ok (.lcmp, 1) := by decide +kernel
theorem dX6_takeRule_22 : decode cX6_takeRule 22 = .ok (.ifCond .lt 23, 3) := by decide +kernel
theorem dX6_takeRule_25 : decode cX6_takeRule 25 = .ok (.lload_n 1, 1) := by decide +kernel
theorem dX6_takeRule_26 : decode cX6_takeRule 26 = .ok (.ldc2_w 50, 3) := by decide +kernel
theorem dX6_takeRule_29 : decode cX6_takeRule 29 = .ok (.lcmp, 1) := by decide +kernel
theorem dX6_takeRule_30 : decode cX6_takeRule 30 = .ok (.ifCond .ge 15, 3) := by decide +kernel
theorem dX6_takeRule_33 : decode cX6_takeRule 33 = .ok (.aload_n 0, 1) := by decide +kernel
theorem dX6_takeRule_34 : decode cX6_takeRule 34 = .ok (.getfield 15, 3) := by decide +kernel
theorem dX6_takeRule_37 : decode cX6_takeRule 37 = .ok (.lload_n 1, 1) := by decide +kernel
theorem dX6_takeRule_38 : decode cX6_takeRule 38 = .ok (.l2i, 1) := by decide +kernel
theorem dX6_takeRule_39 : decode cX6_takeRule 39 = .ok (.invokevirtual 52, 3) := by decide +kernel
theorem dX6_takeRule_42 : decode cX6_takeRule 42 = .ok (.ifCond .eq 5, 3) := by decide +kernel
theorem dX6_takeRule_45 : decode cX6_takeRule 45 = .ok (.iconst 0, 1) := by decide +kernel
theorem dX6_takeRule_46 : decode cX6_takeRule 46 = .ok (.ireturn, 1) := by decide +kernel
theorem dX6_takeRule_47 : decode cX6_takeRule 47 = .ok (.aload_n 0, 1) := by decide +kernel
theorem dX6_takeRule_48 : decode cX6_takeRule 48 = .ok (.getfield 9, 3) := by decide +kernel
theorem dX6_takeRule_51 : decode cX6_takeRule 51 = .ok (.invokevirtual 56, 3) := by decide +kernel
theorem dX6_takeRule_54 : decode cX6_takeRule 54 = .ok (.lload_n 1, 1) := by decide +kernel
theorem dX6_takeRule_55 : decode cX6_takeRule 55 = .ok (.l2i, 1) := by decide +kernel
theorem dX6_takeRule_56 : decode cX6_takeRule 56 = .ok (.istore_n 3, 1) := by decide +kernel
theorem dX6_takeRule_57 : decode cX6_takeRule 57 = .ok (.aload_n 0, 1) := by decide +kernel
theorem dX6_takeRule_58 : decode cX6_takeRule 58 = .ok (.iload_n 3, 1) := by decide +kernel
theorem dX6_takeRule_59 : decode cX6_takeRule 59 = .ok (.invokevirtual 59, 3) := by decide +kernel
theorem dX6_takeRule_62 : decode cX6_takeRule 62 = .ok (.ifCond .eq 23, 3) := by decide +kernel
theorem dX6_takeRule_65 : decode cX6_takeRule 65 = .ok (.aload_n 0, 1) := by decide +kernel
theorem dX6_takeRule_66 : decode cX6_takeRule 66 = .ok (.iload_n 3, 1) := by decide +kernel
theorem dX6_takeRule_67 : decode cX6_takeRule 67 = .ok (.invokevirtual 62, 3) := by decide +kernel
theorem dX6_takeRule_70 : decode cX6_takeRule 70 = .ok (.ifCond .eq 15, 3) := by decide +kernel
theorem dX6_takeRule_73 : decode cX6_takeRule 73 = .ok (.aload_n 0, 1) := by decide +kernel
theorem dX6_takeRule_74 : decode cX6_takeRule 74 = .ok (.iload_n 3, 1) := by decide +kernel
theorem dX6_takeRule_75 : decode cX6_takeRule 75 = .ok (.invokevirtual 65, 3) := by decide +kernel
theorem dX6_takeRule_78 : decode cX6_takeRule 78 = .ok (.ifCond .eq 7, 3) := by decide +kernel
theorem dX6_takeRule_81 : decode cX6_takeRule 81 = .ok (.iconst 1, 1) := by decide +kernel
theorem dX6_takeRule_82 : decode cX6_takeRule 82 = .ok (.goto 4, 3) := by decide +kernel
theorem dX6_takeRule_85 : decode cX6_takeRule 85 = .ok (.iconst 0, 1) := by decide +kernel
theorem dX6_takeRule_86 : decode cX6_takeRule 86 = .ok (.ireturn, 1) := by decide +kernel
set_option maxRecDepth 20000 in
theorem ggX6_takePrice_X6_takeWord : GoodIn wsX6_takePrice wsX6_takeWord := goodIn_r _ [7, 8, 9, 10, 11, 12, 13, 14, 15, 16, 17, 18, 19, 20, 21, 22, 23, 24, 25, 26, 27, 28, 29, 30, 31, 32, 33, 34, 35, 36, 37, 38, 39, 40, 41, 42, 43, 44, 45, 46, 47, 48, 49, 50, 51, 52, 53, 54, 55, 56, 57, 58, 59, 60, 61, 62, 63, 64, 65, 66, 67, 68, 69, 70, 71, 72, 73, 74, 75, 76, 77, 78, 79, 80, 81, 82, 118, 119, 120, 121, 122, 123, 124, 125] (by decide +kernel) (by decide +kernel)
set_option maxRecDepth 20000 in
theorem gX6_takePrice_X6_takeWord : GoodIn wsX6_takePrice (wsV RX6 42 RX6 yX6_takeWord wsX6_takeWord) := goodIn_app (goodIn_of _ (by decide +kernel)) ggX6_takePrice_X6_takeWord
set_option maxRecDepth 20000 in
theorem ggX6_takePrice_X6_takeNumberAbove : GoodIn wsX6_takePrice wsX6_takeNumberAbove := goodIn_r _ [86, 8, 1, 87, 88, 89, 12, 90, 14, 15, 91, 16, 92, 93, 82, 94, 95, 96, 97, 29, 30, 31, 32, 33, 34, 72, 73, 74, 75, 76, 77, 78, 79, 80, 81, 118, 119, 120, 121, 122, 123, 124, 125] (by decide +kernel) (by decide +kernel)
set_option maxRecDepth 20000 in
theorem gX6_takePrice_X6_takeNumberAbove : GoodIn wsX6_takePrice (wsV RX6 72 RX6 yX6_takeNumberAbove wsX6_takeNumberAbove) := goodIn_app (goodIn_of _ (by decide +kernel)) ggX6_takePrice_X6_takeNumberAbove
set_option maxRecDepth 20000 in
theorem ggX6_takePrice_X0_tellRule : GoodIn wsX6_takePrice wsX0_tellRule := goodIn_r _ [102, 103, 104, 105, 106, 107, 108, 109, 110, 111, 112, 101, 113, 114, 115, 116, 32, 117, 34, 126, 127, 128, 129, 130, 131, 132, 133, 134, 135, 136, 137, 125] (by decide +kernel) (by decide +kernel)
set_option maxRecDepth 20000 in
theorem gX6_takePrice_X0_tellRule : GoodIn wsX6_takePrice (wsV RX6 78 RX0 yX0_tellRule wsX0_tellRule) := goodIn_app (goodIn_of _ (by decide +kernel)) ggX6_takePrice_X0_tellRule
theorem dX6_takePrice_0 : decode cX6_takePrice 0 = .ok (.aload_n 0, 1) := by decide +kernel
theorem dX6_takePrice_1 : decode cX6_takePrice 1 = .ok (.ldc 68, 2) := by decide +kernel
theorem dX6_takePrice_3 : decode cX6_takePrice 3 = .ok (.invokevirtual 42, 3) := by decide +kernel
theorem dX6_takePrice_6 : decode cX6_takePrice 6 = .ok (.ifCond .ne 5, 3) := by decide +kernel
theorem dX6_takePrice_9 : decode cX6_takePrice 9 = .ok (.iconst 0, 1) := by decide +kernel
theorem dX6_takePrice_10 : decode cX6_takePrice 10 = .ok (.ireturn, 1) := by decide +kernel
theorem dX6_takePrice_11 : decode cX6_takePrice 11 = .ok (.aload_n 0, 1) := by decide +kernel
theorem dX6_takePrice_12 : decode cX6_takePrice 12 = .ok (.ldc2_w 70, 3) := by decide +kernel
theorem dX6_takePrice_15 : decode cX6_takePrice 15 = .ok (.invokevirtual 72, 3) := by decide +kernel
theorem dX6_takePrice_18 : decode cX6_takePrice 18 = .ok (.lstore_n 2, 1) := by decide +kernel
theorem dX6_takePrice_19 : decode cX6_takePrice 19 = .ok (.lload_n 2, 1) := by decide +kernel
theorem dX6_takePrice_20 : decode cX6_takePrice 20 = .ok (.ldc2_w 70, 3) := by decide +kernel
theorem dX6_takePrice_23 : decode cX6_takePrice 23 = .ok (.lcmp, 1) := by decide +kernel
theorem dX6_takePrice_24 : decode cX6_takePrice 24 = .ok (.ifCond .eq 12, 3) := by decide +kernel
theorem dX6_takePrice_27 : decode cX6_takePrice 27 = .ok (.aload_n 0, 1) := by decide +kernel
theorem dX6_takePrice_28 : decode cX6_takePrice 28 = .ok (.ldc 76, 2) := by decide +kernel
theorem dX6_takePrice_30 : decode cX6_takePrice 30 = .ok (.invokevirtual 42, 3) := by decide +kernel
theorem dX6_takePrice_33 : decode cX6_takePrice 33 = .ok (.ifCond .ne 5, 3) := by decide +kernel
theorem dX6_takePrice_36 : decode cX6_takePrice 36 = .ok (.iconst 0, 1) := by decide +kernel
theorem dX6_takePrice_37 : decode cX6_takePrice 37 = .ok (.ireturn, 1) := by decide +kernel
theorem dX6_takePrice_38 : decode cX6_takePrice 38 = .ok (.aload_n 0, 1) := by decide +kernel
theorem dX6_takePrice_39 : decode cX6_takePrice 39 = .ok (.ldc2_w 70, 3) := by decide +kernel
theorem dX6_takePrice_42 : decode cX6_takePrice 42 = .ok (.invokevirtual 72, 3) := by decide +kernel
theorem dX6_takePrice_45 : decode cX6_takePrice 45 = .ok (.lstore 4, 2) := by decide +kernel
theorem dX6_takePrice_47 : decode cX6_takePrice 47 = .ok (.lload 4, 2) := by decide +kernel
theorem dX6_takePrice_49 : decode cX6_takePrice 49 = .ok (.ldc2_w 70, 3) := by decide +kernel
theorem dX6_takePrice_52 : decode cX6_takePrice 52 = .ok (.lcmp, 1) := by decide +kernel
theorem dX6_takePrice_53 : decode cX6_takePrice 53 = .ok (.ifCond .ne 5, 3) := by decide +kernel
theorem dX6_takePrice_56 : decode cX6_takePrice 56 = .ok (.iconst 0, 1) := by decide +kernel
theorem dX6_takePrice_57 : decode cX6_takePrice 57 = .ok (.ireturn, 1) := by decide +kernel
theorem dX6_takePrice_58 : decode cX6_takePrice 58 = .ok (.aload_n 0, 1) := by decide +kernel
theorem dX6_takePrice_59 : decode cX6_takePrice 59 = .ok (.getfield 15, 3) := by decide +kernel
theorem dX6_takePrice_62 : decode cX6_takePrice 62 = .ok (.iload_n 1, 1) := by decide +kernel
theorem dX6_takePrice_63 : decode cX6_takePrice 63 = .ok (.lload_n 2, 1) := by decide +kernel
theorem dX6_takePrice_64 : decode cX6_takePrice 64 = .ok (.lload 4, 2) := by decide +kernel
theorem dX6_takePrice_66 : decode cX6_takePrice 66 = .ok (.invokevirtual 78, 3) := by decide +kernel
theorem dX6_takePrice_69 : decode cX6_takePrice 69 = .ok (.iconst 1, 1) := by decide +kernel
theorem dX6_takePrice_70 : decode cX6_takePrice 70 = .ok (.ireturn, 1) := by decide +kernel
set_option maxRecDepth 20000 in
theorem ggX6_takeSteps_X6_takeWord : GoodIn wsX6_takeSteps wsX6_takeWord := goodIn_r _ [7, 8, 9, 10, 11, 12, 13, 14, 15, 16, 17, 18, 19, 20, 21, 22, 23, 24, 25, 26, 27, 28, 29, 30, 31, 32, 33, 34, 35, 36, 37, 38, 39, 40, 41, 42, 43, 44, 45, 46, 47, 48, 49, 50, 51, 52, 53, 54, 55, 56, 57, 58, 59, 60, 61, 62, 63, 64, 65, 66, 67, 68, 69, 70, 71, 72, 73, 74, 75, 76, 77, 78, 79, 80, 81, 82, 116, 117, 118, 119, 120, 121, 122, 123] (by decide +kernel) (by decide +kernel)
set_option maxRecDepth 20000 in
theorem gX6_takeSteps_X6_takeWord : GoodIn wsX6_takeSteps (wsV RX6 42 RX6 yX6_takeWord wsX6_takeWord) := goodIn_app (goodIn_of _ (by decide +kernel)) ggX6_takeSteps_X6_takeWord
set_option maxRecDepth 20000 in
theorem ggX6_takeSteps_X6_takeNumberAbove : GoodIn wsX6_takeSteps wsX6_takeNumberAbove := goodIn_r _ [86, 8, 1, 87, 88, 89, 12, 90, 14, 15, 91, 16, 92, 93, 82, 94, 95, 96, 97, 29, 30, 31, 32, 33, 34, 72, 73, 74, 75, 76, 77, 78, 79, 80, 81, 116, 117, 118, 119, 120, 121, 122, 123] (by decide +kernel) (by decide +kernel)
set_option maxRecDepth 20000 in
theorem gX6_takeSteps_X6_takeNumberAbove : GoodIn wsX6_takeSteps (wsV RX6 72 RX6 yX6_takeNumberAbove wsX6_takeNumberAbove) := goodIn_app (goodIn_of _ (by decide +kernel)) ggX6_takeSteps_X6_takeNumberAbove
set_option maxRecDepth 20000 in
theorem ggX6_takeSteps_X0_tellStep : GoodIn wsX6_takeSteps wsX0_tellStep := goodIn_r _ [102, 103, 104, 105, 106, 107, 108, 109, 101, 110, 111, 112, 113, 32, 114, 34, 115, 30, 31, 33, 124, 125, 126, 127, 128, 129, 130, 131, 132, 133, 134, 135, 123] (by decide +kernel) (by decide +kernel)
set_option maxRecDepth 20000 in
theorem gX6_takeSteps_X0_tellStep : GoodIn wsX6_takeSteps (wsV RX6 84 RX0 yX0_tellStep wsX0_tellStep) := goodIn_app (goodIn_of _ (by decide +kernel)) ggX6_takeSteps_X0_tellStep
theorem dX6_takeSteps_0 : decode cX6_takeSteps 0 = .ok (.lconst 0, 1) := by decide +kernel
theorem dX6_takeSteps_1 : decode cX6_takeSteps 1 = .ok (.lstore_n 2, 1) := by decide +kernel
theorem dX6_takeSteps_2 : decode cX6_takeSteps 2 = .ok (.iconst 0, 1) := by decide +kernel
theorem dX6_takeSteps_3 : decode cX6_takeSteps 3 = .ok (.istore 4, 2) := by decide +kernel
theorem dX6_takeSteps_5 : decode cX6_takeSteps 5 = .ok (.iload 4, 2) := by decide +kernel
theorem dX6_takeSteps_7 : decode cX6_takeSteps 7 = .ok (.bipush 66, 2) := by decide +kernel
theorem dX6_takeSteps_9 : decode cX6_takeSteps 9 = .ok (.if_icmp .ge 71, 3) := by decide +kernel
theorem dX6_takeSteps_12 : decode cX6_takeSteps 12 = .ok (.aload_n 0, 1) := by decide +kernel
theorem dX6_takeSteps_13 : decode cX6_takeSteps 13 = .ok (.ldc 82, 2) := by decide +kernel
theorem dX6_takeSteps_15 : decode cX6_takeSteps 15 = .ok (.invokevirtual 42, 3) := by decide +kernel
theorem dX6_takeSteps_18 : decode cX6_takeSteps 18 = .ok (.ifCond .eq 62, 3) := by decide +kernel
theorem dX6_takeSteps_21 : decode cX6_takeSteps 21 = .ok (.aload_n 0, 1) := by decide +kernel
theorem dX6_takeSteps_22 : decode cX6_takeSteps 22 = .ok (.lload_n 2, 1) := by decide +kernel
theorem dX6_takeSteps_23 : decode cX6_takeSteps 23 = .ok (.invokevirtual 72, 3) := by decide +kernel
theorem dX6_takeSteps_26 : decode cX6_takeSteps 26 = .ok (.lstore 5, 2) := by decide +kernel
theorem dX6_takeSteps_28 : decode cX6_takeSteps 28 = .ok (.lload 5, 2) := by decide +kernel
theorem dX6_takeSteps_30 : decode cX6_takeSteps 30 = .ok (.ldc2_w 70, 3) := by decide +kernel
theorem dX6_takeSteps_33 : decode cX6_takeSteps 33 = .ok (.lcmp, 1) := by decide +kernel
theorem dX6_takeSteps_34 : decode cX6_takeSteps 34 = .ok (.ifCond .ne 5, 3) := by decide +kernel
theorem dX6_takeSteps_37 : decode cX6_takeSteps 37 = .ok (.iconst 0, 1) := by decide +kernel
theorem dX6_takeSteps_38 : decode cX6_takeSteps 38 = .ok (.ireturn, 1) := by decide +kernel
theorem dX6_takeSteps_39 : decode cX6_takeSteps 39 = .ok (.aload_n 0, 1) := by decide +kernel
theorem dX6_takeSteps_40 : decode cX6_takeSteps 40 = .ok (.ldc2_w 70, 3) := by decide +kernel
theorem dX6_takeSteps_43 : decode cX6_takeSteps 43 = .ok (.invokevirtual 72, 3) := by decide +kernel
theorem dX6_takeSteps_46 : decode cX6_takeSteps 46 = .ok (.lstore 7, 2) := by decide +kernel
theorem dX6_takeSteps_48 : decode cX6_takeSteps 48 = .ok (.lload 7, 2) := by decide +kernel
theorem dX6_takeSteps_50 : decode cX6_takeSteps 50 = .ok (.ldc2_w 70, 3) := by decide +kernel
theorem dX6_takeSteps_53 : decode cX6_takeSteps 53 = .ok (.lcmp, 1) := by decide +kernel
theorem dX6_takeSteps_54 : decode cX6_takeSteps 54 = .ok (.ifCond .ne 5, 3) := by decide +kernel
theorem dX6_takeSteps_57 : decode cX6_takeSteps 57 = .ok (.iconst 0, 1) := by decide +kernel
theorem dX6_takeSteps_58 : decode cX6_takeSteps 58 = .ok (.ireturn, 1) := by decide +kernel
theorem dX6_takeSteps_59 : decode cX6_takeSteps 59 = .ok (.aload_n 0, 1) := by decide +kernel
theorem dX6_takeSteps_60 : decode cX6_takeSteps 60 = .ok (.getfield 15, 3) := by decide +kernel
theorem dX6_takeSteps_63 : decode cX6_takeSteps 63 = .ok (.iload_n 1, 1) := by decide +kernel
theorem dX6_takeSteps_64 : decode cX6_takeSteps 64 = .ok (.lload 5, 2) := by decide +kernel
theorem dX6_takeSteps_66 : decode cX6_takeSteps 66 = .ok (.lload 7, 2) := by decide +kernel
theorem dX6_takeSteps_68 : decode cX6_takeSteps 68 = .ok (.invokevirtual 84, 3) := by decide +kernel
theorem dX6_takeSteps_71 : decode cX6_takeSteps 71 = .ok (.lload 5, 2) := by decide +kernel
theorem dX6_takeSteps_73 : decode cX6_takeSteps 73 = .ok (.lstore_n 2, 1) := by decide +kernel
theorem dX6_takeSteps_74 : decode cX6_takeSteps 74 = .ok (.iinc 4 1, 3) := by decide +kernel
theorem dX6_takeSteps_77 : decode cX6_takeSteps 77 = .ok (.goto (-72), 3) := by decide +kernel
theorem dX6_takeSteps_80 : decode cX6_takeSteps 80 = .ok (.iconst 1, 1) := by decide +kernel
theorem dX6_takeSteps_81 : decode cX6_takeSteps 81 = .ok (.ireturn, 1) := by decide +kernel
set_option maxRecDepth 20000 in
theorem ggX6_takeCap_X6_takeWord : GoodIn wsX6_takeCap wsX6_takeWord := goodIn_r _ [7, 8, 9, 10, 11, 12, 13, 14, 15, 16, 17, 18, 19, 20, 21, 22, 23, 24, 25, 26, 27, 28, 29, 30, 31, 32, 33, 34, 35, 36, 37, 38, 39, 40, 41, 42, 43, 44, 45, 46, 47, 48, 49, 50, 51, 52, 53, 54, 55, 56, 57, 58, 59, 60, 61, 62, 63, 64, 65, 66, 67, 68, 69, 70, 71, 72, 73, 74, 75, 76, 77, 78, 79, 80, 81, 82, 112, 113, 114, 115, 116, 117, 118, 119] (by decide +kernel) (by decide +kernel)
set_option maxRecDepth 20000 in
theorem gX6_takeCap_X6_takeWord : GoodIn wsX6_takeCap (wsV RX6 42 RX6 yX6_takeWord wsX6_takeWord) := goodIn_app (goodIn_of _ (by decide +kernel)) ggX6_takeCap_X6_takeWord
set_option maxRecDepth 20000 in
theorem ggX6_takeCap_X6_takeNumberAbove : GoodIn wsX6_takeCap wsX6_takeNumberAbove := goodIn_r _ [86, 8, 1, 87, 88, 89, 12, 90, 14, 15, 91, 16, 92, 93, 82, 94, 95, 96, 97, 29, 30, 31, 32, 33, 34, 72, 73, 74, 75, 76, 77, 78, 79, 80, 81, 112, 113, 114, 115, 116, 117, 118, 119] (by decide +kernel) (by decide +kernel)
set_option maxRecDepth 20000 in
theorem gX6_takeCap_X6_takeNumberAbove : GoodIn wsX6_takeCap (wsV RX6 72 RX6 yX6_takeNumberAbove wsX6_takeNumberAbove) := goodIn_app (goodIn_of _ (by decide +kernel)) ggX6_takeCap_X6_takeNumberAbove
set_option maxRecDepth 20000 in
theorem ggX6_takeCap_X0_tellCap : GoodIn wsX6_takeCap wsX0_tellCap := goodIn_r _ [102, 103, 104, 105, 106, 101, 107, 108, 109, 110, 32, 111, 34, 120, 121, 122, 123, 124, 125, 126, 127, 128, 129, 130, 131, 119] (by decide +kernel) (by decide +kernel)
set_option maxRecDepth 20000 in
theorem gX6_takeCap_X0_tellCap : GoodIn wsX6_takeCap (wsV RX6 89 RX0 yX0_tellCap wsX0_tellCap) := goodIn_app (goodIn_of _ (by decide +kernel)) ggX6_takeCap_X0_tellCap
theorem dX6_takeCap_0 : decode cX6_takeCap 0 = .ok (.aload_n 0, 1) := by decide +kernel
theorem dX6_takeCap_1 : decode cX6_takeCap 1 = .ok (.ldc 87, 2) := by decide +kernel
theorem dX6_takeCap_3 : decode cX6_takeCap 3 = .ok (.invokevirtual 42, 3) := by decide +kernel
theorem dX6_takeCap_6 : decode cX6_takeCap 6 = .ok (.ifCond .ne 5, 3) := by decide +kernel
theorem dX6_takeCap_9 : decode cX6_takeCap 9 = .ok (.iconst 1, 1) := by decide +kernel
theorem dX6_takeCap_10 : decode cX6_takeCap 10 = .ok (.ireturn, 1) := by decide +kernel
theorem dX6_takeCap_11 : decode cX6_takeCap 11 = .ok (.aload_n 0, 1) := by decide +kernel
theorem dX6_takeCap_12 : decode cX6_takeCap 12 = .ok (.ldc2_w 70, 3) := by decide +kernel
theorem dX6_takeCap_15 : decode cX6_takeCap 15 = .ok (.invokevirtual 72, 3) := by decide +kernel
theorem dX6_takeCap_18 : decode cX6_takeCap 18 = .ok (.lstore_n 2, 1) := by decide +kernel
theorem dX6_takeCap_19 : decode cX6_takeCap 19 = .ok (.lload_n 2, 1) := by decide +kernel
theorem dX6_takeCap_20 : decode cX6_takeCap 20 = .ok (.ldc2_w 70, 3) := by decide +kernel
theorem dX6_takeCap_23 : decode cX6_takeCap 23 = .ok (.lcmp, 1) := by decide +kernel
theorem dX6_takeCap_24 : decode cX6_takeCap 24 = .ok (.ifCond .ne 5, 3) := by decide +kernel
theorem dX6_takeCap_27 : decode cX6_takeCap 27 = .ok (.iconst 0, 1) := by decide +kernel
theorem dX6_takeCap_28 : decode cX6_takeCap 28 = .ok (.ireturn, 1) := by decide +kernel
theorem dX6_takeCap_29 : decode cX6_takeCap 29 = .ok (.aload_n 0, 1) := by decide +kernel
theorem dX6_takeCap_30 : decode cX6_takeCap 30 = .ok (.getfield 15, 3) := by decide +kernel
theorem dX6_takeCap_33 : decode cX6_takeCap 33 = .ok (.iload_n 1, 1) := by decide +kernel
theorem dX6_takeCap_34 : decode cX6_takeCap 34 = .ok (.lload_n 2, 1) := by decide +kernel
theorem dX6_takeCap_35 : decode cX6_takeCap 35 = .ok (.invokevirtual 89, 3) := by decide +kernel
theorem dX6_takeCap_38 : decode cX6_takeCap 38 = .ok (.iconst 1, 1) := by decide +kernel
theorem dX6_takeCap_39 : decode cX6_takeCap 39 = .ok (.ireturn, 1) := by decide +kernel
set_option maxRecDepth 20000 in
theorem ggX6_takeWord_X7_isWord : GoodIn wsX6_takeWord wsX7_isWord := goodIn_r _ [6, 7, 8, 9, 10, 11, 12, 13, 14, 15, 16, 17, 18, 19, 20, 21, 22, 23, 24, 25, 26, 27, 28, 29, 30, 31, 32, 33, 34, 35, 36, 37, 38, 39, 40, 41, 42, 43, 44, 45, 46, 47, 48, 49, 50, 51, 52, 53, 54, 55, 56, 57, 58, 59, 60, 61, 62, 63, 64, 78, 79, 80, 81, 82, 83] (by decide +kernel) (by decide +kernel)
set_option maxRecDepth 20000 in
theorem gX6_takeWord_X7_isWord : GoodIn wsX6_takeWord (wsV RX6 93 RX7 yX7_isWord wsX7_isWord) := goodIn_app (goodIn_of _ (by decide +kernel)) ggX6_takeWord_X7_isWord
set_option maxRecDepth 20000 in
theorem ggX6_takeWord_X7_toNextWord : GoodIn wsX6_takeWord wsX7_toNextWord := goodIn_r _ [68, 7, 8, 69, 9, 70, 22, 23, 24, 25, 26, 27, 71, 72, 5, 73, 74, 75, 78, 79, 80, 81, 82, 83] (by decide +kernel) (by decide +kernel)
set_option maxRecDepth 20000 in
theorem gX6_takeWord_X7_toNextWord : GoodIn wsX6_takeWord (wsV RX6 56 RX7 yX7_toNextWord wsX7_toNextWord) := goodIn_app (goodIn_of _ (by decide +kernel)) ggX6_takeWord_X7_toNextWord
theorem dX6_takeWord_0 : decode cX6_takeWord 0 = .ok (.aload_n 0, 1) := by decide +kernel
theorem dX6_takeWord_1 : decode cX6_takeWord 1 = .ok (.getfield 9, 3) := by decide +kernel
theorem dX6_takeWord_4 : decode cX6_takeWord 4 = .ok (.aload_n 1, 1) := by decide +kernel
theorem dX6_takeWord_5 : decode cX6_takeWord 5 = .ok (.invokevirtual 93, 3) := by decide +kernel
theorem dX6_takeWord_8 : decode cX6_takeWord 8 = .ok (.ifCond .ne 5, 3) := by decide +kernel
theorem dX6_takeWord_11 : decode cX6_takeWord 11 = .ok (.iconst 0, 1) := by decide +kernel
theorem dX6_takeWord_12 : decode cX6_takeWord 12 = .ok (.ireturn, 1) := by decide +kernel
theorem dX6_takeWord_13 : decode cX6_takeWord 13 = .ok (.aload_n 0, 1) := by decide +kernel
theorem dX6_takeWord_14 : decode cX6_takeWord 14 = .ok (.getfield 9, 3) := by decide +kernel
theorem dX6_takeWord_17 : decode cX6_takeWord 17 = .ok (.invokevirtual 56, 3) := by decide +kernel
theorem dX6_takeWord_20 : decode cX6_takeWord 20 = .ok (.iconst 1, 1) := by decide +kernel
theorem dX6_takeWord_21 : decode cX6_takeWord 21 = .ok (.ireturn, 1) := by decide +kernel
set_option maxRecDepth 20000 in
theorem ggX6_takeNumberAbove_X7_asNumber : GoodIn wsX6_takeNumberAbove wsX7_asNumber := goodIn_r _ [7, 8, 9, 10, 11, 12, 13, 14, 15, 16, 17, 6, 18, 19, 20, 21, 22, 23, 24, 37, 38, 39, 40, 41, 42] (by decide +kernel) (by decide +kernel)
set_option maxRecDepth 20000 in
theorem gX6_takeNumberAbove_X7_asNumber : GoodIn wsX6_takeNumberAbove (wsV RX6 46 RX7 yX7_asNumber wsX7_asNumber) := goodIn_app (goodIn_of _ (by decide +kernel)) ggX6_takeNumberAbove_X7_asNumber
set_option maxRecDepth 20000 in
theorem ggX6_takeNumberAbove_X7_toNextWord : GoodIn wsX6_takeNumberAbove wsX7_toNextWord := goodIn_r _ [28, 8, 9, 29, 11, 30, 19, 20, 21, 22, 23, 24, 31, 32, 6, 33, 34, 14, 37, 38, 39, 40, 41, 42] (by decide +kernel) (by decide +kernel)
set_option maxRecDepth 20000 in
theorem gX6_takeNumberAbove_X7_toNextWord : GoodIn wsX6_takeNumberAbove (wsV RX6 56 RX7 yX7_toNextWord wsX7_toNextWord) := goodIn_app (goodIn_of _ (by decide +kernel)) ggX6_takeNumberAbove_X7_toNextWord
theorem dX6_takeNumberAbove_0 : decode cX6_takeNumberAbove 0 = .ok (.aload_n 0, 1) := by decide +kernel
theorem dX6_takeNumberAbove_1 : decode cX6_takeNumberAbove 1 = .ok (.getfield 9, 3) := by decide +kernel
theorem dX6_takeNumberAbove_4 : decode cX6_takeNumberAbove 4 = .ok (.invokevirtual 46, 3) := by decide +kernel
theorem dX6_takeNumberAbove_7 : decode cX6_takeNumberAbove 7 = .ok (.lstore_n 3, 1) := by decide +kernel
theorem dX6_takeNumberAbove_8 : decode cX6_takeNumberAbove 8 = .ok (.lload_n 3, 1) := by decide +kernel
theorem dX6_takeNumberAbove_9 : decode cX6_takeNumberAbove 9 = .ok (.lload_n 1, 1) := by decide +kernel
theorem dX6_takeNumberAbove_10 : decode cX6_takeNumberAbove 10 = .ok (.lcmp, 1) := by decide +kernel
theorem dX6_takeNumberAbove_11 : decode cX6_takeNumberAbove 11 = .ok (.ifCond .gt 7, 3) := by decide +kernel
theorem dX6_takeNumberAbove_14 : decode cX6_takeNumberAbove 14 = .ok (.ldc2_w 70, 3) := by decide +kernel
theorem dX6_takeNumberAbove_17 : decode cX6_takeNumberAbove 17 = .ok (.lreturn, 1) := by decide +kernel
theorem dX6_takeNumberAbove_18 : decode cX6_takeNumberAbove 18 = .ok (.aload_n 0, 1) := by decide +kernel
theorem dX6_takeNumberAbove_19 : decode cX6_takeNumberAbove 19 = .ok (.getfield 9, 3) := by decide +kernel
theorem dX6_takeNumberAbove_22 : decode cX6_takeNumberAbove 22 = .ok (.invokevirtual 56, 3) := by decide +kernel
theorem dX6_takeNumberAbove_25 : decode cX6_takeNumberAbove 25 = .ok (.lload_n 3, 1) := by decide +kernel
theorem dX6_takeNumberAbove_26 : decode cX6_takeNumberAbove 26 = .ok (.lreturn, 1) := by decide +kernel
set_option maxRecDepth 20000 in
theorem ggJ0_length_8abf5_J0_coder_7d493 : GoodIn wsJ0_length_8abf5 wsJ0_coder_7d493 := goodIn_r _ [6, 7, 8] (by decide +kernel) (by decide +kernel)
set_option maxRecDepth 20000 in
theorem gJ0_length_8abf5_J0_coder_7d493 : GoodIn wsJ0_length_8abf5 (wsV RJ0 335 RJ0 yJ0_coder_7d493 wsJ0_coder_7d493) := goodIn_app (goodIn_of _ (by decide +kernel)) ggJ0_length_8abf5_J0_coder_7d493
theorem dJ0_length_8abf5_0 : decode cJ0_length_8abf5 0 = .ok (.aload_n 0, 1) := by decide +kernel
theorem dJ0_length_8abf5_1 : decode cJ0_length_8abf5 1 = .ok (.getfield 9, 3) := by decide +kernel
theorem dJ0_length_8abf5_4 : decode cJ0_length_8abf5 4 = .ok (.arraylength, 1) := by decide +kernel
theorem dJ0_length_8abf5_5 : decode cJ0_length_8abf5 5 = .ok (.aload_n 0, 1) := by decide +kernel
theorem dJ0_length_8abf5_6 : decode cJ0_length_8abf5 6 = .ok (.invokevirtual 335, 3) := by decide +kernel
theorem dJ0_length_8abf5_9 : decode cJ0_length_8abf5 9 = .ok (.ishr, 1) := by decide +kernel
theorem dJ0_length_8abf5_10 : decode cJ0_length_8abf5 10 = .ok (.ireturn, 1) := by decide +kernel
set_option maxRecDepth 20000 in
theorem ggJ0_charAt_5068e_J0_isLatin1_aae02 : GoodIn wsJ0_charAt_5068e wsJ0_isLatin1_aae02 := goodIn_r _ [6, 7, 8] (by decide +kernel) (by decide +kernel)
set_option maxRecDepth 20000 in
theorem gJ0_charAt_5068e_J0_isLatin1_aae02 : GoodIn wsJ0_charAt_5068e (wsV RJ0 492 RJ0 yJ0_isLatin1_aae02 wsJ0_isLatin1_aae02) := goodIn_app (goodIn_of _ (by decide +kernel)) ggJ0_charAt_5068e_J0_isLatin1_aae02
set_option maxRecDepth 20000 in
theorem ggJ0_charAt_5068e_J1_charAt_3b067 : GoodIn wsJ0_charAt_5068e wsJ1_charAt_3b067 := goodIn_r _ [12, 13, 14, 5, 15, 16, 17, 18, 19, 20] (by decide +kernel) (by decide +kernel)
set_option maxRecDepth 20000 in
theorem gJ0_charAt_5068e_J1_charAt_3b067 : GoodIn wsJ0_charAt_5068e (va_wsS RJ0 495 yJ1_charAt_3b067 wsJ1_charAt_3b067) := goodIn_app (goodIn_of _ (by decide +kernel)) ggJ0_charAt_5068e_J1_charAt_3b067
set_option maxRecDepth 20000 in
theorem ggJ0_charAt_5068e_J2_charAt_3b067 : GoodIn wsJ0_charAt_5068e wsJ2_charAt_3b067 := goodIn_r _ [24, 25, 26, 23, 27, 28, 29, 30, 31, 14, 5, 15, 16, 17, 18, 19, 20, 32, 33, 34, 35, 36, 37] (by decide +kernel) (by decide +kernel)
set_option maxRecDepth 20000 in
theorem gJ0_charAt_5068e_J2_charAt_3b067 : GoodIn wsJ0_charAt_5068e (va_wsS RJ0 498 yJ2_charAt_3b067 wsJ2_charAt_3b067) := goodIn_app (goodIn_of _ (by decide +kernel)) ggJ0_charAt_5068e_J2_charAt_3b067
theorem dJ0_charAt_5068e_0 : decode cJ0_charAt_5068e 0 = .ok (.aload_n 0, 1) := by decide +kernel
theorem dJ0_charAt_5068e_1 : decode cJ0_charAt_5068e 1 = .ok (.invokevirtual 492, 3) := by decide +kernel
theorem dJ0_charAt_5068e_4 : decode cJ0_charAt_5068e 4 = .ok (.ifCond .eq 12, 3) := by decide +kernel
theorem dJ0_charAt_5068e_7 : decode cJ0_charAt_5068e 7 = .ok (.aload_n 0, 1) := by decide +kernel
theorem dJ0_charAt_5068e_8 : decode cJ0_charAt_5068e 8 = .ok (.getfield 9, 3) := by decide +kernel
theorem dJ0_charAt_5068e_11 : decode cJ0_charAt_5068e 11 = .ok (.iload_n 1, 1) := by decide +kernel
theorem dJ0_charAt_5068e_12 : decode cJ0_charAt_5068e 12 = .ok (.invokestatic 495, 3) := by decide +kernel
theorem dJ0_charAt_5068e_15 : decode cJ0_charAt_5068e 15 = .ok (.ireturn, 1) := by decide +kernel
theorem dJ0_charAt_5068e_16 : decode cJ0_charAt_5068e 16 = .ok (.aload_n 0, 1) := by decide +kernel
theorem dJ0_charAt_5068e_17 : decode cJ0_charAt_5068e 17 = .ok (.getfield 9, 3) := by decide +kernel
theorem dJ0_charAt_5068e_20 : decode cJ0_charAt_5068e 20 = .ok (.iload_n 1, 1) := by decide +kernel
theorem dJ0_charAt_5068e_21 : decode cJ0_charAt_5068e 21 = .ok (.invokestatic 498, 3) := by decide +kernel
theorem dJ0_charAt_5068e_24 : decode cJ0_charAt_5068e 24 = .ok (.ireturn, 1) := by decide +kernel
theorem dJ0_coder_7d493_0 : decode cJ0_coder_7d493 0 = .ok (.getstatic 38, 3) := by decide +kernel
theorem dJ0_coder_7d493_3 : decode cJ0_coder_7d493 3 = .ok (.ifCond .eq 10, 3) := by decide +kernel
theorem dJ0_coder_7d493_6 : decode cJ0_coder_7d493 6 = .ok (.aload_n 0, 1) := by decide +kernel
theorem dJ0_coder_7d493_7 : decode cJ0_coder_7d493 7 = .ok (.getfield 15, 3) := by decide +kernel
theorem dJ0_coder_7d493_10 : decode cJ0_coder_7d493 10 = .ok (.goto 4, 3) := by decide +kernel
theorem dJ0_coder_7d493_13 : decode cJ0_coder_7d493 13 = .ok (.iconst 1, 1) := by decide +kernel
theorem dJ0_coder_7d493_14 : decode cJ0_coder_7d493 14 = .ok (.ireturn, 1) := by decide +kernel
theorem dJ0_isLatin1_aae02_0 : decode cJ0_isLatin1_aae02 0 = .ok (.getstatic 38, 3) := by decide +kernel
theorem dJ0_isLatin1_aae02_3 : decode cJ0_isLatin1_aae02 3 = .ok (.ifCond .eq 14, 3) := by decide +kernel
theorem dJ0_isLatin1_aae02_6 : decode cJ0_isLatin1_aae02 6 = .ok (.aload_n 0, 1) := by decide +kernel
theorem dJ0_isLatin1_aae02_7 : decode cJ0_isLatin1_aae02 7 = .ok (.getfield 15, 3) := by decide +kernel
theorem dJ0_isLatin1_aae02_10 : decode cJ0_isLatin1_aae02 10 = .ok (.ifCond .ne 7, 3) := by decide +kernel
theorem dJ0_isLatin1_aae02_13 : decode cJ0_isLatin1_aae02 13 = .ok (.iconst 1, 1) := by decide +kernel
theorem dJ0_isLatin1_aae02_14 : decode cJ0_isLatin1_aae02 14 = .ok (.goto 4, 3) := by decide +kernel
theorem dJ0_isLatin1_aae02_17 : decode cJ0_isLatin1_aae02 17 = .ok (.iconst 0, 1) := by decide +kernel
theorem dJ0_isLatin1_aae02_18 : decode cJ0_isLatin1_aae02 18 = .ok (.ireturn, 1) := by decide +kernel
set_option maxRecDepth 20000 in
theorem ggJ0_checkIndex_df160_J3_checkIndex_8e157 : GoodIn wsJ0_checkIndex_df160 wsJ3_checkIndex_8e157 := goodIn_r _ [5] (by decide +kernel) (by decide +kernel)
set_option maxRecDepth 20000 in
theorem gJ0_checkIndex_df160_J3_checkIndex_8e157 : GoodIn wsJ0_checkIndex_df160 (va_wsS RJ0 1059 yJ3_checkIndex_8e157 wsJ3_checkIndex_8e157) := goodIn_app (goodIn_of _ (by decide +kernel)) ggJ0_checkIndex_df160_J3_checkIndex_8e157
theorem dJ0_checkIndex_df160_0 : decode cJ0_checkIndex_df160 0 = .ok (.iload_n 0, 1) := by decide +kernel
theorem dJ0_checkIndex_df160_1 : decode cJ0_checkIndex_df160 1 = .ok (.iload_n 1, 1) := by decide +kernel
theorem dJ0_checkIndex_df160_2 : decode cJ0_checkIndex_df160 2 = .ok (.getstatic 1053, 3) := by decide +kernel
theorem dJ0_checkIndex_df160_5 : decode cJ0_checkIndex_df160 5 = .ok (.invokestatic 1059, 3) := by decide +kernel
theorem dJ0_checkIndex_df160_8 : decode cJ0_checkIndex_df160 8 = .ok (.pop, 1) := by decide +kernel
theorem dJ0_checkIndex_df160_9 : decode cJ0_checkIndex_df160 9 = .ok (.return_, 1) := by decide +kernel
set_option maxRecDepth 20000 in
theorem ggJ1_charAt_3b067_J0_checkIndex_df160 : GoodIn wsJ1_charAt_3b067 wsJ0_checkIndex_df160 := goodIn_r _ [4, 5, 6, 7, 8, 9] (by decide +kernel) (by decide +kernel)
set_option maxRecDepth 20000 in
theorem gJ1_charAt_3b067_J0_checkIndex_df160 : GoodIn wsJ1_charAt_3b067 (va_wsS RJ1 9 yJ0_checkIndex_df160 wsJ0_checkIndex_df160) := goodIn_app (goodIn_of _ (by decide +kernel)) ggJ1_charAt_3b067_J0_checkIndex_df160
theorem dJ1_charAt_3b067_0 : decode cJ1_charAt_3b067 0 = .ok (.iload_n 1, 1) := by decide +kernel
theorem dJ1_charAt_3b067_1 : decode cJ1_charAt_3b067 1 = .ok (.aload_n 0, 1) := by decide +kernel
theorem dJ1_charAt_3b067_2 : decode cJ1_charAt_3b067 2 = .ok (.arraylength, 1) := by decide +kernel
theorem dJ1_charAt_3b067_3 : decode cJ1_charAt_3b067 3 = .ok (.invokestatic 9, 3) := by decide +kernel
theorem dJ1_charAt_3b067_6 : decode cJ1_charAt_3b067 6 = .ok (.aload_n 0, 1) := by decide +kernel
theorem dJ1_charAt_3b067_7 : decode cJ1_charAt_3b067 7 = .ok (.iload_n 1, 1) := by decide +kernel
theorem dJ1_charAt_3b067_8 : decode cJ1_charAt_3b067 8 = .ok (.baload, 1) := by decide +kernel
theorem dJ1_charAt_3b067_9 : decode cJ1_charAt_3b067 9 = .ok (.sipush 255, 3) := by decide +kernel
theorem dJ1_charAt_3b067_12 : decode cJ1_charAt_3b067 12 = .ok (.iand, 1) := by decide +kernel
theorem dJ1_charAt_3b067_13 : decode cJ1_charAt_3b067 13 = .ok (.i2c, 1) := by decide +kernel
theorem dJ1_charAt_3b067_14 : decode cJ1_charAt_3b067 14 = .ok (.ireturn, 1) := by decide +kernel
set_option maxRecDepth 20000 in
theorem ggJ2_getChar_3b067_J2_length_9d52b : GoodIn wsJ2_getChar_3b067 wsJ2_length_9d52b := goodIn_r _ [7] (by decide +kernel) (by decide +kernel)
set_option maxRecDepth 20000 in
theorem gJ2_getChar_3b067_J2_length_9d52b : GoodIn wsJ2_getChar_3b067 (va_wsS RJ2 48 yJ2_length_9d52b wsJ2_length_9d52b) := goodIn_app (goodIn_of _ (by decide +kernel)) ggJ2_getChar_3b067_J2_length_9d52b
theorem dJ2_getChar_3b067_0 : decode cJ2_getChar_3b067 0 = .ok (.getstatic 44, 3) := by decide +kernel
theorem dJ2_getChar_3b067_3 : decode cJ2_getChar_3b067 3 = .ok (.ifCond .ne 25, 3) := by decide +kernel
theorem dJ2_getChar_3b067_6 : decode cJ2_getChar_3b067 6 = .ok (.iload_n 1, 1) := by decide +kernel
theorem dJ2_getChar_3b067_7 : decode cJ2_getChar_3b067 7 = .ok (.ifCond .lt 11, 3) := by decide +kernel
theorem dJ2_getChar_3b067_10 : decode cJ2_getChar_3b067 10 = .ok (.iload_n 1, 1) := by decide +kernel
theorem dJ2_getChar_3b067_11 : decode cJ2_getChar_3b067 11 = .ok (.aload_n 0, 1) := by decide +kernel
theorem dJ2_getChar_3b067_12 : decode cJ2_getChar_3b067 12 = .ok (.invokestatic 48, 3) := by decide +kernel
theorem dJ2_getChar_3b067_15 : decode cJ2_getChar_3b067 15 = .ok (.if_icmp .lt 13, 3) := by decide +kernel
theorem dJ2_getChar_3b067_18 : decode cJ2_getChar_3b067 18 = .ok (.new 52, 3) := by decide +kernel
theorem dJ2_getChar_3b067_21 : decode cJ2_getChar_3b067 21 = .ok (.dup, 1) := by decide +kernel
theorem dJ2_getChar_3b067_22 : decode cJ2_getChar_3b067 22 = .ok (.ldc 54, 2) := by decide +kernel
theorem dJ2_getChar_3b067_24 : decode cJ2_getChar_3b067 24 = .ok (.invokespecial 56, 3) := by decide +kernel
theorem dJ2_getChar_3b067_27 : decode cJ2_getChar_3b067 27 = .ok (.athrow, 1) := by decide +kernel
theorem dJ2_getChar_3b067_28 : decode cJ2_getChar_3b067 28 = .ok (.iload_n 1, 1) := by decide +kernel
theorem dJ2_getChar_3b067_29 : decode cJ2_getChar_3b067 29 = .ok (.iconst 1, 1) := by decide +kernel
theorem dJ2_getChar_3b067_30 : decode cJ2_getChar_3b067 30 = .ok (.ishl, 1) := by decide +kernel
theorem dJ2_getChar_3b067_31 : decode cJ2_getChar_3b067 31 = .ok (.istore_n 1, 1) := by decide +kernel
theorem dJ2_getChar_3b067_32 : decode cJ2_getChar_3b067 32 = .ok (.aload_n 0, 1) := by decide +kernel
theorem dJ2_getChar_3b067_33 : decode cJ2_getChar_3b067 33 = .ok (.iload_n 1, 1) := by decide +kernel
theorem dJ2_getChar_3b067_34 : decode cJ2_getChar_3b067 34 = .ok (.iinc 1 1, 3) := by decide +kernel
theorem dJ2_getChar_3b067_37 : decode cJ2_getChar_3b067 37 = .ok (.baload, 1) := by decide +kernel
theorem dJ2_getChar_3b067_38 : decode cJ2_getChar_3b067 38 = .ok (.sipush 255, 3) := by decide +kernel
theorem dJ2_getChar_3b067_41 : decode cJ2_getChar_3b067 41 = .ok (.iand, 1) := by decide +kernel
theorem dJ2_getChar_3b067_42 : decode cJ2_getChar_3b067 42 = .ok (.getstatic 59, 3) := by decide +kernel
theorem dJ2_getChar_3b067_45 : decode cJ2_getChar_3b067 45 = .ok (.ishl, 1) := by decide +kernel
theorem dJ2_getChar_3b067_46 : decode cJ2_getChar_3b067 46 = .ok (.aload_n 0, 1) := by decide +kernel
theorem dJ2_getChar_3b067_47 : decode cJ2_getChar_3b067 47 = .ok (.iload_n 1, 1) := by decide +kernel
theorem dJ2_getChar_3b067_48 : decode cJ2_getChar_3b067 48 = .ok (.baload, 1) := by decide +kernel
theorem dJ2_getChar_3b067_49 : decode cJ2_getChar_3b067 49 = .ok (.sipush 255, 3) := by decide +kernel
theorem dJ2_getChar_3b067_52 : decode cJ2_getChar_3b067 52 = .ok (.iand, 1) := by decide +kernel
theorem dJ2_getChar_3b067_53 : decode cJ2_getChar_3b067 53 = .ok (.getstatic 63, 3) := by decide +kernel
theorem dJ2_getChar_3b067_56 : decode cJ2_getChar_3b067 56 = .ok (.ishl, 1) := by decide +kernel
theorem dJ2_getChar_3b067_57 : decode cJ2_getChar_3b067 57 = .ok (.ior, 1) := by decide +kernel
theorem dJ2_getChar_3b067_58 : decode cJ2_getChar_3b067 58 = .ok (.i2c, 1) := by decide +kernel
theorem dJ2_getChar_3b067_59 : decode cJ2_getChar_3b067 59 = .ok (.ireturn, 1) := by decide +kernel
theorem dJ2_length_9d52b_0 : decode cJ2_length_9d52b 0 = .ok (.aload_n 0, 1) := by decide +kernel
theorem dJ2_length_9d52b_1 : decode cJ2_length_9d52b 1 = .ok (.arraylength, 1) := by decide +kernel
theorem dJ2_length_9d52b_2 : decode cJ2_length_9d52b 2 = .ok (.iconst 1, 1) := by decide +kernel
theorem dJ2_length_9d52b_3 : decode cJ2_length_9d52b 3 = .ok (.ishr, 1) := by decide +kernel
theorem dJ2_length_9d52b_4 : decode cJ2_length_9d52b 4 = .ok (.ireturn, 1) := by decide +kernel
set_option maxRecDepth 20000 in
theorem ggJ2_charAt_3b067_J2_checkIndex_2214a : GoodIn wsJ2_charAt_3b067 wsJ2_checkIndex_2214a := goodIn_r _ [4, 5, 6, 3, 7, 8, 9, 10, 11, 12, 13, 14, 15, 16] (by decide +kernel) (by decide +kernel)
set_option maxRecDepth 20000 in
theorem gJ2_charAt_3b067_J2_checkIndex_2214a : GoodIn wsJ2_charAt_3b067 (va_wsS RJ2 67 yJ2_checkIndex_2214a wsJ2_checkIndex_2214a) := goodIn_app (goodIn_of _ (by decide +kernel)) ggJ2_charAt_3b067_J2_checkIndex_2214a
set_option maxRecDepth 20000 in
theorem ggJ2_charAt_3b067_J2_getChar_3b067 : GoodIn wsJ2_charAt_3b067 wsJ2_getChar_3b067 := goodIn_r _ [19, 20, 21, 22, 5, 6, 3, 7] (by decide +kernel) (by decide +kernel)
set_option maxRecDepth 20000 in
theorem gJ2_charAt_3b067_J2_getChar_3b067 : GoodIn wsJ2_charAt_3b067 (va_wsS RJ2 71 yJ2_getChar_3b067 wsJ2_getChar_3b067) := goodIn_app (goodIn_of _ (by decide +kernel)) ggJ2_charAt_3b067_J2_getChar_3b067
theorem dJ2_charAt_3b067_0 : decode cJ2_charAt_3b067 0 = .ok (.iload_n 1, 1) := by decide +kernel
theorem dJ2_charAt_3b067_1 : decode cJ2_charAt_3b067 1 = .ok (.aload_n 0, 1) := by decide +kernel
theorem dJ2_charAt_3b067_2 : decode cJ2_charAt_3b067 2 = .ok (.invokestatic 67, 3) := by decide +kernel
theorem dJ2_charAt_3b067_5 : decode cJ2_charAt_3b067 5 = .ok (.aload_n 0, 1) := by decide +kernel
theorem dJ2_charAt_3b067_6 : decode cJ2_charAt_3b067 6 = .ok (.iload_n 1, 1) := by decide +kernel
theorem dJ2_charAt_3b067_7 : decode cJ2_charAt_3b067 7 = .ok (.invokestatic 71, 3) := by decide +kernel
theorem dJ2_charAt_3b067_10 : decode cJ2_charAt_3b067 10 = .ok (.ireturn, 1) := by decide +kernel
set_option maxRecDepth 20000 in
theorem ggJ2_checkIndex_2214a_J2_length_9d52b : GoodIn wsJ2_checkIndex_2214a wsJ2_length_9d52b := goodIn_r _ [4] (by decide +kernel) (by decide +kernel)
set_option maxRecDepth 20000 in
theorem gJ2_checkIndex_2214a_J2_length_9d52b : GoodIn wsJ2_checkIndex_2214a (va_wsS RJ2 48 yJ2_length_9d52b wsJ2_length_9d52b) := goodIn_app (goodIn_of _ (by decide +kernel)) ggJ2_checkIndex_2214a_J2_length_9d52b
set_option maxRecDepth 20000 in
theorem ggJ2_checkIndex_2214a_J0_checkIndex_df160 : GoodIn wsJ2_checkIndex_2214a wsJ0_checkIndex_df160 := goodIn_r _ [8, 9, 10, 11, 12, 13] (by decide +kernel) (by decide +kernel)
set_option maxRecDepth 20000 in
theorem gJ2_checkIndex_2214a_J0_checkIndex_df160 : GoodIn wsJ2_checkIndex_2214a (va_wsS RJ2 414 yJ0_checkIndex_df160 wsJ0_checkIndex_df160) := goodIn_app (goodIn_of _ (by decide +kernel)) ggJ2_checkIndex_2214a_J0_checkIndex_df160
theorem dJ2_checkIndex_2214a_0 : decode cJ2_checkIndex_2214a 0 = .ok (.iload_n 0, 1) := by decide +kernel
theorem dJ2_checkIndex_2214a_1 : decode cJ2_checkIndex_2214a 1 = .ok (.aload_n 1, 1) := by decide +kernel
theorem dJ2_checkIndex_2214a_2 : decode cJ2_checkIndex_2214a 2 = .ok (.invokestatic 48, 3) := by decide +kernel
theorem dJ2_checkIndex_2214a_5 : decode cJ2_checkIndex_2214a 5 = .ok (.invokestatic 414, 3) := by decide +kernel
theorem dJ2_checkIndex_2214a_8 : decode cJ2_checkIndex_2214a 8 = .ok (.return_, 1) := by decide +kernel
theorem dJ3_checkIndex_8e157_0 : decode cJ3_checkIndex_8e157 0 = .ok (.iload_n 0, 1) := by decide +kernel
theorem dJ3_checkIndex_8e157_1 : decode cJ3_checkIndex_8e157 1 = .ok (.ifCond .lt 8, 3) := by decide +kernel
theorem dJ3_checkIndex_8e157_4 : decode cJ3_checkIndex_8e157 4 = .ok (.iload_n 0, 1) := by decide +kernel
theorem dJ3_checkIndex_8e157_5 : decode cJ3_checkIndex_8e157 5 = .ok (.iload_n 1, 1) := by decide +kernel
theorem dJ3_checkIndex_8e157_6 : decode cJ3_checkIndex_8e157 6 = .ok (.if_icmp .lt 10, 3) := by decide +kernel
theorem dJ3_checkIndex_8e157_9 : decode cJ3_checkIndex_8e157 9 = .ok (.aload_n 2, 1) := by decide +kernel
theorem dJ3_checkIndex_8e157_10 : decode cJ3_checkIndex_8e157 10 = .ok (.iload_n 0, 1) := by decide +kernel
theorem dJ3_checkIndex_8e157_11 : decode cJ3_checkIndex_8e157 11 = .ok (.iload_n 1, 1) := by decide +kernel
theorem dJ3_checkIndex_8e157_12 : decode cJ3_checkIndex_8e157 12 = .ok (.invokestatic 95, 3) := by decide +kernel
theorem dJ3_checkIndex_8e157_15 : decode cJ3_checkIndex_8e157 15 = .ok (.athrow, 1) := by decide +kernel
theorem dJ3_checkIndex_8e157_16 : decode cJ3_checkIndex_8e157 16 = .ok (.iload_n 0, 1) := by decide +kernel
theorem dJ3_checkIndex_8e157_17 : decode cJ3_checkIndex_8e157 17 = .ok (.ireturn, 1) := by decide +kernel
end
section
set_option maxRecDepth 20000 in
theorem ggX8_init_X3_init : GoodIn wsX8_init wsX3_init := goodIn_r _ [38, 39, 2, 3, 40, 29, 30, 41, 42, 43, 44, 45, 46, 47, 48, 49, 153, 111, 112, 113, 114] (by decide +kernel) (by decide +kernel)
set_option maxRecDepth 20000 in
theorem gX8_init_X3_init_n11 : GoodIn wsX8_init (wsX3_init) := ggX8_init_X3_init
set_option maxRecDepth 20000 in
theorem ggX8_init_X1_init : GoodIn wsX8_init wsX1_init := goodIn_r _ [51, 52, 2, 3, 53, 29, 30, 54, 55, 56, 57, 58, 59, 45, 46, 47, 48, 49, 153, 123, 124, 125, 126, 127, 128] (by decide +kernel) (by decide +kernel)
set_option maxRecDepth 20000 in
theorem gX8_init_X1_init_n18 : GoodIn wsX8_init (wsX1_init) := ggX8_init_X1_init
set_option maxRecDepth 20000 in
theorem ggX8_init_X7_init : GoodIn wsX8_init wsX7_init := goodIn_r _ [61, 62, 2, 3, 63, 29, 30, 64, 65, 45, 46, 47, 48, 49, 153, 129, 130, 131, 132, 133] (by decide +kernel) (by decide +kernel)
set_option maxRecDepth 20000 in
theorem gX8_init_X7_init_n25 : GoodIn wsX8_init (wsX7_init) := ggX8_init_X7_init
set_option maxRecDepth 20000 in
theorem ggX8_init_X0_init : GoodIn wsX8_init wsX0_init := goodIn_r _ [67, 68, 2, 3, 69, 29, 30, 70, 71, 72, 73, 74, 75, 76, 77, 78, 79, 80, 45, 46, 47, 48, 49, 153, 134, 135, 136, 137, 138, 139, 140, 141, 142, 143, 144, 145] (by decide +kernel) (by decide +kernel)
set_option maxRecDepth 20000 in
theorem gX8_init_X0_init_n32 : GoodIn wsX8_init (wsX0_init) := ggX8_init_X0_init
set_option maxRecDepth 20000 in
theorem ggX8_init_X6_init : GoodIn wsX8_init wsX6_init := goodIn_r _ [83, 84, 2, 3, 85, 86, 146, 147] (by decide +kernel) (by decide +kernel)
set_option maxRecDepth 20000 in
theorem gX8_init_X6_init : GoodIn wsX8_init (wsX6_init) := ggX8_init_X6_init
set_option maxRecDepth 20000 in
theorem ggX8_init_X4_init : GoodIn wsX8_init wsX4_init := goodIn_r _ [88, 89, 2, 3, 90, 29, 30, 91, 92, 93, 94, 95, 45, 46, 47, 48, 49, 153, 148, 149, 150, 151, 152] (by decide +kernel) (by decide +kernel)
set_option maxRecDepth 20000 in
theorem gX8_init_X4_init_n48 : GoodIn wsX8_init (wsX4_init) := ggX8_init_X4_init
set_option maxRecDepth 20000 in
theorem ggX8_init_X5_init : GoodIn wsX8_init wsX5_init := goodIn_r _ [46, 47, 2, 3, 48, 49, 153] (by decide +kernel) (by decide +kernel)
set_option maxRecDepth 20000 in
theorem gX8_init_X5_init : GoodIn wsX8_init (wsX5_init) := ggX8_init_X5_init
set_option maxRecDepth 20000 in
theorem ggX8_init_X5_set : GoodIn wsX8_init wsX5_set := goodIn_r _ [100, 49, 153] (by decide +kernel) (by decide +kernel)
set_option maxRecDepth 20000 in
theorem gX8_init_X5_set : GoodIn wsX8_init (wsV RX8 64 RX5 yX5_set wsX5_set) := goodIn_app (goodIn_of _ (by decide +kernel)) ggX8_init_X5_set
set_option maxRecDepth 20000 in
theorem ggX8_init_X2_init : GoodIn wsX8_init wsX2_init := goodIn_r _ [102, 103, 2, 3, 104, 29, 30, 105, 106, 107, 108, 109, 110, 45, 46, 47, 48, 49, 153, 154, 155, 156, 157, 158, 159, 160] (by decide +kernel) (by decide +kernel)
set_option maxRecDepth 20000 in
theorem gX8_init_X2_init_n70 : GoodIn wsX8_init (wsX2_init) := ggX8_init_X2_init
theorem dX8_init_0 : decode cX8_init 0 = .ok (.aload_n 0, 1) := by decide +kernel
theorem dX8_init_1 : decode cX8_init 1 = .ok (.invokespecial 3, 3) := by decide +kernel
theorem dX8_init_4 : decode cX8_init 4 = .ok (.aload_n 0, 1) := by decide +kernel
theorem dX8_init_5 : decode cX8_init 5 = .ok (.new 9, 3) := by decide +kernel
theorem dX8_init_8 : decode cX8_init 8 = .ok (.dup, 1) := by decide +kernel
theorem dX8_init_9 : decode cX8_init 9 = .ok (.invokespecial 11, 3) := by decide +kernel
theorem dX8_init_12 : decode cX8_init 12 = .ok (.putfield 12, 3) := by decide +kernel
theorem dX8_init_15 : decode cX8_init 15 = .ok (.aload_n 0, 1) := by decide +kernel
theorem dX8_init_16 : decode cX8_init 16 = .ok (.new 16, 3) := by decide +kernel
theorem dX8_init_19 : decode cX8_init 19 = .ok (.dup, 1) := by decide +kernel
theorem dX8_init_20 : decode cX8_init 20 = .ok (.invokespecial 18, 3) := by decide +kernel
theorem dX8_init_23 : decode cX8_init 23 = .ok (.putfield 19, 3) := by decide +kernel
theorem dX8_init_26 : decode cX8_init 26 = .ok (.aload_n 0, 1) := by decide +kernel
theorem dX8_init_27 : decode cX8_init 27 = .ok (.new 23, 3) := by decide +kernel
theorem dX8_init_30 : decode cX8_init 30 = .ok (.dup, 1) := by decide +kernel
theorem dX8_init_31 : decode cX8_init 31 = .ok (.invokespecial 25, 3) := by decide +kernel
theorem dX8_init_34 : decode cX8_init 34 = .ok (.putfield 26, 3) := by decide +kernel
theorem dX8_init_37 : decode cX8_init 37 = .ok (.aload_n 0, 1) := by decide +kernel
theorem dX8_init_38 : decode cX8_init 38 = .ok (.new 30, 3) := by decide +kernel
theorem dX8_init_41 : decode cX8_init 41 = .ok (.dup, 1) := by decide +kernel
theorem dX8_init_42 : decode cX8_init 42 = .ok (.invokespecial 32, 3) := by decide +kernel
theorem dX8_init_45 : decode cX8_init 45 = .ok (.putfield 33, 3) := by decide +kernel
theorem dX8_init_48 : decode cX8_init 48 = .ok (.aload_n 0, 1) := by decide +kernel
theorem dX8_init_49 : decode cX8_init 49 = .ok (.new 37, 3) := by decide +kernel
theorem dX8_init_52 : decode cX8_init 52 = .ok (.dup, 1) := by decide +kernel
theorem dX8_init_53 : decode cX8_init 53 = .ok (.aload_n 0, 1) := by decide +kernel
theorem dX8_init_54 : decode cX8_init 54 = .ok (.getfield 26, 3) := by decide +kernel
theorem dX8_init_57 : decode cX8_init 57 = .ok (.aload_n 0, 1) := by decide +kernel
theorem dX8_init_58 : decode cX8_init 58 = .ok (.getfield 33, 3) := by decide +kernel
theorem dX8_init_61 : decode cX8_init 61 = .ok (.invokespecial 39, 3) := by decide +kernel
theorem dX8_init_64 : decode cX8_init 64 = .ok (.putfield 42, 3) := by decide +kernel
theorem dX8_init_67 : decode cX8_init 67 = .ok (.aload_n 0, 1) := by decide +kernel
theorem dX8_init_68 : decode cX8_init 68 = .ok (.new 46, 3) := by decide +kernel
theorem dX8_init_71 : decode cX8_init 71 = .ok (.dup, 1) := by decide +kernel
theorem dX8_init_72 : decode cX8_init 72 = .ok (.invokespecial 48, 3) := by decide +kernel
theorem dX8_init_75 : decode cX8_init 75 = .ok (.putfield 49, 3) := by decide +kernel
theorem dX8_init_78 : decode cX8_init 78 = .ok (.aload_n 0, 1) := by decide +kernel
theorem dX8_init_79 : decode cX8_init 79 = .ok (.new 53, 3) := by decide +kernel
theorem dX8_init_82 : decode cX8_init 82 = .ok (.dup, 1) := by decide +kernel
theorem dX8_init_83 : decode cX8_init 83 = .ok (.bipush 120, 2) := by decide +kernel
theorem dX8_init_85 : decode cX8_init 85 = .ok (.invokespecial 55, 3) := by decide +kernel
theorem dX8_init_88 : decode cX8_init 88 = .ok (.putfield 58, 3) := by decide +kernel
theorem dX8_init_91 : decode cX8_init 91 = .ok (.iconst 0, 1) := by decide +kernel
theorem dX8_init_92 : decode cX8_init 92 = .ok (.istore_n 1, 1) := by decide +kernel
theorem dX8_init_93 : decode cX8_init 93 = .ok (.iload_n 1, 1) := by decide +kernel
theorem dX8_init_94 : decode cX8_init 94 = .ok (.bipush 120, 2) := by decide +kernel
theorem dX8_init_96 : decode cX8_init 96 = .ok (.if_icmp .ge 20, 3) := by decide +kernel
theorem dX8_init_99 : decode cX8_init 99 = .ok (.aload_n 0, 1) := by decide +kernel
theorem dX8_init_100 : decode cX8_init 100 = .ok (.getfield 58, 3) := by decide +kernel
theorem dX8_init_103 : decode cX8_init 103 = .ok (.iload_n 1, 1) := by decide +kernel
theorem dX8_init_104 : decode cX8_init 104 = .ok (.ldc2_w 62, 3) := by decide +kernel
theorem dX8_init_107 : decode cX8_init 107 = .ok (.invokevirtual 64, 3) := by decide +kernel
theorem dX8_init_110 : decode cX8_init 110 = .ok (.iinc 1 1, 3) := by decide +kernel
theorem dX8_init_113 : decode cX8_init 113 = .ok (.goto (-20), 3) := by decide +kernel
theorem dX8_init_116 : decode cX8_init 116 = .ok (.aload_n 0, 1) := by decide +kernel
theorem dX8_init_117 : decode cX8_init 117 = .ok (.new 68, 3) := by decide +kernel
theorem dX8_init_120 : decode cX8_init 120 = .ok (.dup, 1) := by decide +kernel
theorem dX8_init_121 : decode cX8_init 121 = .ok (.invokespecial 70, 3) := by decide +kernel
theorem dX8_init_124 : decode cX8_init 124 = .ok (.putfield 71, 3) := by decide +kernel
theorem dX8_init_127 : decode cX8_init 127 = .ok (.return_, 1) := by decide +kernel
set_option maxRecDepth 20000 in
theorem ggX8_house_X3_add : GoodIn wsX8_house wsX3_add := goodIn_r _ [6, 7, 8, 9, 10, 11, 12, 13, 14, 15, 16, 17, 5, 18, 19, 28, 29, 30, 31, 32] (by decide +kernel) (by decide +kernel)
set_option maxRecDepth 20000 in
theorem gX8_house_X3_add : GoodIn wsX8_house (wsV RX8 75 RX3 yX3_add wsX3_add) := goodIn_app (goodIn_of _ (by decide +kernel)) ggX8_house_X3_add
theorem dX8_house_0 : decode cX8_house 0 = .ok (.iload_n 1, 1) := by decide +kernel
theorem dX8_house_1 : decode cX8_house 1 = .ok (.iconst 1, 1) := by decide +kernel
theorem dX8_house_2 : decode cX8_house 2 = .ok (.if_icmp .lt 9, 3) := by decide +kernel
theorem dX8_house_5 : decode cX8_house 5 = .ok (.iload_n 1, 1) := by decide +kernel
theorem dX8_house_6 : decode cX8_house 6 = .ok (.bipush 6, 2) := by decide +kernel
theorem dX8_house_8 : decode cX8_house 8 = .ok (.if_icmp .le 5, 3) := by decide +kernel
theorem dX8_house_11 : decode cX8_house 11 = .ok (.iconst (-1), 1) := by decide +kernel
theorem dX8_house_12 : decode cX8_house 12 = .ok (.ireturn, 1) := by decide +kernel
theorem dX8_house_13 : decode cX8_house 13 = .ok (.aload_n 0, 1) := by decide +kernel
theorem dX8_house_14 : decode cX8_house 14 = .ok (.getfield 12, 3) := by decide +kernel
theorem dX8_house_17 : decode cX8_house 17 = .ok (.iload_n 1, 1) := by decide +kernel
theorem dX8_house_18 : decode cX8_house 18 = .ok (.invokevirtual 75, 3) := by decide +kernel
theorem dX8_house_21 : decode cX8_house 21 = .ok (.ireturn, 1) := by decide +kernel
set_option maxRecDepth 20000 in
theorem ggX8_fact_X3_has : GoodIn wsX8_fact wsX3_has := goodIn_r _ [8, 9, 43, 44, 45, 46] (by decide +kernel) (by decide +kernel)
set_option maxRecDepth 20000 in
theorem gX8_fact_X3_has : GoodIn wsX8_fact (wsV RX8 79 RX3 yX3_has wsX3_has) := goodIn_app (goodIn_of _ (by decide +kernel)) ggX8_fact_X3_has
set_option maxRecDepth 20000 in
theorem ggX8_fact_X8_isKind : GoodIn wsX8_fact wsX8_isKind := goodIn_r _ [13] (by decide +kernel) (by decide +kernel)
set_option maxRecDepth 20000 in
theorem gX8_fact_X8_isKind : GoodIn wsX8_fact (va_wsS RX8 83 yX8_isKind wsX8_isKind) := goodIn_app (goodIn_of _ (by decide +kernel)) ggX8_fact_X8_isKind
set_option maxRecDepth 20000 in
theorem ggX8_fact_X8_isDay : GoodIn wsX8_fact wsX8_isDay := goodIn_r _ [16, 17] (by decide +kernel) (by decide +kernel)
set_option maxRecDepth 20000 in
theorem gX8_fact_X8_isDay : GoodIn wsX8_fact (va_wsS RX8 86 yX8_isDay wsX8_isDay) := goodIn_app (goodIn_of _ (by decide +kernel)) ggX8_fact_X8_isDay
set_option maxRecDepth 20000 in
theorem ggX8_fact_X1_add : GoodIn wsX8_fact wsX1_add := goodIn_r _ [22, 23, 24, 25, 26, 27, 28, 29, 30, 31, 32, 33, 34, 47, 48, 49, 50, 51, 52, 53] (by decide +kernel) (by decide +kernel)
set_option maxRecDepth 20000 in
theorem gX8_fact_X1_add : GoodIn wsX8_fact (wsV RX8 92 RX1 yX1_add wsX1_add) := goodIn_app (goodIn_of _ (by decide +kernel)) ggX8_fact_X1_add
theorem dX8_fact_0 : decode cX8_fact 0 = .ok (.aload_n 0, 1) := by decide +kernel
theorem dX8_fact_1 : decode cX8_fact 1 = .ok (.getfield 12, 3) := by decide +kernel
theorem dX8_fact_4 : decode cX8_fact 4 = .ok (.iload_n 1, 1) := by decide +kernel
theorem dX8_fact_5 : decode cX8_fact 5 = .ok (.invokevirtual 79, 3) := by decide +kernel
theorem dX8_fact_8 : decode cX8_fact 8 = .ok (.ifCond .eq 25, 3) := by decide +kernel
theorem dX8_fact_11 : decode cX8_fact 11 = .ok (.iload_n 2, 1) := by decide +kernel
theorem dX8_fact_12 : decode cX8_fact 12 = .ok (.invokestatic 83, 3) := by decide +kernel
theorem dX8_fact_15 : decode cX8_fact 15 = .ok (.ifCond .eq 18, 3) := by decide +kernel
theorem dX8_fact_18 : decode cX8_fact 18 = .ok (.lload_n 3, 1) := by decide +kernel
theorem dX8_fact_19 : decode cX8_fact 19 = .ok (.invokestatic 86, 3) := by decide +kernel
theorem dX8_fact_22 : decode cX8_fact 22 = .ok (.ifCond .eq 11, 3) := by decide +kernel
theorem dX8_fact_25 : decode cX8_fact 25 = .ok (.lload 7, 2) := by decide +kernel
theorem dX8_fact_27 : decode cX8_fact 27 = .ok (.invokestatic 86, 3) := by decide +kernel
theorem dX8_fact_30 : decode cX8_fact 30 = .ok (.ifCond .ne 5, 3) := by decide +kernel
theorem dX8_fact_33 : decode cX8_fact 33 = .ok (.iconst (-1), 1) := by decide +kernel
theorem dX8_fact_34 : decode cX8_fact 34 = .ok (.ireturn, 1) := by decide +kernel
theorem dX8_fact_35 : decode cX8_fact 35 = .ok (.lload 5, 2) := by decide +kernel
theorem dX8_fact_37 : decode cX8_fact 37 = .ok (.lconst 0, 1) := by decide +kernel
theorem dX8_fact_38 : decode cX8_fact 38 = .ok (.lcmp, 1) := by decide +kernel
theorem dX8_fact_39 : decode cX8_fact 39 = .ok (.ifCond .lt 12, 3) := by decide +kernel
theorem dX8_fact_42 : decode cX8_fact 42 = .ok (.lload 5, 2) := by decide +kernel
theorem dX8_fact_44 : decode cX8_fact 44 = .ok (.ldc2_w 90, 3) := by decide +kernel
theorem dX8_fact_47 : decode cX8_fact 47 = .ok (.lcmp, 1) := by decide +kernel
theorem dX8_fact_48 : decode cX8_fact 48 = .ok (.ifCond .le 5, 3) := by decide +kernel
theorem dX8_fact_51 : decode cX8_fact 51 = .ok (.iconst (-1), 1) := by decide +kernel
theorem dX8_fact_52 : decode cX8_fact 52 = .ok (.ireturn, 1) := by decide +kernel
theorem dX8_fact_53 : decode cX8_fact 53 = .ok (.aload_n 0, 1) := by decide +kernel
theorem dX8_fact_54 : decode cX8_fact 54 = .ok (.getfield 19, 3) := by decide +kernel
theorem dX8_fact_57 : decode cX8_fact 57 = .ok (.iload_n 1, 1) := by decide +kernel
theorem dX8_fact_58 : decode cX8_fact 58 = .ok (.iload_n 2, 1) := by decide +kernel
theorem dX8_fact_59 : decode cX8_fact 59 = .ok (.lload_n 3, 1) := by decide +kernel
theorem dX8_fact_60 : decode cX8_fact 60 = .ok (.lload 5, 2) := by decide +kernel
theorem dX8_fact_62 : decode cX8_fact 62 = .ok (.lload 7, 2) := by decide +kernel
theorem dX8_fact_64 : decode cX8_fact 64 = .ok (.invokevirtual 92, 3) := by decide +kernel
theorem dX8_fact_67 : decode cX8_fact 67 = .ok (.ireturn, 1) := by decide +kernel
set_option maxRecDepth 20000 in
theorem ggX8_unit_X7_add : GoodIn wsX8_unit wsX7_add := goodIn_r _ [6, 7, 8, 9, 10, 11, 12, 13, 14, 23, 24, 25, 26, 27, 28] (by decide +kernel) (by decide +kernel)
set_option maxRecDepth 20000 in
theorem gX8_unit_X7_add : GoodIn wsX8_unit (wsV RX8 95 RX7 yX7_add wsX7_add) := goodIn_app (goodIn_of _ (by decide +kernel)) ggX8_unit_X7_add
theorem dX8_unit_0 : decode cX8_unit 0 = .ok (.iload_n 1, 1) := by decide +kernel
theorem dX8_unit_1 : decode cX8_unit 1 = .ok (.ifCond .lt 25, 3) := by decide +kernel
theorem dX8_unit_4 : decode cX8_unit 4 = .ok (.iload_n 1, 1) := by decide +kernel
theorem dX8_unit_5 : decode cX8_unit 5 = .ok (.sipush 255, 3) := by decide +kernel
theorem dX8_unit_8 : decode cX8_unit 8 = .ok (.if_icmp .gt 18, 3) := by decide +kernel
theorem dX8_unit_11 : decode cX8_unit 11 = .ok (.aload_n 0, 1) := by decide +kernel
theorem dX8_unit_12 : decode cX8_unit 12 = .ok (.getfield 26, 3) := by decide +kernel
theorem dX8_unit_15 : decode cX8_unit 15 = .ok (.iload_n 1, 1) := by decide +kernel
theorem dX8_unit_16 : decode cX8_unit 16 = .ok (.invokevirtual 95, 3) := by decide +kernel
theorem dX8_unit_19 : decode cX8_unit 19 = .ok (.ifCond .eq 7, 3) := by decide +kernel
theorem dX8_unit_22 : decode cX8_unit 22 = .ok (.iconst 1, 1) := by decide +kernel
theorem dX8_unit_23 : decode cX8_unit 23 = .ok (.goto 4, 3) := by decide +kernel
theorem dX8_unit_26 : decode cX8_unit 26 = .ok (.iconst 0, 1) := by decide +kernel
theorem dX8_unit_27 : decode cX8_unit 27 = .ok (.ireturn, 1) := by decide +kernel
set_option maxRecDepth 20000 in
theorem ggX8_read_X8_isDay : GoodIn wsX8_read wsX8_isDay := goodIn_r _ [7, 8] (by decide +kernel) (by decide +kernel)
set_option maxRecDepth 20000 in
theorem gX8_read_X8_isDay : GoodIn wsX8_read (va_wsS RX8 86 yX8_isDay wsX8_isDay) := goodIn_app (goodIn_of _ (by decide +kernel)) ggX8_read_X8_isDay
set_option maxRecDepth 20000 in
theorem ggX8_read_X0_isFull : GoodIn wsX8_read wsX0_isFull := goodIn_r _ [13, 14, 199, 200, 201, 202, 203, 204, 205, 206, 207, 208, 209, 210] (by decide +kernel) (by decide +kernel)
set_option maxRecDepth 20000 in
theorem gX8_read_X0_isFull : GoodIn wsX8_read (wsV RX8 97 RX0 yX0_isFull wsX0_isFull) := goodIn_app (goodIn_of _ (by decide +kernel)) ggX8_read_X0_isFull
set_option maxRecDepth 20000 in
theorem ggX8_read_X6_readRules : GoodIn wsX8_read wsX6_readRules := goodIn_r _ [19, 20, 21, 22, 23, 24, 12, 25, 26, 27, 14, 28, 29, 30, 31, 32, 33, 34, 35, 36, 37, 38, 39, 40, 41, 42, 43, 44, 45, 46, 47, 48, 49, 50, 51, 52, 53, 54, 55, 56, 57, 58, 59, 60, 61, 62, 63, 64, 65, 66, 67, 18, 68, 69, 70, 71, 72, 73, 74, 75, 76, 77, 78, 79, 80, 81, 82, 83, 84, 85, 86, 87, 88, 89, 90, 91, 92, 93, 94, 95, 96, 97, 98, 99, 100, 101, 102, 103, 104, 105, 106, 107, 108, 109, 110, 111, 112, 113, 114, 115, 116, 117, 118, 119, 120, 121, 122, 123, 124, 125, 126, 127, 128, 129, 130, 131, 132, 133, 134, 135, 136, 137, 138, 139, 140, 141, 142, 143, 144, 145, 146, 147, 148, 149, 150, 151, 152, 153, 154, 155, 156, 157, 158, 159, 160, 161, 162, 163, 164, 165, 166, 167, 168, 169, 170, 171, 172, 173, 174, 175, 176, 177, 178, 179, 211, 212, 199, 200, 201, 202, 203, 204, 205, 206, 207, 208, 209, 210, 213, 214, 215, 216, 217, 218] (by decide +kernel) (by decide +kernel)
set_option maxRecDepth 20000 in
theorem gX8_read_X6_readRules : GoodIn wsX8_read (wsV RX8 101 RX6 yX6_readRules wsX6_readRules) := goodIn_app (goodIn_of _ (by decide +kernel)) ggX8_read_X6_readRules
set_option maxRecDepth 20000 in
theorem ggX8_read_X0_keepDraft : GoodIn wsX8_read wsX0_keepDraft := goodIn_r _ [183, 184, 14, 185, 186, 32, 33, 34, 35, 36, 37, 199, 200, 201, 202, 203, 204, 205, 206, 207, 208, 209, 210, 213] (by decide +kernel) (by decide +kernel)
set_option maxRecDepth 20000 in
theorem gX8_read_X0_keepDraft : GoodIn wsX8_read (wsV RX8 105 RX0 yX0_keepDraft wsX0_keepDraft) := goodIn_app (goodIn_of _ (by decide +kernel)) ggX8_read_X0_keepDraft
set_option maxRecDepth 20000 in
theorem ggX8_read_X7_clear : GoodIn wsX8_read wsX7_clear := goodIn_r _ [190, 50, 214, 215, 216, 217, 218] (by decide +kernel) (by decide +kernel)
set_option maxRecDepth 20000 in
theorem gX8_read_X7_clear : GoodIn wsX8_read (wsV RX8 109 RX7 yX7_clear wsX7_clear) := goodIn_app (goodIn_of _ (by decide +kernel)) ggX8_read_X7_clear
theorem dX8_read_0 : decode cX8_read 0 = .ok (.sipush (-1000), 3) := by decide +kernel
theorem dX8_read_3 : decode cX8_read 3 = .ok (.istore 5, 2) := by decide +kernel
theorem dX8_read_5 : decode cX8_read 5 = .ok (.lload_n 1, 1) := by decide +kernel
theorem dX8_read_6 : decode cX8_read 6 = .ok (.invokestatic 86, 3) := by decide +kernel
theorem dX8_read_9 : decode cX8_read 9 = .ok (.ifCond .eq 45, 3) := by decide +kernel
theorem dX8_read_12 : decode cX8_read 12 = .ok (.lload_n 3, 1) := by decide +kernel
theorem dX8_read_13 : decode cX8_read 13 = .ok (.invokestatic 86, 3) := by decide +kernel
theorem dX8_read_16 : decode cX8_read 16 = .ok (.ifCond .eq 38, 3) := by decide +kernel
theorem dX8_read_19 : decode cX8_read 19 = .ok (.aload_n 0, 1) := by decide +kernel
theorem dX8_read_20 : decode cX8_read 20 = .ok (.getfield 33, 3) := by decide +kernel
theorem dX8_read_23 : decode cX8_read 23 = .ok (.invokevirtual 97, 3) := by decide +kernel
theorem dX8_read_26 : decode cX8_read 26 = .ok (.ifCond .ne 28, 3) := by decide +kernel
theorem dX8_read_29 : decode cX8_read 29 = .ok (.aload_n 0, 1) := by decide +kernel
theorem dX8_read_30 : decode cX8_read 30 = .ok (.getfield 42, 3) := by decide +kernel
theorem dX8_read_33 : decode cX8_read 33 = .ok (.invokevirtual 101, 3) := by decide +kernel
theorem dX8_read_36 : decode cX8_read 36 = .ok (.istore 5, 2) := by decide +kernel
theorem dX8_read_38 : decode cX8_read 38 = .ok (.iload 5, 2) := by decide +kernel
theorem dX8_read_40 : decode cX8_read 40 = .ok (.ifCond .lt 14, 3) := by decide +kernel
theorem dX8_read_43 : decode cX8_read 43 = .ok (.aload_n 0, 1) := by decide +kernel
theorem dX8_read_44 : decode cX8_read 44 = .ok (.getfield 33, 3) := by decide +kernel
theorem dX8_read_47 : decode cX8_read 47 = .ok (.lload_n 1, 1) := by decide +kernel
theorem dX8_read_48 : decode cX8_read 48 = .ok (.lload_n 3, 1) := by decide +kernel
theorem dX8_read_49 : decode cX8_read 49 = .ok (.iload 5, 2) := by decide +kernel
theorem dX8_read_51 : decode cX8_read 51 = .ok (.invokevirtual 105, 3) := by decide +kernel
theorem dX8_read_54 : decode cX8_read 54 = .ok (.aload_n 0, 1) := by decide +kernel
theorem dX8_read_55 : decode cX8_read 55 = .ok (.getfield 26, 3) := by decide +kernel
theorem dX8_read_58 : decode cX8_read 58 = .ok (.invokevirtual 109, 3) := by decide +kernel
theorem dX8_read_61 : decode cX8_read 61 = .ok (.iload 5, 2) := by decide +kernel
theorem dX8_read_63 : decode cX8_read 63 = .ok (.ireturn, 1) := by decide +kernel
set_option maxRecDepth 20000 in
theorem ggX8_edition_X0_has : GoodIn wsX8_edition wsX0_has := goodIn_r _ [6, 7, 37, 38, 39, 40, 41, 42, 43, 44, 45, 46, 47, 48] (by decide +kernel) (by decide +kernel)
set_option maxRecDepth 20000 in
theorem gX8_edition_X0_has : GoodIn wsX8_edition (wsV RX8 112 RX0 yX0_has wsX0_has) := goodIn_app (goodIn_of _ (by decide +kernel)) ggX8_edition_X0_has
set_option maxRecDepth 20000 in
theorem ggX8_edition_X0_actsFrom : GoodIn wsX8_edition wsX0_actsFrom := goodIn_r _ [11, 12, 13, 14, 15, 16, 17, 18, 37, 38, 39, 40, 41, 42, 43, 44, 45, 46, 47, 48, 49] (by decide +kernel) (by decide +kernel)
set_option maxRecDepth 20000 in
theorem gX8_edition_X0_actsFrom : GoodIn wsX8_edition (wsV RX8 113 RX0 yX0_actsFrom wsX0_actsFrom) := goodIn_app (goodIn_of _ (by decide +kernel)) ggX8_edition_X0_actsFrom
set_option maxRecDepth 20000 in
theorem ggX8_edition_X0_knownFrom : GoodIn wsX8_edition wsX0_knownFrom := goodIn_r _ [22, 23, 13, 14, 15, 16, 17, 18, 37, 38, 39, 40, 41, 42, 43, 44, 45, 46, 47, 48, 49] (by decide +kernel) (by decide +kernel)
set_option maxRecDepth 20000 in
theorem gX8_edition_X0_knownFrom : GoodIn wsX8_edition (wsV RX8 117 RX0 yX0_knownFrom wsX0_knownFrom) := goodIn_app (goodIn_of _ (by decide +kernel)) ggX8_edition_X0_knownFrom
set_option maxRecDepth 20000 in
theorem ggX8_edition_X0_ruleCount : GoodIn wsX8_edition wsX0_ruleCount := goodIn_r _ [27, 28, 13, 14, 15, 16, 17, 18, 37, 38, 39, 40, 41, 42, 43, 44, 45, 46, 47, 48, 49] (by decide +kernel) (by decide +kernel)
set_option maxRecDepth 20000 in
theorem gX8_edition_X0_ruleCount : GoodIn wsX8_edition (wsV RX8 120 RX0 yX0_ruleCount wsX0_ruleCount) := goodIn_app (goodIn_of _ (by decide +kernel)) ggX8_edition_X0_ruleCount
theorem dX8_edition_0 : decode cX8_edition 0 = .ok (.aload_n 0, 1) := by decide +kernel
theorem dX8_edition_1 : decode cX8_edition 1 = .ok (.getfield 33, 3) := by decide +kernel
theorem dX8_edition_4 : decode cX8_edition 4 = .ok (.iload_n 1, 1) := by decide +kernel
theorem dX8_edition_5 : decode cX8_edition 5 = .ok (.invokevirtual 112, 3) := by decide +kernel
theorem dX8_edition_8 : decode cX8_edition 8 = .ok (.ifCond .ne 5, 3) := by decide +kernel
theorem dX8_edition_11 : decode cX8_edition 11 = .ok (.iconst (-1), 1) := by decide +kernel
theorem dX8_edition_12 : decode cX8_edition 12 = .ok (.ireturn, 1) := by decide +kernel
theorem dX8_edition_13 : decode cX8_edition 13 = .ok (.iload_n 2, 1) := by decide +kernel
theorem dX8_edition_14 : decode cX8_edition 14 = .ok (.tableswitch 56 0 2 #[26, 36, 46], 26) := by decide +kernel
theorem dX8_edition_40 : decode cX8_edition 40 = .ok (.aload_n 0, 1) := by decide +kernel
theorem dX8_edition_41 : decode cX8_edition 41 = .ok (.getfield 33, 3) := by decide +kernel
theorem dX8_edition_44 : decode cX8_edition 44 = .ok (.iload_n 1, 1) := by decide +kernel
theorem dX8_edition_45 : decode cX8_edition 45 = .ok (.invokevirtual 113, 3) := by decide +kernel
theorem dX8_edition_48 : decode cX8_edition 48 = .ok (.l2i, 1) := by decide +kernel
theorem dX8_edition_49 : decode cX8_edition 49 = .ok (.ireturn, 1) := by decide +kernel
theorem dX8_edition_50 : decode cX8_edition 50 = .ok (.aload_n 0, 1) := by decide +kernel
theorem dX8_edition_51 : decode cX8_edition 51 = .ok (.getfield 33, 3) := by decide +kernel
theorem dX8_edition_54 : decode cX8_edition 54 = .ok (.iload_n 1, 1) := by decide +kernel
theorem dX8_edition_55 : decode cX8_edition 55 = .ok (.invokevirtual 117, 3) := by decide +kernel
theorem dX8_edition_58 : decode cX8_edition 58 = .ok (.l2i, 1) := by decide +kernel
theorem dX8_edition_59 : decode cX8_edition 59 = .ok (.ireturn, 1) := by decide +kernel
theorem dX8_edition_60 : decode cX8_edition 60 = .ok (.aload_n 0, 1) := by decide +kernel
theorem dX8_edition_61 : decode cX8_edition 61 = .ok (.getfield 33, 3) := by decide +kernel
theorem dX8_edition_64 : decode cX8_edition 64 = .ok (.iload_n 1, 1) := by decide +kernel
theorem dX8_edition_65 : decode cX8_edition 65 = .ok (.invokevirtual 120, 3) := by decide +kernel
theorem dX8_edition_68 : decode cX8_edition 68 = .ok (.l2i, 1) := by decide +kernel
theorem dX8_edition_69 : decode cX8_edition 69 = .ok (.ireturn, 1) := by decide +kernel
theorem dX8_edition_70 : decode cX8_edition 70 = .ok (.iconst (-1), 1) := by decide +kernel
theorem dX8_edition_71 : decode cX8_edition 71 = .ok (.ireturn, 1) := by decide +kernel
set_option maxRecDepth 20000 in
theorem ggX8_cap_X8_isMonth : GoodIn wsX8_cap wsX8_isMonth := goodIn_r _ [6] (by decide +kernel) (by decide +kernel)
set_option maxRecDepth 20000 in
theorem gX8_cap_X8_isMonth : GoodIn wsX8_cap (va_wsS RX8 123 yX8_isMonth wsX8_isMonth) := goodIn_app (goodIn_of _ (by decide +kernel)) ggX8_cap_X8_isMonth
set_option maxRecDepth 20000 in
theorem ggX8_cap_X5_set : GoodIn wsX8_cap wsX5_set := goodIn_r _ [11, 12, 21] (by decide +kernel) (by decide +kernel)
set_option maxRecDepth 20000 in
theorem gX8_cap_X5_set : GoodIn wsX8_cap (wsV RX8 64 RX5 yX5_set wsX5_set) := goodIn_app (goodIn_of _ (by decide +kernel)) ggX8_cap_X5_set
theorem dX8_cap_0 : decode cX8_cap 0 = .ok (.iload_n 1, 1) := by decide +kernel
theorem dX8_cap_1 : decode cX8_cap 1 = .ok (.invokestatic 123, 3) := by decide +kernel
theorem dX8_cap_4 : decode cX8_cap 4 = .ok (.ifCond .eq 17, 3) := by decide +kernel
theorem dX8_cap_7 : decode cX8_cap 7 = .ok (.lload_n 2, 1) := by decide +kernel
theorem dX8_cap_8 : decode cX8_cap 8 = .ok (.lconst 0, 1) := by decide +kernel
theorem dX8_cap_9 : decode cX8_cap 9 = .ok (.lcmp, 1) := by decide +kernel
theorem dX8_cap_10 : decode cX8_cap 10 = .ok (.ifCond .lt 11, 3) := by decide +kernel
theorem dX8_cap_13 : decode cX8_cap 13 = .ok (.lload_n 2, 1) := by decide +kernel
theorem dX8_cap_14 : decode cX8_cap 14 = .ok (.ldc2_w 126, 3) := by decide +kernel
theorem dX8_cap_17 : decode cX8_cap 17 = .ok (.lcmp, 1) := by decide +kernel
theorem dX8_cap_18 : decode cX8_cap 18 = .ok (.ifCond .le 5, 3) := by decide +kernel
theorem dX8_cap_21 : decode cX8_cap 21 = .ok (.iconst 0, 1) := by decide +kernel
theorem dX8_cap_22 : decode cX8_cap 22 = .ok (.ireturn, 1) := by decide +kernel
theorem dX8_cap_23 : decode cX8_cap 23 = .ok (.aload_n 0, 1) := by decide +kernel
theorem dX8_cap_24 : decode cX8_cap 24 = .ok (.getfield 58, 3) := by decide +kernel
theorem dX8_cap_27 : decode cX8_cap 27 = .ok (.iload_n 1, 1) := by decide +kernel
theorem dX8_cap_28 : decode cX8_cap 28 = .ok (.lload_n 2, 1) := by decide +kernel
theorem dX8_cap_29 : decode cX8_cap 29 = .ok (.invokevirtual 64, 3) := by decide +kernel
theorem dX8_cap_32 : decode cX8_cap 32 = .ok (.iconst 1, 1) := by decide +kernel
theorem dX8_cap_33 : decode cX8_cap 33 = .ok (.ireturn, 1) := by decide +kernel
set_option maxRecDepth 20000 in
theorem ggX8_relief_X3_has : GoodIn wsX8_relief wsX3_has := goodIn_r _ [7, 8, 41, 42, 43, 44] (by decide +kernel) (by decide +kernel)
set_option maxRecDepth 20000 in
theorem gX8_relief_X3_has : GoodIn wsX8_relief (wsV RX8 79 RX3 yX3_has wsX3_has) := goodIn_app (goodIn_of _ (by decide +kernel)) ggX8_relief_X3_has
set_option maxRecDepth 20000 in
theorem ggX8_relief_X8_isKind : GoodIn wsX8_relief wsX8_isKind := goodIn_r _ [12] (by decide +kernel) (by decide +kernel)
set_option maxRecDepth 20000 in
theorem gX8_relief_X8_isKind : GoodIn wsX8_relief (va_wsS RX8 83 yX8_isKind wsX8_isKind) := goodIn_app (goodIn_of _ (by decide +kernel)) ggX8_relief_X8_isKind
set_option maxRecDepth 20000 in
theorem ggX8_relief_X8_isDay : GoodIn wsX8_relief wsX8_isDay := goodIn_r _ [15, 16] (by decide +kernel) (by decide +kernel)
set_option maxRecDepth 20000 in
theorem gX8_relief_X8_isDay : GoodIn wsX8_relief (va_wsS RX8 86 yX8_isDay wsX8_isDay) := goodIn_app (goodIn_of _ (by decide +kernel)) ggX8_relief_X8_isDay
set_option maxRecDepth 20000 in
theorem ggX8_relief_X4_add : GoodIn wsX8_relief wsX4_add := goodIn_r _ [21, 22, 23, 24, 25, 26, 27, 28, 29, 30, 31, 32, 45, 46, 47, 48, 49, 50] (by decide +kernel) (by decide +kernel)
set_option maxRecDepth 20000 in
theorem gX8_relief_X4_add : GoodIn wsX8_relief (wsV RX8 128 RX4 yX4_add wsX4_add) := goodIn_app (goodIn_of _ (by decide +kernel)) ggX8_relief_X4_add
theorem dX8_relief_0 : decode cX8_relief 0 = .ok (.aload_n 0, 1) := by decide +kernel
theorem dX8_relief_1 : decode cX8_relief 1 = .ok (.getfield 12, 3) := by decide +kernel
theorem dX8_relief_4 : decode cX8_relief 4 = .ok (.iload_n 1, 1) := by decide +kernel
theorem dX8_relief_5 : decode cX8_relief 5 = .ok (.invokevirtual 79, 3) := by decide +kernel
theorem dX8_relief_8 : decode cX8_relief 8 = .ok (.ifCond .eq 32, 3) := by decide +kernel
theorem dX8_relief_11 : decode cX8_relief 11 = .ok (.iload_n 2, 1) := by decide +kernel
theorem dX8_relief_12 : decode cX8_relief 12 = .ok (.invokestatic 83, 3) := by decide +kernel
theorem dX8_relief_15 : decode cX8_relief 15 = .ok (.ifCond .eq 25, 3) := by decide +kernel
theorem dX8_relief_18 : decode cX8_relief 18 = .ok (.lload_n 3, 1) := by decide +kernel
theorem dX8_relief_19 : decode cX8_relief 19 = .ok (.invokestatic 86, 3) := by decide +kernel
theorem dX8_relief_22 : decode cX8_relief 22 = .ok (.ifCond .eq 18, 3) := by decide +kernel
theorem dX8_relief_25 : decode cX8_relief 25 = .ok (.lload 5, 2) := by decide +kernel
theorem dX8_relief_27 : decode cX8_relief 27 = .ok (.invokestatic 86, 3) := by decide +kernel
theorem dX8_relief_30 : decode cX8_relief 30 = .ok (.ifCond .eq 10, 3) := by decide +kernel
theorem dX8_relief_33 : decode cX8_relief 33 = .ok (.lload_n 3, 1) := by decide +kernel
theorem dX8_relief_34 : decode cX8_relief 34 = .ok (.lload 5, 2) := by decide +kernel
theorem dX8_relief_36 : decode cX8_relief 36 = .ok (.lcmp, 1) := by decide +kernel
theorem dX8_relief_37 : decode cX8_relief 37 = .ok (.ifCond .le 5, 3) := by decide +kernel
theorem dX8_relief_40 : decode cX8_relief 40 = .ok (.iconst 0, 1) := by decide +kernel
theorem dX8_relief_41 : decode cX8_relief 41 = .ok (.ireturn, 1) := by decide +kernel
theorem dX8_relief_42 : decode cX8_relief 42 = .ok (.aload_n 0, 1) := by decide +kernel
theorem dX8_relief_43 : decode cX8_relief 43 = .ok (.getfield 49, 3) := by decide +kernel
theorem dX8_relief_46 : decode cX8_relief 46 = .ok (.iload_n 1, 1) := by decide +kernel
theorem dX8_relief_47 : decode cX8_relief 47 = .ok (.iload_n 2, 1) := by decide +kernel
theorem dX8_relief_48 : decode cX8_relief 48 = .ok (.lload_n 3, 1) := by decide +kernel
theorem dX8_relief_49 : decode cX8_relief 49 = .ok (.lload 5, 2) := by decide +kernel
theorem dX8_relief_51 : decode cX8_relief 51 = .ok (.invokevirtual 128, 3) := by decide +kernel
theorem dX8_relief_54 : decode cX8_relief 54 = .ok (.ireturn, 1) := by decide +kernel
set_option maxRecDepth 20000 in
theorem ggX8_weight_X3_hasFlat : GoodIn wsX8_weight wsX3_hasFlat := goodIn_r _ [6, 7, 8, 9, 10, 5, 11, 12, 13, 14, 15, 16, 17, 18, 36, 37, 38, 39, 40] (by decide +kernel) (by decide +kernel)
set_option maxRecDepth 20000 in
theorem gX8_weight_X3_hasFlat : GoodIn wsX8_weight (wsV RX8 131 RX3 yX3_hasFlat wsX3_hasFlat) := goodIn_app (goodIn_of _ (by decide +kernel)) ggX8_weight_X3_hasFlat
set_option maxRecDepth 20000 in
theorem ggX8_weight_X3_setWeight : GoodIn wsX8_weight wsX3_setWeight := goodIn_r _ [22, 23, 24, 25, 26, 16, 27, 18, 36, 37, 38, 39, 40] (by decide +kernel) (by decide +kernel)
set_option maxRecDepth 20000 in
theorem gX8_weight_X3_setWeight : GoodIn wsX8_weight (wsV RX8 135 RX3 yX3_setWeight wsX3_setWeight) := goodIn_app (goodIn_of _ (by decide +kernel)) ggX8_weight_X3_setWeight
theorem dX8_weight_0 : decode cX8_weight 0 = .ok (.aload_n 0, 1) := by decide +kernel
theorem dX8_weight_1 : decode cX8_weight 1 = .ok (.getfield 12, 3) := by decide +kernel
theorem dX8_weight_4 : decode cX8_weight 4 = .ok (.iload_n 1, 1) := by decide +kernel
theorem dX8_weight_5 : decode cX8_weight 5 = .ok (.iload_n 2, 1) := by decide +kernel
theorem dX8_weight_6 : decode cX8_weight 6 = .ok (.invokevirtual 131, 3) := by decide +kernel
theorem dX8_weight_9 : decode cX8_weight 9 = .ok (.ifCond .eq 14, 3) := by decide +kernel
theorem dX8_weight_12 : decode cX8_weight 12 = .ok (.iload_n 3, 1) := by decide +kernel
theorem dX8_weight_13 : decode cX8_weight 13 = .ok (.ifCond .lt 10, 3) := by decide +kernel
theorem dX8_weight_16 : decode cX8_weight 16 = .ok (.iload_n 3, 1) := by decide +kernel
theorem dX8_weight_17 : decode cX8_weight 17 = .ok (.sipush 1000, 3) := by decide +kernel
theorem dX8_weight_20 : decode cX8_weight 20 = .ok (.if_icmp .le 5, 3) := by decide +kernel
theorem dX8_weight_23 : decode cX8_weight 23 = .ok (.iconst 0, 1) := by decide +kernel
theorem dX8_weight_24 : decode cX8_weight 24 = .ok (.ireturn, 1) := by decide +kernel
theorem dX8_weight_25 : decode cX8_weight 25 = .ok (.aload_n 0, 1) := by decide +kernel
theorem dX8_weight_26 : decode cX8_weight 26 = .ok (.getfield 12, 3) := by decide +kernel
theorem dX8_weight_29 : decode cX8_weight 29 = .ok (.iload_n 1, 1) := by decide +kernel
theorem dX8_weight_30 : decode cX8_weight 30 = .ok (.iload_n 2, 1) := by decide +kernel
theorem dX8_weight_31 : decode cX8_weight 31 = .ok (.iload_n 3, 1) := by decide +kernel
theorem dX8_weight_32 : decode cX8_weight 32 = .ok (.invokevirtual 135, 3) := by decide +kernel
theorem dX8_weight_35 : decode cX8_weight 35 = .ok (.iconst 1, 1) := by decide +kernel
theorem dX8_weight_36 : decode cX8_weight 36 = .ok (.ireturn, 1) := by decide +kernel
set_option maxRecDepth 20000 in
theorem ggX8_bill_X8_billOf : GoodIn wsX8_bill wsX8_billOf := goodIn_r _ [5, 6, 7, 8, 9, 10, 11, 12, 4, 13, 14, 15, 16, 17, 18, 19, 20, 21, 22, 23, 24, 25, 26, 27, 28, 29, 30, 31, 32, 33, 34, 35, 36, 37, 38, 39, 40, 41, 42, 43, 44, 45, 46, 47, 48, 49, 50, 51, 52, 53, 54, 55, 56, 57, 58, 59, 60, 61, 62, 63, 64, 65, 66, 67, 68, 69, 70, 71, 72, 73, 74, 75, 76, 77, 78, 79, 80, 81, 82, 83, 84, 85, 86, 87, 88, 89, 90, 91, 92, 93, 94, 95, 96, 97, 98, 99, 100, 101, 102, 103, 104, 105, 106, 107, 108, 109, 110, 111, 112, 113, 114, 115, 116, 117, 118, 119, 120, 121, 122, 123, 124, 125, 126, 127, 128, 129, 130, 131, 132, 133, 134, 135, 136, 137, 138, 139, 140, 141, 142, 143, 144, 145, 146, 147, 148, 149, 150, 151, 152, 153, 154, 155, 156, 157, 158, 159, 160, 161, 162, 163] (by decide +kernel) (by decide +kernel)
set_option maxRecDepth 20000 in
theorem gX8_bill_X8_billOf : GoodIn wsX8_bill (wsV RX8 139 RX8 yX8_billOf wsX8_billOf) := goodIn_app (goodIn_of _ (by decide +kernel)) ggX8_bill_X8_billOf
theorem dX8_bill_0 : decode cX8_bill 0 = .ok (.aload_n 0, 1) := by decide +kernel
theorem dX8_bill_1 : decode cX8_bill 1 = .ok (.iload_n 1, 1) := by decide +kernel
theorem dX8_bill_2 : decode cX8_bill 2 = .ok (.iload_n 2, 1) := by decide +kernel
theorem dX8_bill_3 : decode cX8_bill 3 = .ok (.lload_n 3, 1) := by decide +kernel
theorem dX8_bill_4 : decode cX8_bill 4 = .ok (.invokevirtual 139, 3) := by decide +kernel
theorem dX8_bill_7 : decode cX8_bill 7 = .ok (.lreturn, 1) := by decide +kernel
set_option maxRecDepth 20000 in
theorem ggX8_walk_X8_isAskable : GoodIn wsX8_walk wsX8_isAskable := goodIn_r _ [7, 8, 9, 10, 11, 12, 13, 14, 15, 16, 6, 17, 18, 19, 20, 21, 169, 170, 171, 172, 173, 174, 175, 176, 177, 178, 179, 180] (by decide +kernel) (by decide +kernel)
set_option maxRecDepth 20000 in
theorem gX8_walk_X8_isAskable : GoodIn wsX8_walk (wsV RX8 143 RX8 yX8_isAskable wsX8_isAskable) := goodIn_app (goodIn_of _ (by decide +kernel)) ggX8_walk_X8_isAskable
set_option maxRecDepth 20000 in
theorem ggX8_walk_X2_clear : GoodIn wsX8_walk wsX2_clear := goodIn_r _ [26, 27, 28, 181, 182, 183, 184, 185, 186, 187] (by decide +kernel) (by decide +kernel)
set_option maxRecDepth 20000 in
theorem gX8_walk_X2_clear : GoodIn wsX8_walk (wsV RX8 147 RX2 yX2_clear wsX2_clear) := goodIn_app (goodIn_of _ (by decide +kernel)) ggX8_walk_X2_clear
set_option maxRecDepth 20000 in
theorem ggX8_walk_X1_count : GoodIn wsX8_walk wsX1_count := goodIn_r _ [33, 34, 188, 189, 190, 191, 192, 193] (by decide +kernel) (by decide +kernel)
set_option maxRecDepth 20000 in
theorem gX8_walk_X1_count : GoodIn wsX8_walk (wsV RX8 148 RX1 yX1_count wsX1_count) := goodIn_app (goodIn_of _ (by decide +kernel)) ggX8_walk_X1_count
set_option maxRecDepth 20000 in
theorem ggX8_walk_X1_isOf : GoodIn wsX8_walk wsX1_isOf := goodIn_r _ [38, 39, 40, 41, 42, 43, 44, 45, 46, 47, 48, 188, 189, 190, 191, 192, 193, 194] (by decide +kernel) (by decide +kernel)
set_option maxRecDepth 20000 in
theorem gX8_walk_X1_isOf : GoodIn wsX8_walk (wsV RX8 151 RX1 yX1_isOf wsX1_isOf) := goodIn_app (goodIn_of _ (by decide +kernel)) ggX8_walk_X1_isOf
set_option maxRecDepth 20000 in
theorem ggX8_walk_X8_hold : GoodIn wsX8_walk wsX8_hold := goodIn_r _ [52, 1, 2, 53, 54, 55, 6, 56, 57, 58, 59, 60, 61, 62, 63, 64, 65, 32, 66, 39, 43, 44, 45, 46, 47, 48, 67, 68, 69, 70, 71, 72, 73, 74, 75, 40, 76, 77, 78, 79, 80, 81, 82, 83, 84, 85, 86, 87, 88, 89, 90, 91, 92, 93, 94, 95, 96, 97, 98, 99, 100, 101, 102, 103, 104, 105, 106, 107, 108, 109, 110, 111, 112, 113, 114, 115, 116, 117, 118, 119, 120, 121, 122, 123, 124, 125, 126, 127, 128, 129, 130, 131, 132, 133, 134, 135, 136, 137, 138, 139, 140, 25, 141, 142, 27, 143, 144, 145, 146, 147, 148, 149, 150, 151, 152, 153, 154, 155, 156, 157, 158, 159, 160, 161, 162, 163, 164, 28, 169, 170, 171, 172, 173, 174, 175, 176, 188, 189, 190, 191, 192, 193, 194, 195, 196, 197, 198, 199, 200, 201, 202, 203, 204, 205, 206, 207, 208, 209, 210, 211, 181, 182, 183, 184, 185, 186, 187] (by decide +kernel) (by decide +kernel)
set_option maxRecDepth 20000 in
theorem gX8_walk_X8_hold : GoodIn wsX8_walk (wsV RX8 155 RX8 yX8_hold wsX8_hold) := goodIn_app (goodIn_of _ (by decide +kernel)) ggX8_walk_X8_hold
set_option maxRecDepth 20000 in
theorem ggX8_walk_X2_count : GoodIn wsX8_walk wsX2_count := goodIn_r _ [168, 27, 181, 182, 183, 184, 185, 186, 187] (by decide +kernel) (by decide +kernel)
set_option maxRecDepth 20000 in
theorem gX8_walk_X2_count : GoodIn wsX8_walk (wsV RX8 158 RX2 yX2_count wsX2_count) := goodIn_app (goodIn_of _ (by decide +kernel)) ggX8_walk_X2_count
theorem dX8_walk_0 : decode cX8_walk 0 = .ok (.aload_n 0, 1) := by decide +kernel
theorem dX8_walk_1 : decode cX8_walk 1 = .ok (.iload_n 1, 1) := by decide +kernel
theorem dX8_walk_2 : decode cX8_walk 2 = .ok (.iload_n 2, 1) := by decide +kernel
theorem dX8_walk_3 : decode cX8_walk 3 = .ok (.lload_n 3, 1) := by decide +kernel
theorem dX8_walk_4 : decode cX8_walk 4 = .ok (.invokevirtual 143, 3) := by decide +kernel
theorem dX8_walk_7 : decode cX8_walk 7 = .ok (.ifCond .ne 5, 3) := by decide +kernel
theorem dX8_walk_10 : decode cX8_walk 10 = .ok (.iconst (-1), 1) := by decide +kernel
theorem dX8_walk_11 : decode cX8_walk 11 = .ok (.ireturn, 1) := by decide +kernel
theorem dX8_walk_12 : decode cX8_walk 12 = .ok (.aload_n 0, 1) := by decide +kernel
theorem dX8_walk_13 : decode cX8_walk 13 = .ok (.getfield 71, 3) := by decide +kernel
theorem dX8_walk_16 : decode cX8_walk 16 = .ok (.invokevirtual 147, 3) := by decide +kernel
theorem dX8_walk_19 : decode cX8_walk 19 = .ok (.iconst 0, 1) := by decide +kernel
theorem dX8_walk_20 : decode cX8_walk 20 = .ok (.istore 5, 2) := by decide +kernel
theorem dX8_walk_22 : decode cX8_walk 22 = .ok (.iload 5, 2) := by decide +kernel
theorem dX8_walk_24 : decode cX8_walk 24 = .ok (.aload_n 0, 1) := by decide +kernel
theorem dX8_walk_25 : decode cX8_walk 25 = .ok (.getfield 19, 3) := by decide +kernel
theorem dX8_walk_28 : decode cX8_walk 28 = .ok (.invokevirtual 148, 3) := by decide +kernel
theorem dX8_walk_31 : decode cX8_walk 31 = .ok (.if_icmp .ge 31, 3) := by decide +kernel
theorem dX8_walk_34 : decode cX8_walk 34 = .ok (.aload_n 0, 1) := by decide +kernel
theorem dX8_walk_35 : decode cX8_walk 35 = .ok (.getfield 19, 3) := by decide +kernel
theorem dX8_walk_38 : decode cX8_walk 38 = .ok (.iload 5, 2) := by decide +kernel
theorem dX8_walk_40 : decode cX8_walk 40 = .ok (.iload_n 1, 1) := by decide +kernel
theorem dX8_walk_41 : decode cX8_walk 41 = .ok (.iload_n 2, 1) := by decide +kernel
theorem dX8_walk_42 : decode cX8_walk 42 = .ok (.lload_n 3, 1) := by decide +kernel
theorem dX8_walk_43 : decode cX8_walk 43 = .ok (.invokevirtual 151, 3) := by decide +kernel
theorem dX8_walk_46 : decode cX8_walk 46 = .ok (.ifCond .eq 10, 3) := by decide +kernel
theorem dX8_walk_49 : decode cX8_walk 49 = .ok (.aload_n 0, 1) := by decide +kernel
theorem dX8_walk_50 : decode cX8_walk 50 = .ok (.iload 5, 2) := by decide +kernel
theorem dX8_walk_52 : decode cX8_walk 52 = .ok (.lload_n 3, 1) := by decide +kernel
theorem dX8_walk_53 : decode cX8_walk 53 = .ok (.invokevirtual 155, 3) := by decide +kernel
theorem dX8_walk_56 : decode cX8_walk 56 = .ok (.iinc 5 1, 3) := by decide +kernel
theorem dX8_walk_59 : decode cX8_walk 59 = .ok (.goto (-37), 3) := by decide +kernel
theorem dX8_walk_62 : decode cX8_walk 62 = .ok (.aload_n 0, 1) := by decide +kernel
theorem dX8_walk_63 : decode cX8_walk 63 = .ok (.getfield 71, 3) := by decide +kernel
theorem dX8_walk_66 : decode cX8_walk 66 = .ok (.invokevirtual 158, 3) := by decide +kernel
theorem dX8_walk_69 : decode cX8_walk 69 = .ok (.ireturn, 1) := by decide +kernel
set_option maxRecDepth 20000 in
theorem ggX8_line_X2_has : GoodIn wsX8_line wsX2_has := goodIn_r _ [7, 8, 43, 44, 45, 46, 47, 48, 49] (by decide +kernel) (by decide +kernel)
set_option maxRecDepth 20000 in
theorem gX8_line_X2_has : GoodIn wsX8_line (wsV RX8 159 RX2 yX2_has wsX2_has) := goodIn_app (goodIn_of _ (by decide +kernel)) ggX8_line_X2_has
set_option maxRecDepth 20000 in
theorem ggX8_line_X2_factOf : GoodIn wsX8_line wsX2_factOf := goodIn_r _ [12, 13, 14, 15, 16, 17, 18, 19, 43, 44, 45, 46, 47, 48, 49, 50] (by decide +kernel) (by decide +kernel)
set_option maxRecDepth 20000 in
theorem gX8_line_X2_factOf : GoodIn wsX8_line (wsV RX8 160 RX2 yX2_factOf wsX2_factOf) := goodIn_app (goodIn_of _ (by decide +kernel)) ggX8_line_X2_factOf
set_option maxRecDepth 20000 in
theorem ggX8_line_X2_centsOf : GoodIn wsX8_line wsX2_centsOf := goodIn_r _ [23, 24, 14, 15, 16, 17, 18, 19, 43, 44, 45, 46, 47, 48, 49, 50] (by decide +kernel) (by decide +kernel)
set_option maxRecDepth 20000 in
theorem gX8_line_X2_centsOf : GoodIn wsX8_line (wsV RX8 163 RX2 yX2_centsOf wsX2_centsOf) := goodIn_app (goodIn_of _ (by decide +kernel)) ggX8_line_X2_centsOf
set_option maxRecDepth 20000 in
theorem ggX8_line_X2_editionOf : GoodIn wsX8_line wsX2_editionOf := goodIn_r _ [28, 29, 14, 15, 16, 17, 18, 19, 43, 44, 45, 46, 47, 48, 49, 50] (by decide +kernel) (by decide +kernel)
set_option maxRecDepth 20000 in
theorem gX8_line_X2_editionOf : GoodIn wsX8_line (wsV RX8 166 RX2 yX2_editionOf wsX2_editionOf) := goodIn_app (goodIn_of _ (by decide +kernel)) ggX8_line_X2_editionOf
set_option maxRecDepth 20000 in
theorem ggX8_line_X2_lackOf : GoodIn wsX8_line wsX2_lackOf := goodIn_r _ [33, 34, 14, 15, 16, 17, 18, 19, 43, 44, 45, 46, 47, 48, 49, 50] (by decide +kernel) (by decide +kernel)
set_option maxRecDepth 20000 in
theorem gX8_line_X2_lackOf : GoodIn wsX8_line (wsV RX8 169 RX2 yX2_lackOf wsX2_lackOf) := goodIn_app (goodIn_of _ (by decide +kernel)) ggX8_line_X2_lackOf
theorem dX8_line_0 : decode cX8_line 0 = .ok (.aload_n 0, 1) := by decide +kernel
theorem dX8_line_1 : decode cX8_line 1 = .ok (.getfield 71, 3) := by decide +kernel
theorem dX8_line_4 : decode cX8_line 4 = .ok (.iload_n 1, 1) := by decide +kernel
theorem dX8_line_5 : decode cX8_line 5 = .ok (.invokevirtual 159, 3) := by decide +kernel
theorem dX8_line_8 : decode cX8_line 8 = .ok (.ifCond .ne 7, 3) := by decide +kernel
theorem dX8_line_11 : decode cX8_line 11 = .ok (.ldc2_w 62, 3) := by decide +kernel
theorem dX8_line_14 : decode cX8_line 14 = .ok (.lreturn, 1) := by decide +kernel
theorem dX8_line_15 : decode cX8_line 15 = .ok (.iload_n 2, 1) := by decide +kernel
theorem dX8_line_16 : decode cX8_line 16 = .ok (.tableswitch 68 0 3 #[32, 41, 50, 59], 32) := by decide +kernel
theorem dX8_line_48 : decode cX8_line 48 = .ok (.aload_n 0, 1) := by decide +kernel
theorem dX8_line_49 : decode cX8_line 49 = .ok (.getfield 71, 3) := by decide +kernel
theorem dX8_line_52 : decode cX8_line 52 = .ok (.iload_n 1, 1) := by decide +kernel
theorem dX8_line_53 : decode cX8_line 53 = .ok (.invokevirtual 160, 3) := by decide +kernel
theorem dX8_line_56 : decode cX8_line 56 = .ok (.lreturn, 1) := by decide +kernel
theorem dX8_line_57 : decode cX8_line 57 = .ok (.aload_n 0, 1) := by decide +kernel
theorem dX8_line_58 : decode cX8_line 58 = .ok (.getfield 71, 3) := by decide +kernel
theorem dX8_line_61 : decode cX8_line 61 = .ok (.iload_n 1, 1) := by decide +kernel
theorem dX8_line_62 : decode cX8_line 62 = .ok (.invokevirtual 163, 3) := by decide +kernel
theorem dX8_line_65 : decode cX8_line 65 = .ok (.lreturn, 1) := by decide +kernel
theorem dX8_line_66 : decode cX8_line 66 = .ok (.aload_n 0, 1) := by decide +kernel
theorem dX8_line_67 : decode cX8_line 67 = .ok (.getfield 71, 3) := by decide +kernel
theorem dX8_line_70 : decode cX8_line 70 = .ok (.iload_n 1, 1) := by decide +kernel
theorem dX8_line_71 : decode cX8_line 71 = .ok (.invokevirtual 166, 3) := by decide +kernel
theorem dX8_line_74 : decode cX8_line 74 = .ok (.lreturn, 1) := by decide +kernel
theorem dX8_line_75 : decode cX8_line 75 = .ok (.aload_n 0, 1) := by decide +kernel
theorem dX8_line_76 : decode cX8_line 76 = .ok (.getfield 71, 3) := by decide +kernel
theorem dX8_line_79 : decode cX8_line 79 = .ok (.iload_n 1, 1) := by decide +kernel
theorem dX8_line_80 : decode cX8_line 80 = .ok (.invokevirtual 169, 3) := by decide +kernel
theorem dX8_line_83 : decode cX8_line 83 = .ok (.lreturn, 1) := by decide +kernel
theorem dX8_line_84 : decode cX8_line 84 = .ok (.ldc2_w 62, 3) := by decide +kernel
theorem dX8_line_87 : decode cX8_line 87 = .ok (.lreturn, 1) := by decide +kernel
set_option maxRecDepth 20000 in
theorem ggX8_open_X2_openFact : GoodIn wsX8_open wsX2_openFact := goodIn_r _ [6, 7, 8, 9, 10, 11, 12, 13, 14, 15, 24, 25, 26, 27, 28, 29, 30, 31] (by decide +kernel) (by decide +kernel)
set_option maxRecDepth 20000 in
theorem gX8_open_X2_openFact : GoodIn wsX8_open (wsV RX8 172 RX2 yX2_openFact wsX2_openFact) := goodIn_app (goodIn_of _ (by decide +kernel)) ggX8_open_X2_openFact
theorem dX8_open_0 : decode cX8_open 0 = .ok (.aload_n 0, 1) := by decide +kernel
theorem dX8_open_1 : decode cX8_open 1 = .ok (.getfield 71, 3) := by decide +kernel
theorem dX8_open_4 : decode cX8_open 4 = .ok (.iload_n 1, 1) := by decide +kernel
theorem dX8_open_5 : decode cX8_open 5 = .ok (.invokevirtual 172, 3) := by decide +kernel
theorem dX8_open_8 : decode cX8_open 8 = .ok (.ireturn, 1) := by decide +kernel
set_option maxRecDepth 20000 in
theorem ggX8_write_X2_printedByte : GoodIn wsX8_write wsX2_printedByte := goodIn_r _ [6, 7, 8, 9, 10, 11, 12, 13, 14, 23, 24, 25, 26, 27, 28, 29, 30] (by decide +kernel) (by decide +kernel)
set_option maxRecDepth 20000 in
theorem gX8_write_X2_printedByte : GoodIn wsX8_write (wsV RX8 175 RX2 yX2_printedByte wsX2_printedByte) := goodIn_app (goodIn_of _ (by decide +kernel)) ggX8_write_X2_printedByte
theorem dX8_write_0 : decode cX8_write 0 = .ok (.aload_n 0, 1) := by decide +kernel
theorem dX8_write_1 : decode cX8_write 1 = .ok (.getfield 71, 3) := by decide +kernel
theorem dX8_write_4 : decode cX8_write 4 = .ok (.iload_n 1, 1) := by decide +kernel
theorem dX8_write_5 : decode cX8_write 5 = .ok (.invokevirtual 175, 3) := by decide +kernel
theorem dX8_write_8 : decode cX8_write 8 = .ok (.ireturn, 1) := by decide +kernel
set_option maxRecDepth 20000 in
theorem ggX8_flat_X3_hasFlat : GoodIn wsX8_flat wsX3_hasFlat := goodIn_r _ [7, 8, 9, 10, 11, 6, 12, 13, 14, 15, 16, 17, 18, 19, 154, 155, 156, 157, 158] (by decide +kernel) (by decide +kernel)
set_option maxRecDepth 20000 in
theorem gX8_flat_X3_hasFlat : GoodIn wsX8_flat (wsV RX8 131 RX3 yX3_hasFlat wsX3_hasFlat) := goodIn_app (goodIn_of _ (by decide +kernel)) ggX8_flat_X3_hasFlat
set_option maxRecDepth 20000 in
theorem ggX8_flat_X8_billOf : GoodIn wsX8_flat wsX8_billOf := goodIn_r _ [24, 2, 25, 26, 27, 28, 29, 30, 23, 31, 1, 32, 10, 11, 6, 12, 13, 33, 34, 35, 36, 37, 38, 39, 40, 41, 42, 43, 44, 45, 46, 47, 48, 49, 50, 51, 52, 53, 54, 15, 16, 17, 18, 19, 55, 56, 57, 58, 59, 60, 61, 62, 63, 64, 65, 66, 67, 68, 69, 70, 71, 72, 73, 74, 75, 76, 77, 78, 79, 80, 81, 82, 83, 84, 85, 86, 87, 88, 89, 90, 91, 92, 93, 94, 95, 96, 97, 98, 99, 100, 101, 102, 103, 104, 105, 106, 107, 108, 109, 110, 111, 112, 113, 114, 115, 116, 117, 118, 119, 120, 121, 122, 123, 124, 125, 126, 127, 128, 129, 130, 131, 132, 133, 134, 146, 147, 148, 149, 150, 151, 152, 153, 154, 155, 156, 157, 159, 160, 161, 162, 163, 164, 158, 165, 166, 167, 168, 169, 170, 171, 172, 173, 174, 175, 176, 177, 178, 179, 180, 181] (by decide +kernel) (by decide +kernel)
set_option maxRecDepth 20000 in
theorem gX8_flat_X8_billOf : GoodIn wsX8_flat (wsV RX8 139 RX8 yX8_billOf wsX8_billOf) := goodIn_app (goodIn_of _ (by decide +kernel)) ggX8_flat_X8_billOf
set_option maxRecDepth 20000 in
theorem ggX8_flat_X3_shareOf : GoodIn wsX8_flat wsX3_shareOf := goodIn_r _ [138, 139, 140, 4, 5, 6, 7, 8, 9, 10, 11, 12, 13, 14, 15, 16, 17, 18, 19, 141, 142, 143, 144, 145, 154, 155, 156, 157, 158] (by decide +kernel) (by decide +kernel)
set_option maxRecDepth 20000 in
theorem gX8_flat_X3_shareOf : GoodIn wsX8_flat (wsV RX8 180 RX3 yX3_shareOf wsX3_shareOf) := goodIn_app (goodIn_of _ (by decide +kernel)) ggX8_flat_X3_shareOf
theorem dX8_flat_0 : decode cX8_flat 0 = .ok (.aload_n 0, 1) := by decide +kernel
theorem dX8_flat_1 : decode cX8_flat 1 = .ok (.getfield 12, 3) := by decide +kernel
theorem dX8_flat_4 : decode cX8_flat 4 = .ok (.iload_n 1, 1) := by decide +kernel
theorem dX8_flat_5 : decode cX8_flat 5 = .ok (.iload 5, 2) := by decide +kernel
theorem dX8_flat_7 : decode cX8_flat 7 = .ok (.invokevirtual 131, 3) := by decide +kernel
theorem dX8_flat_10 : decode cX8_flat 10 = .ok (.ifCond .ne 7, 3) := by decide +kernel
theorem dX8_flat_13 : decode cX8_flat 13 = .ok (.ldc2_w 178, 3) := by decide +kernel
theorem dX8_flat_16 : decode cX8_flat 16 = .ok (.lreturn, 1) := by decide +kernel
theorem dX8_flat_17 : decode cX8_flat 17 = .ok (.aload_n 0, 1) := by decide +kernel
theorem dX8_flat_18 : decode cX8_flat 18 = .ok (.iload_n 1, 1) := by decide +kernel
theorem dX8_flat_19 : decode cX8_flat 19 = .ok (.iload_n 2, 1) := by decide +kernel
theorem dX8_flat_20 : decode cX8_flat 20 = .ok (.lload_n 3, 1) := by decide +kernel
theorem dX8_flat_21 : decode cX8_flat 21 = .ok (.invokevirtual 139, 3) := by decide +kernel
theorem dX8_flat_24 : decode cX8_flat 24 = .ok (.lstore 6, 2) := by decide +kernel
theorem dX8_flat_26 : decode cX8_flat 26 = .ok (.lload 6, 2) := by decide +kernel
theorem dX8_flat_28 : decode cX8_flat 28 = .ok (.ldc2_w 178, 3) := by decide +kernel
theorem dX8_flat_31 : decode cX8_flat 31 = .ok (.lcmp, 1) := by decide +kernel
theorem dX8_flat_32 : decode cX8_flat 32 = .ok (.ifCond .ne 7, 3) := by decide +kernel
theorem dX8_flat_35 : decode cX8_flat 35 = .ok (.ldc2_w 178, 3) := by decide +kernel
theorem dX8_flat_38 : decode cX8_flat 38 = .ok (.lreturn, 1) := by decide +kernel
theorem dX8_flat_39 : decode cX8_flat 39 = .ok (.aload_n 0, 1) := by decide +kernel
theorem dX8_flat_40 : decode cX8_flat 40 = .ok (.getfield 12, 3) := by decide +kernel
theorem dX8_flat_43 : decode cX8_flat 43 = .ok (.iload_n 1, 1) := by decide +kernel
theorem dX8_flat_44 : decode cX8_flat 44 = .ok (.iload 5, 2) := by decide +kernel
theorem dX8_flat_46 : decode cX8_flat 46 = .ok (.lload 6, 2) := by decide +kernel
theorem dX8_flat_48 : decode cX8_flat 48 = .ok (.invokevirtual 180, 3) := by decide +kernel
theorem dX8_flat_51 : decode cX8_flat 51 = .ok (.lreturn, 1) := by decide +kernel
set_option maxRecDepth 20000 in
theorem ggX8_issue_X8_billOf : GoodIn wsX8_issue wsX8_billOf := goodIn_r _ [7, 1, 8, 9, 10, 11, 12, 13, 6, 14, 2, 15, 16, 17, 18, 19, 20, 21, 22, 23, 24, 25, 26, 27, 28, 29, 30, 31, 32, 33, 34, 35, 36, 37, 38, 39, 40, 41, 42, 43, 44, 45, 46, 47, 48, 49, 50, 51, 52, 53, 54, 55, 56, 57, 58, 59, 60, 61, 62, 63, 64, 65, 66, 67, 68, 69, 70, 71, 72, 73, 74, 75, 76, 77, 78, 79, 80, 81, 82, 83, 84, 85, 86, 87, 88, 89, 90, 91, 92, 93, 94, 95, 96, 97, 98, 99, 100, 101, 102, 103, 104, 105, 106, 107, 108, 109, 110, 111, 112, 113, 114, 115, 116, 117, 118, 119, 120, 121, 122, 123, 124, 125, 126, 127, 142, 143, 144, 145, 146, 147, 148, 149, 150, 151, 152, 153, 154, 155, 156, 157, 158, 159, 160, 161, 162, 163, 164, 165, 166, 167, 168, 169, 170, 171, 172, 173, 174, 175, 176, 177] (by decide +kernel) (by decide +kernel)
set_option maxRecDepth 20000 in
theorem gX8_issue_X8_billOf : GoodIn wsX8_issue (wsV RX8 139 RX8 yX8_billOf wsX8_billOf) := goodIn_app (goodIn_of _ (by decide +kernel)) ggX8_issue_X8_billOf
set_option maxRecDepth 20000 in
theorem ggX8_issue_X3_issuedOf : GoodIn wsX8_issue wsX3_issuedOf := goodIn_r _ [131, 132, 133, 43, 44, 45, 46, 47, 150, 151, 152, 153, 160] (by decide +kernel) (by decide +kernel)
set_option maxRecDepth 20000 in
theorem gX8_issue_X3_issuedOf : GoodIn wsX8_issue (wsV RX8 183 RX3 yX3_issuedOf wsX3_issuedOf) := goodIn_app (goodIn_of _ (by decide +kernel)) ggX8_issue_X3_issuedOf
set_option maxRecDepth 20000 in
theorem ggX8_issue_X3_setIssued : GoodIn wsX8_issue wsX3_setIssued := goodIn_r _ [137, 132, 138, 139, 140, 45, 141, 47, 150, 151, 152, 153, 160] (by decide +kernel) (by decide +kernel)
set_option maxRecDepth 20000 in
theorem gX8_issue_X3_setIssued : GoodIn wsX8_issue (wsV RX8 187 RX3 yX3_setIssued wsX3_setIssued) := goodIn_app (goodIn_of _ (by decide +kernel)) ggX8_issue_X3_setIssued
theorem dX8_issue_0 : decode cX8_issue 0 = .ok (.aload_n 0, 1) := by decide +kernel
theorem dX8_issue_1 : decode cX8_issue 1 = .ok (.iload_n 1, 1) := by decide +kernel
theorem dX8_issue_2 : decode cX8_issue 2 = .ok (.iload_n 2, 1) := by decide +kernel
theorem dX8_issue_3 : decode cX8_issue 3 = .ok (.lload_n 3, 1) := by decide +kernel
theorem dX8_issue_4 : decode cX8_issue 4 = .ok (.invokevirtual 139, 3) := by decide +kernel
theorem dX8_issue_7 : decode cX8_issue 7 = .ok (.lstore 5, 2) := by decide +kernel
theorem dX8_issue_9 : decode cX8_issue 9 = .ok (.lload 5, 2) := by decide +kernel
theorem dX8_issue_11 : decode cX8_issue 11 = .ok (.ldc2_w 178, 3) := by decide +kernel
theorem dX8_issue_14 : decode cX8_issue 14 = .ok (.lcmp, 1) := by decide +kernel
theorem dX8_issue_15 : decode cX8_issue 15 = .ok (.ifCond .ne 7, 3) := by decide +kernel
theorem dX8_issue_18 : decode cX8_issue 18 = .ok (.ldc2_w 178, 3) := by decide +kernel
theorem dX8_issue_21 : decode cX8_issue 21 = .ok (.lreturn, 1) := by decide +kernel
theorem dX8_issue_22 : decode cX8_issue 22 = .ok (.lload 5, 2) := by decide +kernel
theorem dX8_issue_24 : decode cX8_issue 24 = .ok (.aload_n 0, 1) := by decide +kernel
theorem dX8_issue_25 : decode cX8_issue 25 = .ok (.getfield 12, 3) := by decide +kernel
theorem dX8_issue_28 : decode cX8_issue 28 = .ok (.iload_n 1, 1) := by decide +kernel
theorem dX8_issue_29 : decode cX8_issue 29 = .ok (.iload_n 2, 1) := by decide +kernel
theorem dX8_issue_30 : decode cX8_issue 30 = .ok (.invokevirtual 183, 3) := by decide +kernel
theorem dX8_issue_33 : decode cX8_issue 33 = .ok (.lsub, 1) := by decide +kernel
theorem dX8_issue_34 : decode cX8_issue 34 = .ok (.lstore 7, 2) := by decide +kernel
theorem dX8_issue_36 : decode cX8_issue 36 = .ok (.aload_n 0, 1) := by decide +kernel
theorem dX8_issue_37 : decode cX8_issue 37 = .ok (.getfield 12, 3) := by decide +kernel
theorem dX8_issue_40 : decode cX8_issue 40 = .ok (.iload_n 1, 1) := by decide +kernel
theorem dX8_issue_41 : decode cX8_issue 41 = .ok (.iload_n 2, 1) := by decide +kernel
theorem dX8_issue_42 : decode cX8_issue 42 = .ok (.lload 5, 2) := by decide +kernel
theorem dX8_issue_44 : decode cX8_issue 44 = .ok (.invokevirtual 187, 3) := by decide +kernel
theorem dX8_issue_47 : decode cX8_issue 47 = .ok (.lload 7, 2) := by decide +kernel
theorem dX8_issue_49 : decode cX8_issue 49 = .ok (.lreturn, 1) := by decide +kernel
set_option maxRecDepth 20000 in
theorem ggX8_issued_X3_has : GoodIn wsX8_issued wsX3_has := goodIn_r _ [7, 8, 32, 33, 34, 35] (by decide +kernel) (by decide +kernel)
set_option maxRecDepth 20000 in
theorem gX8_issued_X3_has : GoodIn wsX8_issued (wsV RX8 79 RX3 yX3_has wsX3_has) := goodIn_app (goodIn_of _ (by decide +kernel)) ggX8_issued_X3_has
set_option maxRecDepth 20000 in
theorem ggX8_issued_X8_isMonth : GoodIn wsX8_issued wsX8_isMonth := goodIn_r _ [12] (by decide +kernel) (by decide +kernel)
set_option maxRecDepth 20000 in
theorem gX8_issued_X8_isMonth : GoodIn wsX8_issued (va_wsS RX8 123 yX8_isMonth wsX8_isMonth) := goodIn_app (goodIn_of _ (by decide +kernel)) ggX8_issued_X8_isMonth
set_option maxRecDepth 20000 in
theorem ggX8_issued_X3_issuedOf : GoodIn wsX8_issued wsX3_issuedOf := goodIn_r _ [16, 17, 18, 19, 20, 21, 22, 23, 32, 33, 34, 35, 36] (by decide +kernel) (by decide +kernel)
set_option maxRecDepth 20000 in
theorem gX8_issued_X3_issuedOf : GoodIn wsX8_issued (wsV RX8 183 RX3 yX3_issuedOf wsX3_issuedOf) := goodIn_app (goodIn_of _ (by decide +kernel)) ggX8_issued_X3_issuedOf
theorem dX8_issued_0 : decode cX8_issued 0 = .ok (.aload_n 0, 1) := by decide +kernel
theorem dX8_issued_1 : decode cX8_issued 1 = .ok (.getfield 12, 3) := by decide +kernel
theorem dX8_issued_4 : decode cX8_issued 4 = .ok (.iload_n 1, 1) := by decide +kernel
theorem dX8_issued_5 : decode cX8_issued 5 = .ok (.invokevirtual 79, 3) := by decide +kernel
theorem dX8_issued_8 : decode cX8_issued 8 = .ok (.ifCond .eq 10, 3) := by decide +kernel
theorem dX8_issued_11 : decode cX8_issued 11 = .ok (.iload_n 2, 1) := by decide +kernel
theorem dX8_issued_12 : decode cX8_issued 12 = .ok (.invokestatic 123, 3) := by decide +kernel
theorem dX8_issued_15 : decode cX8_issued 15 = .ok (.ifCond .ne 7, 3) := by decide +kernel
theorem dX8_issued_18 : decode cX8_issued 18 = .ok (.ldc2_w 178, 3) := by decide +kernel
theorem dX8_issued_21 : decode cX8_issued 21 = .ok (.lreturn, 1) := by decide +kernel
theorem dX8_issued_22 : decode cX8_issued 22 = .ok (.aload_n 0, 1) := by decide +kernel
theorem dX8_issued_23 : decode cX8_issued 23 = .ok (.getfield 12, 3) := by decide +kernel
theorem dX8_issued_26 : decode cX8_issued 26 = .ok (.iload_n 1, 1) := by decide +kernel
theorem dX8_issued_27 : decode cX8_issued 27 = .ok (.iload_n 2, 1) := by decide +kernel
theorem dX8_issued_28 : decode cX8_issued 28 = .ok (.invokevirtual 183, 3) := by decide +kernel
theorem dX8_issued_31 : decode cX8_issued 31 = .ok (.lreturn, 1) := by decide +kernel
set_option maxRecDepth 20000 in
theorem ggX8_reverse_X3_has : GoodIn wsX8_reverse wsX3_has := goodIn_r _ [7, 8, 40, 41, 42, 43] (by decide +kernel) (by decide +kernel)
set_option maxRecDepth 20000 in
theorem gX8_reverse_X3_has : GoodIn wsX8_reverse (wsV RX8 79 RX3 yX3_has wsX3_has) := goodIn_app (goodIn_of _ (by decide +kernel)) ggX8_reverse_X3_has
set_option maxRecDepth 20000 in
theorem ggX8_reverse_X8_isMonth : GoodIn wsX8_reverse wsX8_isMonth := goodIn_r _ [12] (by decide +kernel) (by decide +kernel)
set_option maxRecDepth 20000 in
theorem gX8_reverse_X8_isMonth : GoodIn wsX8_reverse (va_wsS RX8 123 yX8_isMonth wsX8_isMonth) := goodIn_app (goodIn_of _ (by decide +kernel)) ggX8_reverse_X8_isMonth
set_option maxRecDepth 20000 in
theorem ggX8_reverse_X3_issuedOf : GoodIn wsX8_reverse wsX3_issuedOf := goodIn_r _ [16, 17, 18, 19, 20, 21, 22, 23, 40, 41, 42, 43, 44] (by decide +kernel) (by decide +kernel)
set_option maxRecDepth 20000 in
theorem gX8_reverse_X3_issuedOf : GoodIn wsX8_reverse (wsV RX8 183 RX3 yX3_issuedOf wsX3_issuedOf) := goodIn_app (goodIn_of _ (by decide +kernel)) ggX8_reverse_X3_issuedOf
set_option maxRecDepth 20000 in
theorem ggX8_reverse_X3_setIssued : GoodIn wsX8_reverse wsX3_setIssued := goodIn_r _ [27, 17, 28, 29, 30, 21, 31, 23, 40, 41, 42, 43, 44] (by decide +kernel) (by decide +kernel)
set_option maxRecDepth 20000 in
theorem gX8_reverse_X3_setIssued : GoodIn wsX8_reverse (wsV RX8 187 RX3 yX3_setIssued wsX3_setIssued) := goodIn_app (goodIn_of _ (by decide +kernel)) ggX8_reverse_X3_setIssued
theorem dX8_reverse_0 : decode cX8_reverse 0 = .ok (.aload_n 0, 1) := by decide +kernel
theorem dX8_reverse_1 : decode cX8_reverse 1 = .ok (.getfield 12, 3) := by decide +kernel
theorem dX8_reverse_4 : decode cX8_reverse 4 = .ok (.iload_n 1, 1) := by decide +kernel
theorem dX8_reverse_5 : decode cX8_reverse 5 = .ok (.invokevirtual 79, 3) := by decide +kernel
theorem dX8_reverse_8 : decode cX8_reverse 8 = .ok (.ifCond .eq 10, 3) := by decide +kernel
theorem dX8_reverse_11 : decode cX8_reverse 11 = .ok (.iload_n 2, 1) := by decide +kernel
theorem dX8_reverse_12 : decode cX8_reverse 12 = .ok (.invokestatic 123, 3) := by decide +kernel
theorem dX8_reverse_15 : decode cX8_reverse 15 = .ok (.ifCond .ne 7, 3) := by decide +kernel
theorem dX8_reverse_18 : decode cX8_reverse 18 = .ok (.ldc2_w 178, 3) := by decide +kernel
theorem dX8_reverse_21 : decode cX8_reverse 21 = .ok (.lreturn, 1) := by decide +kernel
theorem dX8_reverse_22 : decode cX8_reverse 22 = .ok (.aload_n 0, 1) := by decide +kernel
theorem dX8_reverse_23 : decode cX8_reverse 23 = .ok (.getfield 12, 3) := by decide +kernel
theorem dX8_reverse_26 : decode cX8_reverse 26 = .ok (.iload_n 1, 1) := by decide +kernel
theorem dX8_reverse_27 : decode cX8_reverse 27 = .ok (.iload_n 2, 1) := by decide +kernel
theorem dX8_reverse_28 : decode cX8_reverse 28 = .ok (.invokevirtual 183, 3) := by decide +kernel
theorem dX8_reverse_31 : decode cX8_reverse 31 = .ok (.lstore_n 3, 1) := by decide +kernel
theorem dX8_reverse_32 : decode cX8_reverse 32 = .ok (.aload_n 0, 1) := by decide +kernel
theorem dX8_reverse_33 : decode cX8_reverse 33 = .ok (.getfield 12, 3) := by decide +kernel
theorem dX8_reverse_36 : decode cX8_reverse 36 = .ok (.iload_n 1, 1) := by decide +kernel
theorem dX8_reverse_37 : decode cX8_reverse 37 = .ok (.iload_n 2, 1) := by decide +kernel
theorem dX8_reverse_38 : decode cX8_reverse 38 = .ok (.lconst 0, 1) := by decide +kernel
theorem dX8_reverse_39 : decode cX8_reverse 39 = .ok (.invokevirtual 187, 3) := by decide +kernel
theorem dX8_reverse_42 : decode cX8_reverse 42 = .ok (.lload_n 3, 1) := by decide +kernel
theorem dX8_reverse_43 : decode cX8_reverse 43 = .ok (.lneg, 1) := by decide +kernel
theorem dX8_reverse_44 : decode cX8_reverse 44 = .ok (.lreturn, 1) := by decide +kernel
theorem dX8_isKind_0 : decode cX8_isKind 0 = .ok (.iload_n 0, 1) := by decide +kernel
theorem dX8_isKind_1 : decode cX8_isKind 1 = .ok (.ifCond .lt 13, 3) := by decide +kernel
theorem dX8_isKind_4 : decode cX8_isKind 4 = .ok (.iload_n 0, 1) := by decide +kernel
theorem dX8_isKind_5 : decode cX8_isKind 5 = .ok (.bipush 6, 2) := by decide +kernel
theorem dX8_isKind_7 : decode cX8_isKind 7 = .ok (.if_icmp .ge 7, 3) := by decide +kernel
theorem dX8_isKind_10 : decode cX8_isKind 10 = .ok (.iconst 1, 1) := by decide +kernel
theorem dX8_isKind_11 : decode cX8_isKind 11 = .ok (.goto 4, 3) := by decide +kernel
theorem dX8_isKind_14 : decode cX8_isKind 14 = .ok (.iconst 0, 1) := by decide +kernel
theorem dX8_isKind_15 : decode cX8_isKind 15 = .ok (.ireturn, 1) := by decide +kernel
theorem dX8_isDay_0 : decode cX8_isDay 0 = .ok (.lload_n 0, 1) := by decide +kernel
theorem dX8_isDay_1 : decode cX8_isDay 1 = .ok (.lconst 0, 1) := by decide +kernel
theorem dX8_isDay_2 : decode cX8_isDay 2 = .ok (.lcmp, 1) := by decide +kernel
theorem dX8_isDay_3 : decode cX8_isDay 3 = .ok (.ifCond .lt 15, 3) := by decide +kernel
theorem dX8_isDay_6 : decode cX8_isDay 6 = .ok (.lload_n 0, 1) := by decide +kernel
theorem dX8_isDay_7 : decode cX8_isDay 7 = .ok (.ldc2_w 191, 3) := by decide +kernel
theorem dX8_isDay_10 : decode cX8_isDay 10 = .ok (.lcmp, 1) := by decide +kernel
theorem dX8_isDay_11 : decode cX8_isDay 11 = .ok (.ifCond .ge 7, 3) := by decide +kernel
theorem dX8_isDay_14 : decode cX8_isDay 14 = .ok (.iconst 1, 1) := by decide +kernel
theorem dX8_isDay_15 : decode cX8_isDay 15 = .ok (.goto 4, 3) := by decide +kernel
theorem dX8_isDay_18 : decode cX8_isDay 18 = .ok (.iconst 0, 1) := by decide +kernel
theorem dX8_isDay_19 : decode cX8_isDay 19 = .ok (.ireturn, 1) := by decide +kernel
theorem dX8_isMonth_0 : decode cX8_isMonth 0 = .ok (.iload_n 0, 1) := by decide +kernel
theorem dX8_isMonth_1 : decode cX8_isMonth 1 = .ok (.ifCond .lt 13, 3) := by decide +kernel
theorem dX8_isMonth_4 : decode cX8_isMonth 4 = .ok (.iload_n 0, 1) := by decide +kernel
theorem dX8_isMonth_5 : decode cX8_isMonth 5 = .ok (.bipush 120, 2) := by decide +kernel
theorem dX8_isMonth_7 : decode cX8_isMonth 7 = .ok (.if_icmp .ge 7, 3) := by decide +kernel
theorem dX8_isMonth_10 : decode cX8_isMonth 10 = .ok (.iconst 1, 1) := by decide +kernel
theorem dX8_isMonth_11 : decode cX8_isMonth 11 = .ok (.goto 4, 3) := by decide +kernel
theorem dX8_isMonth_14 : decode cX8_isMonth 14 = .ok (.iconst 0, 1) := by decide +kernel
theorem dX8_isMonth_15 : decode cX8_isMonth 15 = .ok (.ireturn, 1) := by decide +kernel
set_option maxRecDepth 20000 in
theorem ggX8_isAskable_X3_has : GoodIn wsX8_isAskable wsX3_has := goodIn_r _ [6, 7, 24, 25, 26, 27] (by decide +kernel) (by decide +kernel)
set_option maxRecDepth 20000 in
theorem gX8_isAskable_X3_has : GoodIn wsX8_isAskable (wsV RX8 79 RX3 yX3_has wsX3_has) := goodIn_app (goodIn_of _ (by decide +kernel)) ggX8_isAskable_X3_has
set_option maxRecDepth 20000 in
theorem ggX8_isAskable_X8_isMonth : GoodIn wsX8_isAskable wsX8_isMonth := goodIn_r _ [11] (by decide +kernel) (by decide +kernel)
set_option maxRecDepth 20000 in
theorem gX8_isAskable_X8_isMonth : GoodIn wsX8_isAskable (va_wsS RX8 123 yX8_isMonth wsX8_isMonth) := goodIn_app (goodIn_of _ (by decide +kernel)) ggX8_isAskable_X8_isMonth
set_option maxRecDepth 20000 in
theorem ggX8_isAskable_X8_isDay : GoodIn wsX8_isAskable wsX8_isDay := goodIn_r _ [14, 15] (by decide +kernel) (by decide +kernel)
set_option maxRecDepth 20000 in
theorem gX8_isAskable_X8_isDay : GoodIn wsX8_isAskable (va_wsS RX8 86 yX8_isDay wsX8_isDay) := goodIn_app (goodIn_of _ (by decide +kernel)) ggX8_isAskable_X8_isDay
theorem dX8_isAskable_0 : decode cX8_isAskable 0 = .ok (.aload_n 0, 1) := by decide +kernel
theorem dX8_isAskable_1 : decode cX8_isAskable 1 = .ok (.getfield 12, 3) := by decide +kernel
theorem dX8_isAskable_4 : decode cX8_isAskable 4 = .ok (.iload_n 1, 1) := by decide +kernel
theorem dX8_isAskable_5 : decode cX8_isAskable 5 = .ok (.invokevirtual 79, 3) := by decide +kernel
theorem dX8_isAskable_8 : decode cX8_isAskable 8 = .ok (.ifCond .eq 21, 3) := by decide +kernel
theorem dX8_isAskable_11 : decode cX8_isAskable 11 = .ok (.iload_n 2, 1) := by decide +kernel
theorem dX8_isAskable_12 : decode cX8_isAskable 12 = .ok (.invokestatic 123, 3) := by decide +kernel
theorem dX8_isAskable_15 : decode cX8_isAskable 15 = .ok (.ifCond .eq 14, 3) := by decide +kernel
theorem dX8_isAskable_18 : decode cX8_isAskable 18 = .ok (.lload_n 3, 1) := by decide +kernel
theorem dX8_isAskable_19 : decode cX8_isAskable 19 = .ok (.invokestatic 86, 3) := by decide +kernel
theorem dX8_isAskable_22 : decode cX8_isAskable 22 = .ok (.ifCond .eq 7, 3) := by decide +kernel
theorem dX8_isAskable_25 : decode cX8_isAskable 25 = .ok (.iconst 1, 1) := by decide +kernel
theorem dX8_isAskable_26 : decode cX8_isAskable 26 = .ok (.goto 4, 3) := by decide +kernel
theorem dX8_isAskable_29 : decode cX8_isAskable 29 = .ok (.iconst 0, 1) := by decide +kernel
theorem dX8_isAskable_30 : decode cX8_isAskable 30 = .ok (.ireturn, 1) := by decide +kernel
set_option maxRecDepth 20000 in
theorem ggX8_billOf_X8_isAskable : GoodIn wsX8_billOf wsX8_isAskable := goodIn_r _ [9, 10, 11, 12, 13, 14, 15, 16, 17, 18, 8, 19, 20, 21, 22, 23, 124, 125, 126, 127, 128, 129, 130, 131, 132, 133, 134, 135] (by decide +kernel) (by decide +kernel)
set_option maxRecDepth 20000 in
theorem gX8_billOf_X8_isAskable : GoodIn wsX8_billOf (wsV RX8 143 RX8 yX8_isAskable wsX8_isAskable) := goodIn_app (goodIn_of _ (by decide +kernel)) ggX8_billOf_X8_isAskable
set_option maxRecDepth 20000 in
theorem ggX8_billOf_X1_count : GoodIn wsX8_billOf wsX1_count := goodIn_r _ [28, 29, 136, 137, 138, 139, 140, 141] (by decide +kernel) (by decide +kernel)
set_option maxRecDepth 20000 in
theorem gX8_billOf_X1_count : GoodIn wsX8_billOf (wsV RX8 148 RX1 yX1_count wsX1_count) := goodIn_app (goodIn_of _ (by decide +kernel)) ggX8_billOf_X1_count
set_option maxRecDepth 20000 in
theorem ggX8_billOf_X1_isOf : GoodIn wsX8_billOf wsX1_isOf := goodIn_r _ [33, 34, 35, 36, 37, 38, 39, 40, 41, 42, 43, 136, 137, 138, 139, 140, 141, 142] (by decide +kernel) (by decide +kernel)
set_option maxRecDepth 20000 in
theorem gX8_billOf_X1_isOf : GoodIn wsX8_billOf (wsV RX8 151 RX1 yX1_isOf wsX1_isOf) := goodIn_app (goodIn_of _ (by decide +kernel)) ggX8_billOf_X1_isOf
set_option maxRecDepth 20000 in
theorem ggX8_billOf_X8_editionOf : GoodIn wsX8_billOf wsX8_editionOf := goodIn_r _ [47, 48, 2, 49, 50, 51, 8, 52, 53, 54, 55, 56, 27, 57, 34, 38, 39, 40, 41, 42, 43, 58, 59, 60, 61, 62, 63, 64, 65, 66, 35, 67, 68, 69, 70, 71, 72, 73, 74, 75, 76, 77, 78, 79, 80, 81, 82, 83, 84, 85, 86, 124, 125, 126, 127, 128, 129, 130, 131, 136, 137, 138, 139, 140, 141, 142, 143, 144, 145, 146, 147, 148, 149, 150, 151, 152, 153, 154, 155, 156, 157, 158, 159] (by decide +kernel) (by decide +kernel)
set_option maxRecDepth 20000 in
theorem gX8_billOf_X8_editionOf : GoodIn wsX8_billOf (wsV RX8 193 RX8 yX8_editionOf wsX8_editionOf) := goodIn_app (goodIn_of _ (by decide +kernel)) ggX8_billOf_X8_editionOf
set_option maxRecDepth 20000 in
theorem ggX8_billOf_X8_centsOf : GoodIn wsX8_billOf wsX8_centsOf := goodIn_r _ [90, 48, 2, 49, 50, 51, 8, 52, 53, 54, 55, 56, 27, 57, 34, 38, 39, 40, 41, 42, 43, 58, 59, 60, 61, 62, 63, 64, 65, 66, 35, 67, 68, 69, 70, 71, 72, 73, 74, 75, 76, 77, 91, 92, 93, 94, 95, 96, 97, 98, 81, 99, 100, 101, 102, 103, 104, 105, 106, 107, 108, 109, 110, 83, 111, 112, 113, 86, 114, 115, 116, 117, 118, 119, 120, 121, 122, 124, 125, 126, 127, 128, 129, 130, 131, 136, 137, 138, 139, 140, 141, 142, 143, 144, 145, 146, 147, 148, 149, 150, 151, 152, 153, 154, 155, 156, 157, 158, 159] (by decide +kernel) (by decide +kernel)
set_option maxRecDepth 20000 in
theorem gX8_billOf_X8_centsOf : GoodIn wsX8_billOf (wsV RX8 196 RX8 yX8_centsOf wsX8_centsOf) := goodIn_app (goodIn_of _ (by decide +kernel)) ggX8_billOf_X8_centsOf
set_option maxRecDepth 20000 in
theorem ggX8_billOf_X5_get : GoodIn wsX8_billOf wsX5_get := goodIn_r _ [42, 43, 142] (by decide +kernel) (by decide +kernel)
set_option maxRecDepth 20000 in
theorem gX8_billOf_X5_get : GoodIn wsX8_billOf (wsV RX8 198 RX5 yX5_get wsX5_get) := goodIn_app (goodIn_of _ (by decide +kernel)) ggX8_billOf_X5_get
theorem dX8_billOf_0 : decode cX8_billOf 0 = .ok (.aload_n 0, 1) := by decide +kernel
theorem dX8_billOf_1 : decode cX8_billOf 1 = .ok (.iload_n 1, 1) := by decide +kernel
theorem dX8_billOf_2 : decode cX8_billOf 2 = .ok (.iload_n 2, 1) := by decide +kernel
theorem dX8_billOf_3 : decode cX8_billOf 3 = .ok (.lload_n 3, 1) := by decide +kernel
theorem dX8_billOf_4 : decode cX8_billOf 4 = .ok (.invokevirtual 143, 3) := by decide +kernel
theorem dX8_billOf_7 : decode cX8_billOf 7 = .ok (.ifCond .ne 7, 3) := by decide +kernel
theorem dX8_billOf_10 : decode cX8_billOf 10 = .ok (.ldc2_w 178, 3) := by decide +kernel
theorem dX8_billOf_13 : decode cX8_billOf 13 = .ok (.lreturn, 1) := by decide +kernel
theorem dX8_billOf_14 : decode cX8_billOf 14 = .ok (.lconst 0, 1) := by decide +kernel
theorem dX8_billOf_15 : decode cX8_billOf 15 = .ok (.lstore 5, 2) := by decide +kernel
theorem dX8_billOf_17 : decode cX8_billOf 17 = .ok (.iconst 0, 1) := by decide +kernel
theorem dX8_billOf_18 : decode cX8_billOf 18 = .ok (.istore 7, 2) := by decide +kernel
theorem dX8_billOf_20 : decode cX8_billOf 20 = .ok (.iload 7, 2) := by decide +kernel
theorem dX8_billOf_22 : decode cX8_billOf 22 = .ok (.aload_n 0, 1) := by decide +kernel
theorem dX8_billOf_23 : decode cX8_billOf 23 = .ok (.getfield 19, 3) := by decide +kernel
theorem dX8_billOf_26 : decode cX8_billOf 26 = .ok (.invokevirtual 148, 3) := by decide +kernel
theorem dX8_billOf_29 : decode cX8_billOf 29 = .ok (.if_icmp .ge 59, 3) := by decide +kernel
theorem dX8_billOf_32 : decode cX8_billOf 32 = .ok (.aload_n 0, 1) := by decide +kernel
theorem dX8_billOf_33 : decode cX8_billOf 33 = .ok (.getfield 19, 3) := by decide +kernel
theorem dX8_billOf_36 : decode cX8_billOf 36 = .ok (.iload 7, 2) := by decide +kernel
theorem dX8_billOf_38 : decode cX8_billOf 38 = .ok (.iload_n 1, 1) := by decide +kernel
theorem dX8_billOf_39 : decode cX8_billOf 39 = .ok (.iload_n 2, 1) := by decide +kernel
theorem dX8_billOf_40 : decode cX8_billOf 40 = .ok (.lload_n 3, 1) := by decide +kernel
theorem dX8_billOf_41 : decode cX8_billOf 41 = .ok (.invokevirtual 151, 3) := by decide +kernel
theorem dX8_billOf_44 : decode cX8_billOf 44 = .ok (.ifCond .eq 38, 3) := by decide +kernel
theorem dX8_billOf_47 : decode cX8_billOf 47 = .ok (.aload_n 0, 1) := by decide +kernel
theorem dX8_billOf_48 : decode cX8_billOf 48 = .ok (.iload 7, 2) := by decide +kernel
theorem dX8_billOf_50 : decode cX8_billOf 50 = .ok (.aload_n 0, 1) := by decide +kernel
theorem dX8_billOf_51 : decode cX8_billOf 51 = .ok (.iload 7, 2) := by decide +kernel
theorem dX8_billOf_53 : decode cX8_billOf 53 = .ok (.lload_n 3, 1) := by decide +kernel
theorem dX8_billOf_54 : decode cX8_billOf 54 = .ok (.invokevirtual 193, 3) := by decide +kernel
theorem dX8_billOf_57 : decode cX8_billOf 57 = .ok (.invokevirtual 196, 3) := by decide +kernel
theorem dX8_billOf_60 : decode cX8_billOf 60 = .ok (.lstore 8, 2) := by decide +kernel
theorem dX8_billOf_62 : decode cX8_billOf 62 = .ok (.lload 8, 2) := by decide +kernel
theorem dX8_billOf_64 : decode cX8_billOf 64 = .ok (.ldc2_w 62, 3) := by decide +kernel
theorem dX8_billOf_67 : decode cX8_billOf 67 = .ok (.lcmp, 1) := by decide +kernel
theorem dX8_billOf_68 : decode cX8_billOf 68 = .ok (.ifCond .ne 7, 3) := by decide +kernel
theorem dX8_billOf_71 : decode cX8_billOf 71 = .ok (.ldc2_w 178, 3) := by decide +kernel
theorem dX8_billOf_74 : decode cX8_billOf 74 = .ok (.lreturn, 1) := by decide +kernel
theorem dX8_billOf_75 : decode cX8_billOf 75 = .ok (.lload 5, 2) := by decide +kernel
theorem dX8_billOf_77 : decode cX8_billOf 77 = .ok (.lload 8, 2) := by decide +kernel
theorem dX8_billOf_79 : decode cX8_billOf 79 = .ok (.ladd, 1) := by decide +kernel
theorem dX8_billOf_80 : decode cX8_billOf 80 = .ok (.lstore 5, 2) := by decide +kernel
theorem dX8_billOf_82 : decode cX8_billOf 82 = .ok (.iinc 7 1, 3) := by decide +kernel
theorem dX8_billOf_85 : decode cX8_billOf 85 = .ok (.goto (-65), 3) := by decide +kernel
theorem dX8_billOf_88 : decode cX8_billOf 88 = .ok (.aload_n 0, 1) := by decide +kernel
theorem dX8_billOf_89 : decode cX8_billOf 89 = .ok (.getfield 58, 3) := by decide +kernel
theorem dX8_billOf_92 : decode cX8_billOf 92 = .ok (.iload_n 2, 1) := by decide +kernel
theorem dX8_billOf_93 : decode cX8_billOf 93 = .ok (.invokevirtual 198, 3) := by decide +kernel
theorem dX8_billOf_96 : decode cX8_billOf 96 = .ok (.lstore 7, 2) := by decide +kernel
theorem dX8_billOf_98 : decode cX8_billOf 98 = .ok (.lload 7, 2) := by decide +kernel
theorem dX8_billOf_100 : decode cX8_billOf 100 = .ok (.ldc2_w 62, 3) := by decide +kernel
theorem dX8_billOf_103 : decode cX8_billOf 103 = .ok (.lcmp, 1) := by decide +kernel
theorem dX8_billOf_104 : decode cX8_billOf 104 = .ok (.ifCond .eq 16, 3) := by decide +kernel
theorem dX8_billOf_107 : decode cX8_billOf 107 = .ok (.lload 5, 2) := by decide +kernel
theorem dX8_billOf_109 : decode cX8_billOf 109 = .ok (.lload 7, 2) := by decide +kernel
theorem dX8_billOf_111 : decode cX8_billOf 111 = .ok (.lcmp, 1) := by decide +kernel
theorem dX8_billOf_112 : decode cX8_billOf 112 = .ok (.ifCond .le 8, 3) := by decide +kernel
theorem dX8_billOf_115 : decode cX8_billOf 115 = .ok (.lload 7, 2) := by decide +kernel
theorem dX8_billOf_117 : decode cX8_billOf 117 = .ok (.goto 5, 3) := by decide +kernel
theorem dX8_billOf_120 : decode cX8_billOf 120 = .ok (.lload 5, 2) := by decide +kernel
theorem dX8_billOf_122 : decode cX8_billOf 122 = .ok (.lreturn, 1) := by decide +kernel
set_option maxRecDepth 20000 in
theorem ggX8_hold_X8_editionOf : GoodIn wsX8_hold wsX8_editionOf := goodIn_r _ [7, 8, 2, 9, 10, 11, 6, 12, 13, 14, 15, 16, 17, 18, 19, 20, 21, 22, 23, 24, 25, 26, 27, 28, 29, 30, 31, 32, 33, 34, 35, 36, 37, 38, 39, 40, 41, 42, 43, 44, 45, 46, 47, 48, 49, 50, 51, 52, 53, 54, 55, 128, 129, 130, 131, 132, 133, 134, 135, 136, 137, 138, 139, 140, 141, 142, 143, 144, 145, 146, 147, 148, 149, 150, 151, 152, 153, 154, 155, 156, 157, 158, 159] (by decide +kernel) (by decide +kernel)
set_option maxRecDepth 20000 in
theorem gX8_hold_X8_editionOf : GoodIn wsX8_hold (wsV RX8 193 RX8 yX8_editionOf wsX8_editionOf) := goodIn_app (goodIn_of _ (by decide +kernel)) ggX8_hold_X8_editionOf
set_option maxRecDepth 20000 in
theorem ggX8_hold_X8_centsOf : GoodIn wsX8_hold wsX8_centsOf := goodIn_r _ [59, 8, 2, 9, 10, 11, 6, 12, 13, 14, 15, 16, 17, 18, 19, 20, 21, 22, 23, 24, 25, 26, 27, 28, 29, 30, 31, 32, 33, 34, 35, 36, 37, 38, 39, 40, 41, 42, 43, 44, 45, 46, 60, 61, 62, 63, 64, 65, 66, 67, 50, 68, 69, 70, 71, 72, 73, 74, 75, 76, 77, 78, 79, 52, 80, 81, 82, 55, 83, 84, 85, 86, 87, 88, 89, 90, 91, 128, 129, 130, 131, 132, 133, 134, 135, 136, 137, 138, 139, 140, 141, 142, 143, 144, 145, 146, 147, 148, 149, 150, 151, 152, 153, 154, 155, 156, 157, 158, 159] (by decide +kernel) (by decide +kernel)
set_option maxRecDepth 20000 in
theorem gX8_hold_X8_centsOf : GoodIn wsX8_hold (wsV RX8 196 RX8 yX8_centsOf wsX8_centsOf) := goodIn_app (goodIn_of _ (by decide +kernel)) ggX8_hold_X8_centsOf
set_option maxRecDepth 20000 in
theorem ggX8_hold_X8_lackOf : GoodIn wsX8_hold wsX8_lackOf := goodIn_r _ [95, 96, 8, 2, 26, 27, 28, 17, 29, 30, 20, 21, 22, 23, 24, 25, 97, 73, 74, 50, 75, 70, 69, 76, 77, 78, 79, 52, 80, 81, 82, 55, 128, 129, 130, 131, 132, 133, 134, 135, 136, 137, 138, 139, 140, 141, 142, 148, 149, 150, 151, 152, 153, 154, 155, 156, 157, 158, 159] (by decide +kernel) (by decide +kernel)
set_option maxRecDepth 20000 in
theorem gX8_hold_X8_lackOf : GoodIn wsX8_hold (wsV RX8 201 RX8 yX8_lackOf wsX8_lackOf) := goodIn_app (goodIn_of _ (by decide +kernel)) ggX8_hold_X8_lackOf
set_option maxRecDepth 20000 in
theorem ggX8_hold_X2_add : GoodIn wsX8_hold wsX2_add := goodIn_r _ [102, 103, 104, 105, 106, 107, 108, 109, 110, 23, 111, 25, 160, 161, 162, 163, 164, 165, 166, 142] (by decide +kernel) (by decide +kernel)
set_option maxRecDepth 20000 in
theorem gX8_hold_X2_add : GoodIn wsX8_hold (wsV RX8 204 RX2 yX2_add wsX2_add) := goodIn_app (goodIn_of _ (by decide +kernel)) ggX8_hold_X2_add
set_option maxRecDepth 20000 in
theorem ggX8_hold_X1_kindOf : GoodIn wsX8_hold wsX1_kindOf := goodIn_r _ [29, 30, 20, 21, 22, 23, 24, 25, 136, 137, 138, 139, 140, 141, 142] (by decide +kernel) (by decide +kernel)
set_option maxRecDepth 20000 in
theorem gX8_hold_X1_kindOf : GoodIn wsX8_hold (wsV RX8 207 RX1 yX1_kindOf wsX1_kindOf) := goodIn_app (goodIn_of _ (by decide +kernel)) ggX8_hold_X1_kindOf
set_option maxRecDepth 20000 in
theorem ggX8_hold_X1_measureOf : GoodIn wsX8_hold wsX1_measureOf := goodIn_r _ [63, 64, 20, 21, 22, 23, 24, 25, 136, 137, 138, 139, 140, 141, 142] (by decide +kernel) (by decide +kernel)
set_option maxRecDepth 20000 in
theorem gX8_hold_X1_measureOf : GoodIn wsX8_hold (wsV RX8 210 RX1 yX1_measureOf wsX1_measureOf) := goodIn_app (goodIn_of _ (by decide +kernel)) ggX8_hold_X1_measureOf
set_option maxRecDepth 20000 in
theorem ggX8_hold_X2_print : GoodIn wsX8_hold wsX2_print := goodIn_r _ [115, 116, 117, 118, 119, 101, 120, 121, 122, 123, 124, 125, 126, 127, 108, 109, 110, 23, 111, 25, 160, 161, 162, 163, 164, 165, 166, 142] (by decide +kernel) (by decide +kernel)
set_option maxRecDepth 20000 in
theorem gX8_hold_X2_print : GoodIn wsX8_hold (wsV RX8 213 RX2 yX2_print wsX2_print) := goodIn_app (goodIn_of _ (by decide +kernel)) ggX8_hold_X2_print
theorem dX8_hold_0 : decode cX8_hold 0 = .ok (.aload_n 0, 1) := by decide +kernel
theorem dX8_hold_1 : decode cX8_hold 1 = .ok (.iload_n 1, 1) := by decide +kernel
theorem dX8_hold_2 : decode cX8_hold 2 = .ok (.lload_n 2, 1) := by decide +kernel
theorem dX8_hold_3 : decode cX8_hold 3 = .ok (.invokevirtual 193, 3) := by decide +kernel
theorem dX8_hold_6 : decode cX8_hold 6 = .ok (.istore 4, 2) := by decide +kernel
theorem dX8_hold_8 : decode cX8_hold 8 = .ok (.aload_n 0, 1) := by decide +kernel
theorem dX8_hold_9 : decode cX8_hold 9 = .ok (.iload_n 1, 1) := by decide +kernel
theorem dX8_hold_10 : decode cX8_hold 10 = .ok (.iload 4, 2) := by decide +kernel
theorem dX8_hold_12 : decode cX8_hold 12 = .ok (.invokevirtual 196, 3) := by decide +kernel
theorem dX8_hold_15 : decode cX8_hold 15 = .ok (.lstore 5, 2) := by decide +kernel
theorem dX8_hold_17 : decode cX8_hold 17 = .ok (.aload_n 0, 1) := by decide +kernel
theorem dX8_hold_18 : decode cX8_hold 18 = .ok (.getfield 71, 3) := by decide +kernel
theorem dX8_hold_21 : decode cX8_hold 21 = .ok (.iload_n 1, 1) := by decide +kernel
theorem dX8_hold_22 : decode cX8_hold 22 = .ok (.lload 5, 2) := by decide +kernel
theorem dX8_hold_24 : decode cX8_hold 24 = .ok (.iload 4, 2) := by decide +kernel
theorem dX8_hold_26 : decode cX8_hold 26 = .ok (.aload_n 0, 1) := by decide +kernel
theorem dX8_hold_27 : decode cX8_hold 27 = .ok (.iload_n 1, 1) := by decide +kernel
theorem dX8_hold_28 : decode cX8_hold 28 = .ok (.iload 4, 2) := by decide +kernel
theorem dX8_hold_30 : decode cX8_hold 30 = .ok (.lload 5, 2) := by decide +kernel
theorem dX8_hold_32 : decode cX8_hold 32 = .ok (.invokevirtual 201, 3) := by decide +kernel
theorem dX8_hold_35 : decode cX8_hold 35 = .ok (.invokevirtual 204, 3) := by decide +kernel
theorem dX8_hold_38 : decode cX8_hold 38 = .ok (.aload_n 0, 1) := by decide +kernel
theorem dX8_hold_39 : decode cX8_hold 39 = .ok (.getfield 71, 3) := by decide +kernel
theorem dX8_hold_42 : decode cX8_hold 42 = .ok (.aload_n 0, 1) := by decide +kernel
theorem dX8_hold_43 : decode cX8_hold 43 = .ok (.getfield 19, 3) := by decide +kernel
theorem dX8_hold_46 : decode cX8_hold 46 = .ok (.iload_n 1, 1) := by decide +kernel
theorem dX8_hold_47 : decode cX8_hold 47 = .ok (.invokevirtual 207, 3) := by decide +kernel
theorem dX8_hold_50 : decode cX8_hold 50 = .ok (.aload_n 0, 1) := by decide +kernel
theorem dX8_hold_51 : decode cX8_hold 51 = .ok (.getfield 19, 3) := by decide +kernel
theorem dX8_hold_54 : decode cX8_hold 54 = .ok (.iload_n 1, 1) := by decide +kernel
theorem dX8_hold_55 : decode cX8_hold 55 = .ok (.invokevirtual 210, 3) := by decide +kernel
theorem dX8_hold_58 : decode cX8_hold 58 = .ok (.lload 5, 2) := by decide +kernel
theorem dX8_hold_60 : decode cX8_hold 60 = .ok (.invokevirtual 213, 3) := by decide +kernel
theorem dX8_hold_63 : decode cX8_hold 63 = .ok (.return_, 1) := by decide +kernel
set_option maxRecDepth 20000 in
theorem ggX8_isRelieved_X1_houseOf : GoodIn wsX8_isRelieved wsX1_houseOf := goodIn_r _ [7, 8, 9, 10, 11, 12, 13, 14, 44, 45, 46, 47, 48, 49, 50] (by decide +kernel) (by decide +kernel)
set_option maxRecDepth 20000 in
theorem gX8_isRelieved_X1_houseOf : GoodIn wsX8_isRelieved (wsV RX8 217 RX1 yX1_houseOf wsX1_houseOf) := goodIn_app (goodIn_of _ (by decide +kernel)) ggX8_isRelieved_X1_houseOf
set_option maxRecDepth 20000 in
theorem ggX8_isRelieved_X1_kindOf : GoodIn wsX8_isRelieved wsX1_kindOf := goodIn_r _ [18, 19, 9, 10, 11, 12, 13, 14, 44, 45, 46, 47, 48, 49, 50] (by decide +kernel) (by decide +kernel)
set_option maxRecDepth 20000 in
theorem gX8_isRelieved_X1_kindOf : GoodIn wsX8_isRelieved (wsV RX8 207 RX1 yX1_kindOf wsX1_kindOf) := goodIn_app (goodIn_of _ (by decide +kernel)) ggX8_isRelieved_X1_kindOf
set_option maxRecDepth 20000 in
theorem ggX8_isRelieved_X1_dayOf : GoodIn wsX8_isRelieved wsX1_dayOf := goodIn_r _ [23, 24, 9, 10, 11, 12, 13, 14, 44, 45, 46, 47, 48, 49, 50] (by decide +kernel) (by decide +kernel)
set_option maxRecDepth 20000 in
theorem gX8_isRelieved_X1_dayOf : GoodIn wsX8_isRelieved (wsV RX8 220 RX1 yX1_dayOf wsX1_dayOf) := goodIn_app (goodIn_of _ (by decide +kernel)) ggX8_isRelieved_X1_dayOf
set_option maxRecDepth 20000 in
theorem ggX8_isRelieved_X4_relieve : GoodIn wsX8_isRelieved wsX4_relieve := goodIn_r _ [29, 30, 31, 32, 33, 34, 35, 10, 11, 12, 13, 14, 51, 52, 53, 54, 55, 50] (by decide +kernel) (by decide +kernel)
set_option maxRecDepth 20000 in
theorem gX8_isRelieved_X4_relieve : GoodIn wsX8_isRelieved (wsV RX8 223 RX4 yX4_relieve wsX4_relieve) := goodIn_app (goodIn_of _ (by decide +kernel)) ggX8_isRelieved_X4_relieve
theorem dX8_isRelieved_0 : decode cX8_isRelieved 0 = .ok (.aload_n 0, 1) := by decide +kernel
theorem dX8_isRelieved_1 : decode cX8_isRelieved 1 = .ok (.getfield 49, 3) := by decide +kernel
theorem dX8_isRelieved_4 : decode cX8_isRelieved 4 = .ok (.aload_n 0, 1) := by decide +kernel
theorem dX8_isRelieved_5 : decode cX8_isRelieved 5 = .ok (.getfield 19, 3) := by decide +kernel
theorem dX8_isRelieved_8 : decode cX8_isRelieved 8 = .ok (.iload_n 1, 1) := by decide +kernel
theorem dX8_isRelieved_9 : decode cX8_isRelieved 9 = .ok (.invokevirtual 217, 3) := by decide +kernel
theorem dX8_isRelieved_12 : decode cX8_isRelieved 12 = .ok (.aload_n 0, 1) := by decide +kernel
theorem dX8_isRelieved_13 : decode cX8_isRelieved 13 = .ok (.getfield 19, 3) := by decide +kernel
theorem dX8_isRelieved_16 : decode cX8_isRelieved 16 = .ok (.iload_n 1, 1) := by decide +kernel
theorem dX8_isRelieved_17 : decode cX8_isRelieved 17 = .ok (.invokevirtual 207, 3) := by decide +kernel
theorem dX8_isRelieved_20 : decode cX8_isRelieved 20 = .ok (.aload_n 0, 1) := by decide +kernel
theorem dX8_isRelieved_21 : decode cX8_isRelieved 21 = .ok (.getfield 19, 3) := by decide +kernel
theorem dX8_isRelieved_24 : decode cX8_isRelieved 24 = .ok (.iload_n 1, 1) := by decide +kernel
theorem dX8_isRelieved_25 : decode cX8_isRelieved 25 = .ok (.invokevirtual 220, 3) := by decide +kernel
theorem dX8_isRelieved_28 : decode cX8_isRelieved 28 = .ok (.invokevirtual 223, 3) := by decide +kernel
theorem dX8_isRelieved_31 : decode cX8_isRelieved 31 = .ok (.ireturn, 1) := by decide +kernel
set_option maxRecDepth 20000 in
theorem ggX8_editionOf_X8_isRelieved : GoodIn wsX8_editionOf wsX8_isRelieved := goodIn_r _ [7, 8, 2, 9, 10, 11, 12, 13, 14, 15, 16, 17, 18, 19, 20, 21, 22, 23, 24, 25, 26, 27, 28, 29, 30, 31, 32, 33, 34, 35, 36, 37, 38, 39, 40, 41, 51, 52, 53, 54, 55, 56, 57, 58, 59, 60, 61, 62, 63, 64, 65, 66, 67, 68, 69, 70] (by decide +kernel) (by decide +kernel)
set_option maxRecDepth 20000 in
theorem gX8_editionOf_X8_isRelieved : GoodIn wsX8_editionOf (wsV RX8 226 RX8 yX8_isRelieved wsX8_isRelieved) := goodIn_app (goodIn_of _ (by decide +kernel)) ggX8_editionOf_X8_isRelieved
set_option maxRecDepth 20000 in
theorem ggX8_editionOf_X1_dayOf : GoodIn wsX8_editionOf wsX1_dayOf := goodIn_r _ [29, 30, 15, 16, 17, 18, 19, 20, 59, 60, 61, 62, 63, 64, 65] (by decide +kernel) (by decide +kernel)
set_option maxRecDepth 20000 in
theorem gX8_editionOf_X1_dayOf : GoodIn wsX8_editionOf (wsV RX8 220 RX1 yX1_dayOf wsX1_dayOf) := goodIn_app (goodIn_of _ (by decide +kernel)) ggX8_editionOf_X1_dayOf
set_option maxRecDepth 20000 in
theorem ggX8_editionOf_X0_latest : GoodIn wsX8_editionOf wsX0_latest := goodIn_r _ [46, 47, 48, 49, 50, 16, 17, 18, 19, 20, 71, 72, 73, 74, 75, 76, 77, 78, 79, 80, 81, 82, 65] (by decide +kernel) (by decide +kernel)
set_option maxRecDepth 20000 in
theorem gX8_editionOf_X0_latest : GoodIn wsX8_editionOf (wsV RX8 229 RX0 yX0_latest wsX0_latest) := goodIn_app (goodIn_of _ (by decide +kernel)) ggX8_editionOf_X0_latest
theorem dX8_editionOf_0 : decode cX8_editionOf 0 = .ok (.aload_n 0, 1) := by decide +kernel
theorem dX8_editionOf_1 : decode cX8_editionOf 1 = .ok (.iload_n 1, 1) := by decide +kernel
theorem dX8_editionOf_2 : decode cX8_editionOf 2 = .ok (.invokevirtual 226, 3) := by decide +kernel
theorem dX8_editionOf_5 : decode cX8_editionOf 5 = .ok (.ifCond .eq 5, 3) := by decide +kernel
theorem dX8_editionOf_8 : decode cX8_editionOf 8 = .ok (.iconst (-1), 1) := by decide +kernel
theorem dX8_editionOf_9 : decode cX8_editionOf 9 = .ok (.ireturn, 1) := by decide +kernel
theorem dX8_editionOf_10 : decode cX8_editionOf 10 = .ok (.aload_n 0, 1) := by decide +kernel
theorem dX8_editionOf_11 : decode cX8_editionOf 11 = .ok (.getfield 33, 3) := by decide +kernel
theorem dX8_editionOf_14 : decode cX8_editionOf 14 = .ok (.aload_n 0, 1) := by decide +kernel
theorem dX8_editionOf_15 : decode cX8_editionOf 15 = .ok (.getfield 19, 3) := by decide +kernel
theorem dX8_editionOf_18 : decode cX8_editionOf 18 = .ok (.iload_n 1, 1) := by decide +kernel
theorem dX8_editionOf_19 : decode cX8_editionOf 19 = .ok (.invokevirtual 220, 3) := by decide +kernel
theorem dX8_editionOf_22 : decode cX8_editionOf 22 = .ok (.lload_n 2, 1) := by decide +kernel
theorem dX8_editionOf_23 : decode cX8_editionOf 23 = .ok (.invokevirtual 229, 3) := by decide +kernel
theorem dX8_editionOf_26 : decode cX8_editionOf 26 = .ok (.ireturn, 1) := by decide +kernel
set_option maxRecDepth 20000 in
theorem ggX8_centsOf_X8_isRelieved : GoodIn wsX8_centsOf wsX8_isRelieved := goodIn_r _ [7, 8, 2, 9, 10, 11, 12, 13, 14, 15, 16, 17, 18, 19, 20, 21, 22, 23, 24, 25, 26, 27, 28, 29, 30, 31, 32, 33, 34, 35, 36, 37, 38, 39, 40, 41, 77, 78, 79, 80, 81, 82, 83, 84, 85, 86, 87, 88, 89, 90, 91, 92, 93, 94, 95, 96] (by decide +kernel) (by decide +kernel)
set_option maxRecDepth 20000 in
theorem gX8_centsOf_X8_isRelieved : GoodIn wsX8_centsOf (wsV RX8 226 RX8 yX8_isRelieved wsX8_isRelieved) := goodIn_app (goodIn_of _ (by decide +kernel)) ggX8_centsOf_X8_isRelieved
set_option maxRecDepth 20000 in
theorem ggX8_centsOf_X1_kindOf : GoodIn wsX8_centsOf wsX1_kindOf := goodIn_r _ [24, 25, 15, 16, 17, 18, 19, 20, 85, 86, 87, 88, 89, 90, 91] (by decide +kernel) (by decide +kernel)
set_option maxRecDepth 20000 in
theorem gX8_centsOf_X1_kindOf : GoodIn wsX8_centsOf (wsV RX8 207 RX1 yX1_kindOf wsX1_kindOf) := goodIn_app (goodIn_of _ (by decide +kernel)) ggX8_centsOf_X1_kindOf
set_option maxRecDepth 20000 in
theorem ggX8_centsOf_X1_measureOf : GoodIn wsX8_centsOf wsX1_measureOf := goodIn_r _ [45, 46, 15, 16, 17, 18, 19, 20, 85, 86, 87, 88, 89, 90, 91] (by decide +kernel) (by decide +kernel)
set_option maxRecDepth 20000 in
theorem gX8_centsOf_X1_measureOf : GoodIn wsX8_centsOf (wsV RX8 210 RX1 yX1_measureOf wsX1_measureOf) := goodIn_app (goodIn_of _ (by decide +kernel)) ggX8_centsOf_X1_measureOf
set_option maxRecDepth 20000 in
theorem ggX8_centsOf_X0_feeOf : GoodIn wsX8_centsOf wsX0_feeOf := goodIn_r _ [51, 52, 53, 54, 55, 56, 57, 50, 58, 59, 60, 61, 62, 63, 64, 65, 66, 67, 16, 17, 18, 19, 20, 68, 69, 70, 71, 72, 73, 74, 75, 76, 97, 98, 99, 100, 101, 102, 103, 104, 105, 106, 107, 108, 91] (by decide +kernel) (by decide +kernel)
set_option maxRecDepth 20000 in
theorem gX8_centsOf_X0_feeOf : GoodIn wsX8_centsOf (wsV RX8 233 RX0 yX0_feeOf wsX0_feeOf) := goodIn_app (goodIn_of _ (by decide +kernel)) ggX8_centsOf_X0_feeOf
theorem dX8_centsOf_0 : decode cX8_centsOf 0 = .ok (.aload_n 0, 1) := by decide +kernel
theorem dX8_centsOf_1 : decode cX8_centsOf 1 = .ok (.iload_n 1, 1) := by decide +kernel
theorem dX8_centsOf_2 : decode cX8_centsOf 2 = .ok (.invokevirtual 226, 3) := by decide +kernel
theorem dX8_centsOf_5 : decode cX8_centsOf 5 = .ok (.ifCond .eq 5, 3) := by decide +kernel
theorem dX8_centsOf_8 : decode cX8_centsOf 8 = .ok (.lconst 0, 1) := by decide +kernel
theorem dX8_centsOf_9 : decode cX8_centsOf 9 = .ok (.lreturn, 1) := by decide +kernel
theorem dX8_centsOf_10 : decode cX8_centsOf 10 = .ok (.aload_n 0, 1) := by decide +kernel
theorem dX8_centsOf_11 : decode cX8_centsOf 11 = .ok (.getfield 33, 3) := by decide +kernel
theorem dX8_centsOf_14 : decode cX8_centsOf 14 = .ok (.iload_n 2, 1) := by decide +kernel
theorem dX8_centsOf_15 : decode cX8_centsOf 15 = .ok (.aload_n 0, 1) := by decide +kernel
theorem dX8_centsOf_16 : decode cX8_centsOf 16 = .ok (.getfield 19, 3) := by decide +kernel
theorem dX8_centsOf_19 : decode cX8_centsOf 19 = .ok (.iload_n 1, 1) := by decide +kernel
theorem dX8_centsOf_20 : decode cX8_centsOf 20 = .ok (.invokevirtual 207, 3) := by decide +kernel
theorem dX8_centsOf_23 : decode cX8_centsOf 23 = .ok (.aload_n 0, 1) := by decide +kernel
theorem dX8_centsOf_24 : decode cX8_centsOf 24 = .ok (.getfield 19, 3) := by decide +kernel
theorem dX8_centsOf_27 : decode cX8_centsOf 27 = .ok (.iload_n 1, 1) := by decide +kernel
theorem dX8_centsOf_28 : decode cX8_centsOf 28 = .ok (.invokevirtual 210, 3) := by decide +kernel
theorem dX8_centsOf_31 : decode cX8_centsOf 31 = .ok (.invokevirtual 233, 3) := by decide +kernel
theorem dX8_centsOf_34 : decode cX8_centsOf 34 = .ok (.lreturn, 1) := by decide +kernel
set_option maxRecDepth 20000 in
theorem ggX8_lackOf_X1_kindOf : GoodIn wsX8_lackOf wsX1_kindOf := goodIn_r _ [8, 9, 10, 11, 12, 13, 14, 15, 40, 41, 42, 43, 44, 45, 46] (by decide +kernel) (by decide +kernel)
set_option maxRecDepth 20000 in
theorem gX8_lackOf_X1_kindOf : GoodIn wsX8_lackOf (wsV RX8 207 RX1 yX1_kindOf wsX1_kindOf) := goodIn_app (goodIn_of _ (by decide +kernel)) ggX8_lackOf_X1_kindOf
set_option maxRecDepth 20000 in
theorem ggX8_lackOf_X0_hasRule : GoodIn wsX8_lackOf wsX0_hasRule := goodIn_r _ [20, 21, 22, 23, 24, 25, 19, 26, 27, 28, 29, 30, 31, 11, 12, 13, 14, 15, 47, 48, 49, 50, 51, 52, 53, 54, 55, 56, 57, 58, 46] (by decide +kernel) (by decide +kernel)
set_option maxRecDepth 20000 in
theorem gX8_lackOf_X0_hasRule : GoodIn wsX8_lackOf (wsV RX8 236 RX0 yX0_hasRule wsX0_hasRule) := goodIn_app (goodIn_of _ (by decide +kernel)) ggX8_lackOf_X0_hasRule
theorem dX8_lackOf_0 : decode cX8_lackOf 0 = .ok (.lload_n 3, 1) := by decide +kernel
theorem dX8_lackOf_1 : decode cX8_lackOf 1 = .ok (.ldc2_w 62, 3) := by decide +kernel
theorem dX8_lackOf_4 : decode cX8_lackOf 4 = .ok (.lcmp, 1) := by decide +kernel
theorem dX8_lackOf_5 : decode cX8_lackOf 5 = .ok (.ifCond .eq 5, 3) := by decide +kernel
theorem dX8_lackOf_8 : decode cX8_lackOf 8 = .ok (.iconst 0, 1) := by decide +kernel
theorem dX8_lackOf_9 : decode cX8_lackOf 9 = .ok (.ireturn, 1) := by decide +kernel
theorem dX8_lackOf_10 : decode cX8_lackOf 10 = .ok (.aload_n 0, 1) := by decide +kernel
theorem dX8_lackOf_11 : decode cX8_lackOf 11 = .ok (.getfield 33, 3) := by decide +kernel
theorem dX8_lackOf_14 : decode cX8_lackOf 14 = .ok (.iload_n 2, 1) := by decide +kernel
theorem dX8_lackOf_15 : decode cX8_lackOf 15 = .ok (.aload_n 0, 1) := by decide +kernel
theorem dX8_lackOf_16 : decode cX8_lackOf 16 = .ok (.getfield 19, 3) := by decide +kernel
theorem dX8_lackOf_19 : decode cX8_lackOf 19 = .ok (.iload_n 1, 1) := by decide +kernel
theorem dX8_lackOf_20 : decode cX8_lackOf 20 = .ok (.invokevirtual 207, 3) := by decide +kernel
theorem dX8_lackOf_23 : decode cX8_lackOf 23 = .ok (.invokevirtual 236, 3) := by decide +kernel
theorem dX8_lackOf_26 : decode cX8_lackOf 26 = .ok (.ifCond .eq 7, 3) := by decide +kernel
theorem dX8_lackOf_29 : decode cX8_lackOf 29 = .ok (.iconst 2, 1) := by decide +kernel
theorem dX8_lackOf_30 : decode cX8_lackOf 30 = .ok (.goto 4, 3) := by decide +kernel
theorem dX8_lackOf_33 : decode cX8_lackOf 33 = .ok (.iconst 1, 1) := by decide +kernel
theorem dX8_lackOf_34 : decode cX8_lackOf 34 = .ok (.ireturn, 1) := by decide +kernel
end
section
theorem dX9_init_0 : decode cX9_init 0 = .ok (.aload_n 0, 1) := by decide +kernel
theorem dX9_init_1 : decode cX9_init 1 = .ok (.invokespecial 1, 3) := by decide +kernel
theorem dX9_init_4 : decode cX9_init 4 = .ok (.aload_n 0, 1) := by decide +kernel
theorem dX9_init_5 : decode cX9_init 5 = .ok (.iconst 4, 1) := by decide +kernel
theorem dX9_init_6 : decode cX9_init 6 = .ok (.newarray .int, 2) := by decide +kernel
theorem dX9_init_8 : decode cX9_init 8 = .ok (.putfield 7, 3) := by decide +kernel
theorem dX9_init_11 : decode cX9_init 11 = .ok (.aload_n 0, 1) := by decide +kernel
theorem dX9_init_12 : decode cX9_init 12 = .ok (.bipush 24, 2) := by decide +kernel
theorem dX9_init_14 : decode cX9_init 14 = .ok (.newarray .int, 2) := by decide +kernel
theorem dX9_init_16 : decode cX9_init 16 = .ok (.putfield 13, 3) := by decide +kernel
theorem dX9_init_19 : decode cX9_init 19 = .ok (.aload_n 0, 1) := by decide +kernel
theorem dX9_init_20 : decode cX9_init 20 = .ok (.bipush 24, 2) := by decide +kernel
theorem dX9_init_22 : decode cX9_init 22 = .ok (.newarray .int, 2) := by decide +kernel
theorem dX9_init_24 : decode cX9_init 24 = .ok (.putfield 16, 3) := by decide +kernel
theorem dX9_init_27 : decode cX9_init 27 = .ok (.aload_n 0, 1) := by decide +kernel
theorem dX9_init_28 : decode cX9_init 28 = .ok (.bipush 24, 2) := by decide +kernel
theorem dX9_init_30 : decode cX9_init 30 = .ok (.newarray .int, 2) := by decide +kernel
theorem dX9_init_32 : decode cX9_init 32 = .ok (.putfield 19, 3) := by decide +kernel
theorem dX9_init_35 : decode cX9_init 35 = .ok (.aload_n 0, 1) := by decide +kernel
theorem dX9_init_36 : decode cX9_init 36 = .ok (.bipush 24, 2) := by decide +kernel
theorem dX9_init_38 : decode cX9_init 38 = .ok (.newarray .int, 2) := by decide +kernel
theorem dX9_init_40 : decode cX9_init 40 = .ok (.putfield 22, 3) := by decide +kernel
theorem dX9_init_43 : decode cX9_init 43 = .ok (.aload_n 0, 1) := by decide +kernel
theorem dX9_init_44 : decode cX9_init 44 = .ok (.bipush 24, 2) := by decide +kernel
theorem dX9_init_46 : decode cX9_init 46 = .ok (.newarray .int, 2) := by decide +kernel
theorem dX9_init_48 : decode cX9_init 48 = .ok (.putfield 25, 3) := by decide +kernel
theorem dX9_init_51 : decode cX9_init 51 = .ok (.aload_n 0, 1) := by decide +kernel
theorem dX9_init_52 : decode cX9_init 52 = .ok (.bipush 24, 2) := by decide +kernel
theorem dX9_init_54 : decode cX9_init 54 = .ok (.newarray .int, 2) := by decide +kernel
theorem dX9_init_56 : decode cX9_init 56 = .ok (.putfield 28, 3) := by decide +kernel
theorem dX9_init_59 : decode cX9_init 59 = .ok (.aload_n 0, 1) := by decide +kernel
theorem dX9_init_60 : decode cX9_init 60 = .ok (.sipush 600, 3) := by decide +kernel
theorem dX9_init_63 : decode cX9_init 63 = .ok (.newarray .int, 2) := by decide +kernel
theorem dX9_init_65 : decode cX9_init 65 = .ok (.putfield 31, 3) := by decide +kernel
theorem dX9_init_68 : decode cX9_init 68 = .ok (.aload_n 0, 1) := by decide +kernel
theorem dX9_init_69 : decode cX9_init 69 = .ok (.sipush 300, 3) := by decide +kernel
theorem dX9_init_72 : decode cX9_init 72 = .ok (.newarray .int, 2) := by decide +kernel
theorem dX9_init_74 : decode cX9_init 74 = .ok (.putfield 34, 3) := by decide +kernel
theorem dX9_init_77 : decode cX9_init 77 = .ok (.aload_n 0, 1) := by decide +kernel
theorem dX9_init_78 : decode cX9_init 78 = .ok (.sipush 300, 3) := by decide +kernel
theorem dX9_init_81 : decode cX9_init 81 = .ok (.newarray .int, 2) := by decide +kernel
theorem dX9_init_83 : decode cX9_init 83 = .ok (.putfield 37, 3) := by decide +kernel
theorem dX9_init_86 : decode cX9_init 86 = .ok (.aload_n 0, 1) := by decide +kernel
theorem dX9_init_87 : decode cX9_init 87 = .ok (.bipush 6, 2) := by decide +kernel
theorem dX9_init_89 : decode cX9_init 89 = .ok (.newarray .int, 2) := by decide +kernel
theorem dX9_init_91 : decode cX9_init 91 = .ok (.putfield 40, 3) := by decide +kernel
theorem dX9_init_94 : decode cX9_init 94 = .ok (.aload_n 0, 1) := by decide +kernel
theorem dX9_init_95 : decode cX9_init 95 = .ok (.bipush 6, 2) := by decide +kernel
theorem dX9_init_97 : decode cX9_init 97 = .ok (.newarray .int, 2) := by decide +kernel
theorem dX9_init_99 : decode cX9_init 99 = .ok (.putfield 43, 3) := by decide +kernel
theorem dX9_init_102 : decode cX9_init 102 = .ok (.aload_n 0, 1) := by decide +kernel
theorem dX9_init_103 : decode cX9_init 103 = .ok (.bipush 42, 2) := by decide +kernel
theorem dX9_init_105 : decode cX9_init 105 = .ok (.newarray .boolean, 2) := by decide +kernel
theorem dX9_init_107 : decode cX9_init 107 = .ok (.putfield 46, 3) := by decide +kernel
theorem dX9_init_110 : decode cX9_init 110 = .ok (.aload_n 0, 1) := by decide +kernel
theorem dX9_init_111 : decode cX9_init 111 = .ok (.bipush 42, 2) := by decide +kernel
theorem dX9_init_113 : decode cX9_init 113 = .ok (.newarray .int, 2) := by decide +kernel
theorem dX9_init_115 : decode cX9_init 115 = .ok (.putfield 50, 3) := by decide +kernel
theorem dX9_init_118 : decode cX9_init 118 = .ok (.aload_n 0, 1) := by decide +kernel
theorem dX9_init_119 : decode cX9_init 119 = .ok (.bipush 42, 2) := by decide +kernel
theorem dX9_init_121 : decode cX9_init 121 = .ok (.newarray .int, 2) := by decide +kernel
theorem dX9_init_123 : decode cX9_init 123 = .ok (.putfield 53, 3) := by decide +kernel
theorem dX9_init_126 : decode cX9_init 126 = .ok (.aload_n 0, 1) := by decide +kernel
theorem dX9_init_127 : decode cX9_init 127 = .ok (.bipush 42, 2) := by decide +kernel
theorem dX9_init_129 : decode cX9_init 129 = .ok (.newarray .int, 2) := by decide +kernel
theorem dX9_init_131 : decode cX9_init 131 = .ok (.putfield 56, 3) := by decide +kernel
theorem dX9_init_134 : decode cX9_init 134 = .ok (.aload_n 0, 1) := by decide +kernel
theorem dX9_init_135 : decode cX9_init 135 = .ok (.bipush 42, 2) := by decide +kernel
theorem dX9_init_137 : decode cX9_init 137 = .ok (.newarray .int, 2) := by decide +kernel
theorem dX9_init_139 : decode cX9_init 139 = .ok (.putfield 59, 3) := by decide +kernel
theorem dX9_init_142 : decode cX9_init 142 = .ok (.aload_n 0, 1) := by decide +kernel
theorem dX9_init_143 : decode cX9_init 143 = .ok (.sipush 4200, 3) := by decide +kernel
theorem dX9_init_146 : decode cX9_init 146 = .ok (.newarray .int, 2) := by decide +kernel
theorem dX9_init_148 : decode cX9_init 148 = .ok (.putfield 62, 3) := by decide +kernel
theorem dX9_init_151 : decode cX9_init 151 = .ok (.aload_n 0, 1) := by decide +kernel
theorem dX9_init_152 : decode cX9_init 152 = .ok (.sipush 4200, 3) := by decide +kernel
theorem dX9_init_155 : decode cX9_init 155 = .ok (.newarray .int, 2) := by decide +kernel
theorem dX9_init_157 : decode cX9_init 157 = .ok (.putfield 65, 3) := by decide +kernel
theorem dX9_init_160 : decode cX9_init 160 = .ok (.aload_n 0, 1) := by decide +kernel
theorem dX9_init_161 : decode cX9_init 161 = .ok (.bipush 120, 2) := by decide +kernel
theorem dX9_init_163 : decode cX9_init 163 = .ok (.newarray .long, 2) := by decide +kernel
theorem dX9_init_165 : decode cX9_init 165 = .ok (.putfield 68, 3) := by decide +kernel
theorem dX9_init_168 : decode cX9_init 168 = .ok (.aload_n 0, 1) := by decide +kernel
theorem dX9_init_169 : decode cX9_init 169 = .ok (.bipush 8, 2) := by decide +kernel
theorem dX9_init_171 : decode cX9_init 171 = .ok (.newarray .int, 2) := by decide +kernel
theorem dX9_init_173 : decode cX9_init 173 = .ok (.putfield 72, 3) := by decide +kernel
theorem dX9_init_176 : decode cX9_init 176 = .ok (.aload_n 0, 1) := by decide +kernel
theorem dX9_init_177 : decode cX9_init 177 = .ok (.bipush 8, 2) := by decide +kernel
theorem dX9_init_179 : decode cX9_init 179 = .ok (.newarray .int, 2) := by decide +kernel
theorem dX9_init_181 : decode cX9_init 181 = .ok (.putfield 75, 3) := by decide +kernel
theorem dX9_init_184 : decode cX9_init 184 = .ok (.aload_n 0, 1) := by decide +kernel
theorem dX9_init_185 : decode cX9_init 185 = .ok (.bipush 8, 2) := by decide +kernel
theorem dX9_init_187 : decode cX9_init 187 = .ok (.newarray .int, 2) := by decide +kernel
theorem dX9_init_189 : decode cX9_init 189 = .ok (.putfield 78, 3) := by decide +kernel
theorem dX9_init_192 : decode cX9_init 192 = .ok (.aload_n 0, 1) := by decide +kernel
theorem dX9_init_193 : decode cX9_init 193 = .ok (.bipush 8, 2) := by decide +kernel
theorem dX9_init_195 : decode cX9_init 195 = .ok (.newarray .int, 2) := by decide +kernel
theorem dX9_init_197 : decode cX9_init 197 = .ok (.putfield 81, 3) := by decide +kernel
theorem dX9_init_200 : decode cX9_init 200 = .ok (.aload_n 0, 1) := by decide +kernel
theorem dX9_init_201 : decode cX9_init 201 = .ok (.sipush 480, 3) := by decide +kernel
theorem dX9_init_204 : decode cX9_init 204 = .ok (.newarray .long, 2) := by decide +kernel
theorem dX9_init_206 : decode cX9_init 206 = .ok (.putfield 84, 3) := by decide +kernel
theorem dX9_init_209 : decode cX9_init 209 = .ok (.aload_n 0, 1) := by decide +kernel
theorem dX9_init_210 : decode cX9_init 210 = .ok (.bipush 24, 2) := by decide +kernel
theorem dX9_init_212 : decode cX9_init 212 = .ok (.newarray .int, 2) := by decide +kernel
theorem dX9_init_214 : decode cX9_init 214 = .ok (.putfield 87, 3) := by decide +kernel
theorem dX9_init_217 : decode cX9_init 217 = .ok (.aload_n 0, 1) := by decide +kernel
theorem dX9_init_218 : decode cX9_init 218 = .ok (.bipush 24, 2) := by decide +kernel
theorem dX9_init_220 : decode cX9_init 220 = .ok (.newarray .long, 2) := by decide +kernel
theorem dX9_init_222 : decode cX9_init 222 = .ok (.putfield 90, 3) := by decide +kernel
theorem dX9_init_225 : decode cX9_init 225 = .ok (.aload_n 0, 1) := by decide +kernel
theorem dX9_init_226 : decode cX9_init 226 = .ok (.bipush 24, 2) := by decide +kernel
theorem dX9_init_228 : decode cX9_init 228 = .ok (.newarray .int, 2) := by decide +kernel
theorem dX9_init_230 : decode cX9_init 230 = .ok (.putfield 93, 3) := by decide +kernel
theorem dX9_init_233 : decode cX9_init 233 = .ok (.aload_n 0, 1) := by decide +kernel
theorem dX9_init_234 : decode cX9_init 234 = .ok (.bipush 24, 2) := by decide +kernel
theorem dX9_init_236 : decode cX9_init 236 = .ok (.newarray .int, 2) := by decide +kernel
theorem dX9_init_238 : decode cX9_init 238 = .ok (.putfield 96, 3) := by decide +kernel
theorem dX9_init_241 : decode cX9_init 241 = .ok (.aload_n 0, 1) := by decide +kernel
theorem dX9_init_242 : decode cX9_init 242 = .ok (.bipush 24, 2) := by decide +kernel
theorem dX9_init_244 : decode cX9_init 244 = .ok (.newarray .int, 2) := by decide +kernel
theorem dX9_init_246 : decode cX9_init 246 = .ok (.putfield 99, 3) := by decide +kernel
theorem dX9_init_249 : decode cX9_init 249 = .ok (.aload_n 0, 1) := by decide +kernel
theorem dX9_init_250 : decode cX9_init 250 = .ok (.bipush 24, 2) := by decide +kernel
theorem dX9_init_252 : decode cX9_init 252 = .ok (.newarray .long, 2) := by decide +kernel
theorem dX9_init_254 : decode cX9_init 254 = .ok (.putfield 102, 3) := by decide +kernel
theorem dX9_init_257 : decode cX9_init 257 = .ok (.aload_n 0, 1) := by decide +kernel
theorem dX9_init_258 : decode cX9_init 258 = .ok (.bipush 24, 2) := by decide +kernel
theorem dX9_init_260 : decode cX9_init 260 = .ok (.newarray .int, 2) := by decide +kernel
theorem dX9_init_262 : decode cX9_init 262 = .ok (.putfield 105, 3) := by decide +kernel
theorem dX9_init_265 : decode cX9_init 265 = .ok (.aload_n 0, 1) := by decide +kernel
theorem dX9_init_266 : decode cX9_init 266 = .ok (.bipush 24, 2) := by decide +kernel
theorem dX9_init_268 : decode cX9_init 268 = .ok (.newarray .int, 2) := by decide +kernel
theorem dX9_init_270 : decode cX9_init 270 = .ok (.putfield 108, 3) := by decide +kernel
theorem dX9_init_273 : decode cX9_init 273 = .ok (.aload_n 0, 1) := by decide +kernel
theorem dX9_init_274 : decode cX9_init 274 = .ok (.sipush 900, 3) := by decide +kernel
theorem dX9_init_277 : decode cX9_init 277 = .ok (.newarray .byte, 2) := by decide +kernel
theorem dX9_init_279 : decode cX9_init 279 = .ok (.putfield 111, 3) := by decide +kernel
theorem dX9_init_282 : decode cX9_init 282 = .ok (.iconst 0, 1) := by decide +kernel
theorem dX9_init_283 : decode cX9_init 283 = .ok (.istore_n 1, 1) := by decide +kernel
theorem dX9_init_284 : decode cX9_init 284 = .ok (.iload_n 1, 1) := by decide +kernel
theorem dX9_init_285 : decode cX9_init 285 = .ok (.bipush 24, 2) := by decide +kernel
theorem dX9_init_287 : decode cX9_init 287 = .ok (.if_icmp .ge 16, 3) := by decide +kernel
theorem dX9_init_290 : decode cX9_init 290 = .ok (.aload_n 0, 1) := by decide +kernel
theorem dX9_init_291 : decode cX9_init 291 = .ok (.getfield 13, 3) := by decide +kernel
theorem dX9_init_294 : decode cX9_init 294 = .ok (.iload_n 1, 1) := by decide +kernel
theorem dX9_init_295 : decode cX9_init 295 = .ok (.iconst 1, 1) := by decide +kernel
theorem dX9_init_296 : decode cX9_init 296 = .ok (.iastore, 1) := by decide +kernel
theorem dX9_init_297 : decode cX9_init 297 = .ok (.iinc 1 1, 3) := by decide +kernel
theorem dX9_init_300 : decode cX9_init 300 = .ok (.goto (-16), 3) := by decide +kernel
theorem dX9_init_303 : decode cX9_init 303 = .ok (.iconst 0, 1) := by decide +kernel
theorem dX9_init_304 : decode cX9_init 304 = .ok (.istore_n 1, 1) := by decide +kernel
theorem dX9_init_305 : decode cX9_init 305 = .ok (.iload_n 1, 1) := by decide +kernel
theorem dX9_init_306 : decode cX9_init 306 = .ok (.bipush 120, 2) := by decide +kernel
theorem dX9_init_308 : decode cX9_init 308 = .ok (.if_icmp .ge 18, 3) := by decide +kernel
theorem dX9_init_311 : decode cX9_init 311 = .ok (.aload_n 0, 1) := by decide +kernel
theorem dX9_init_312 : decode cX9_init 312 = .ok (.getfield 68, 3) := by decide +kernel
theorem dX9_init_315 : decode cX9_init 315 = .ok (.iload_n 1, 1) := by decide +kernel
theorem dX9_init_316 : decode cX9_init 316 = .ok (.ldc2_w 115, 3) := by decide +kernel
theorem dX9_init_319 : decode cX9_init 319 = .ok (.lastore, 1) := by decide +kernel
theorem dX9_init_320 : decode cX9_init 320 = .ok (.iinc 1 1, 3) := by decide +kernel
theorem dX9_init_323 : decode cX9_init 323 = .ok (.goto (-18), 3) := by decide +kernel
theorem dX9_init_326 : decode cX9_init 326 = .ok (.return_, 1) := by decide +kernel
theorem dX9_isDay_0 : decode cX9_isDay 0 = .ok (.lload_n 0, 1) := by decide +kernel
theorem dX9_isDay_1 : decode cX9_isDay 1 = .ok (.lconst 0, 1) := by decide +kernel
theorem dX9_isDay_2 : decode cX9_isDay 2 = .ok (.lcmp, 1) := by decide +kernel
theorem dX9_isDay_3 : decode cX9_isDay 3 = .ok (.ifCond .lt 15, 3) := by decide +kernel
theorem dX9_isDay_6 : decode cX9_isDay 6 = .ok (.lload_n 0, 1) := by decide +kernel
theorem dX9_isDay_7 : decode cX9_isDay 7 = .ok (.ldc2_w 117, 3) := by decide +kernel
theorem dX9_isDay_10 : decode cX9_isDay 10 = .ok (.lcmp, 1) := by decide +kernel
theorem dX9_isDay_11 : decode cX9_isDay 11 = .ok (.ifCond .ge 7, 3) := by decide +kernel
theorem dX9_isDay_14 : decode cX9_isDay 14 = .ok (.iconst 1, 1) := by decide +kernel
theorem dX9_isDay_15 : decode cX9_isDay 15 = .ok (.goto 4, 3) := by decide +kernel
theorem dX9_isDay_18 : decode cX9_isDay 18 = .ok (.iconst 0, 1) := by decide +kernel
theorem dX9_isDay_19 : decode cX9_isDay 19 = .ok (.ireturn, 1) := by decide +kernel
theorem dX9_isHouse_0 : decode cX9_isHouse 0 = .ok (.iload_n 1, 1) := by decide +kernel
theorem dX9_isHouse_1 : decode cX9_isHouse 1 = .ok (.ifCond .lt 15, 3) := by decide +kernel
theorem dX9_isHouse_4 : decode cX9_isHouse 4 = .ok (.iload_n 1, 1) := by decide +kernel
theorem dX9_isHouse_5 : decode cX9_isHouse 5 = .ok (.aload_n 0, 1) := by decide +kernel
theorem dX9_isHouse_6 : decode cX9_isHouse 6 = .ok (.getfield 119, 3) := by decide +kernel
theorem dX9_isHouse_9 : decode cX9_isHouse 9 = .ok (.if_icmp .ge 7, 3) := by decide +kernel
theorem dX9_isHouse_12 : decode cX9_isHouse 12 = .ok (.iconst 1, 1) := by decide +kernel
theorem dX9_isHouse_13 : decode cX9_isHouse 13 = .ok (.goto 4, 3) := by decide +kernel
theorem dX9_isHouse_16 : decode cX9_isHouse 16 = .ok (.iconst 0, 1) := by decide +kernel
theorem dX9_isHouse_17 : decode cX9_isHouse 17 = .ok (.ireturn, 1) := by decide +kernel
theorem dX9_isKind_0 : decode cX9_isKind 0 = .ok (.iload_n 0, 1) := by decide +kernel
theorem dX9_isKind_1 : decode cX9_isKind 1 = .ok (.ifCond .lt 13, 3) := by decide +kernel
theorem dX9_isKind_4 : decode cX9_isKind 4 = .ok (.iload_n 0, 1) := by decide +kernel
theorem dX9_isKind_5 : decode cX9_isKind 5 = .ok (.bipush 6, 2) := by decide +kernel
theorem dX9_isKind_7 : decode cX9_isKind 7 = .ok (.if_icmp .ge 7, 3) := by decide +kernel
theorem dX9_isKind_10 : decode cX9_isKind 10 = .ok (.iconst 1, 1) := by decide +kernel
theorem dX9_isKind_11 : decode cX9_isKind 11 = .ok (.goto 4, 3) := by decide +kernel
theorem dX9_isKind_14 : decode cX9_isKind 14 = .ok (.iconst 0, 1) := by decide +kernel
theorem dX9_isKind_15 : decode cX9_isKind 15 = .ok (.ireturn, 1) := by decide +kernel
theorem dX9_isMonth_0 : decode cX9_isMonth 0 = .ok (.iload_n 0, 1) := by decide +kernel
theorem dX9_isMonth_1 : decode cX9_isMonth 1 = .ok (.ifCond .lt 13, 3) := by decide +kernel
theorem dX9_isMonth_4 : decode cX9_isMonth 4 = .ok (.iload_n 0, 1) := by decide +kernel
theorem dX9_isMonth_5 : decode cX9_isMonth 5 = .ok (.bipush 120, 2) := by decide +kernel
theorem dX9_isMonth_7 : decode cX9_isMonth 7 = .ok (.if_icmp .ge 7, 3) := by decide +kernel
theorem dX9_isMonth_10 : decode cX9_isMonth 10 = .ok (.iconst 1, 1) := by decide +kernel
theorem dX9_isMonth_11 : decode cX9_isMonth 11 = .ok (.goto 4, 3) := by decide +kernel
theorem dX9_isMonth_14 : decode cX9_isMonth 14 = .ok (.iconst 0, 1) := by decide +kernel
theorem dX9_isMonth_15 : decode cX9_isMonth 15 = .ok (.ireturn, 1) := by decide +kernel
theorem dX9_house_0 : decode cX9_house 0 = .ok (.aload_n 0, 1) := by decide +kernel
theorem dX9_house_1 : decode cX9_house 1 = .ok (.getfield 119, 3) := by decide +kernel
theorem dX9_house_4 : decode cX9_house 4 = .ok (.iconst 4, 1) := by decide +kernel
theorem dX9_house_5 : decode cX9_house 5 = .ok (.if_icmp .eq 14, 3) := by decide +kernel
theorem dX9_house_8 : decode cX9_house 8 = .ok (.iload_n 1, 1) := by decide +kernel
theorem dX9_house_9 : decode cX9_house 9 = .ok (.iconst 1, 1) := by decide +kernel
theorem dX9_house_10 : decode cX9_house 10 = .ok (.if_icmp .lt 9, 3) := by decide +kernel
theorem dX9_house_13 : decode cX9_house 13 = .ok (.iload_n 1, 1) := by decide +kernel
theorem dX9_house_14 : decode cX9_house 14 = .ok (.bipush 6, 2) := by decide +kernel
theorem dX9_house_16 : decode cX9_house 16 = .ok (.if_icmp .le 5, 3) := by decide +kernel
theorem dX9_house_19 : decode cX9_house 19 = .ok (.iconst (-1), 1) := by decide +kernel
theorem dX9_house_20 : decode cX9_house 20 = .ok (.ireturn, 1) := by decide +kernel
theorem dX9_house_21 : decode cX9_house 21 = .ok (.aload_n 0, 1) := by decide +kernel
theorem dX9_house_22 : decode cX9_house 22 = .ok (.getfield 7, 3) := by decide +kernel
theorem dX9_house_25 : decode cX9_house 25 = .ok (.aload_n 0, 1) := by decide +kernel
theorem dX9_house_26 : decode cX9_house 26 = .ok (.getfield 119, 3) := by decide +kernel
theorem dX9_house_29 : decode cX9_house 29 = .ok (.iload_n 1, 1) := by decide +kernel
theorem dX9_house_30 : decode cX9_house 30 = .ok (.iastore, 1) := by decide +kernel
theorem dX9_house_31 : decode cX9_house 31 = .ok (.aload_n 0, 1) := by decide +kernel
theorem dX9_house_32 : decode cX9_house 32 = .ok (.dup, 1) := by decide +kernel
theorem dX9_house_33 : decode cX9_house 33 = .ok (.getfield 119, 3) := by decide +kernel
theorem dX9_house_36 : decode cX9_house 36 = .ok (.iconst 1, 1) := by decide +kernel
theorem dX9_house_37 : decode cX9_house 37 = .ok (.iadd, 1) := by decide +kernel
theorem dX9_house_38 : decode cX9_house 38 = .ok (.putfield 119, 3) := by decide +kernel
theorem dX9_house_41 : decode cX9_house 41 = .ok (.aload_n 0, 1) := by decide +kernel
theorem dX9_house_42 : decode cX9_house 42 = .ok (.getfield 119, 3) := by decide +kernel
theorem dX9_house_45 : decode cX9_house 45 = .ok (.iconst 1, 1) := by decide +kernel
theorem dX9_house_46 : decode cX9_house 46 = .ok (.isub, 1) := by decide +kernel
theorem dX9_house_47 : decode cX9_house 47 = .ok (.ireturn, 1) := by decide +kernel
set_option maxRecDepth 20000 in
theorem ggX9_fact_X9_isHouse : GoodIn wsX9_fact wsX9_isHouse := goodIn_r _ [12, 13, 21, 22, 23, 24, 25, 26, 27, 28, 29, 30, 31, 32, 33, 34, 35, 36, 37, 38, 39, 40, 41, 42, 43, 44, 45, 46, 47, 48, 49, 50, 51, 52, 53, 54, 55, 56, 57, 58, 59, 60, 61, 62, 63] (by decide +kernel) (by decide +kernel)
set_option maxRecDepth 20000 in
theorem gX9_fact_X9_isHouse : GoodIn wsX9_fact (wsV RX9 126 RX9 yX9_isHouse wsX9_isHouse) := goodIn_app (goodIn_of _ (by decide +kernel)) ggX9_fact_X9_isHouse
set_option maxRecDepth 20000 in
theorem ggX9_fact_X9_isKind : GoodIn wsX9_fact wsX9_isKind := goodIn_r _ [16] (by decide +kernel) (by decide +kernel)
set_option maxRecDepth 20000 in
theorem gX9_fact_X9_isKind : GoodIn wsX9_fact (va_wsS RX9 130 yX9_isKind wsX9_isKind) := goodIn_app (goodIn_of _ (by decide +kernel)) ggX9_fact_X9_isKind
set_option maxRecDepth 20000 in
theorem ggX9_fact_X9_isDay : GoodIn wsX9_fact wsX9_isDay := goodIn_r _ [19, 20] (by decide +kernel) (by decide +kernel)
set_option maxRecDepth 20000 in
theorem gX9_fact_X9_isDay : GoodIn wsX9_fact (va_wsS RX9 133 yX9_isDay wsX9_isDay) := goodIn_app (goodIn_of _ (by decide +kernel)) ggX9_fact_X9_isDay
theorem dX9_fact_0 : decode cX9_fact 0 = .ok (.aload_n 0, 1) := by decide +kernel
theorem dX9_fact_1 : decode cX9_fact 1 = .ok (.getfield 123, 3) := by decide +kernel
theorem dX9_fact_4 : decode cX9_fact 4 = .ok (.bipush 24, 2) := by decide +kernel
theorem dX9_fact_6 : decode cX9_fact 6 = .ok (.if_icmp .eq 49, 3) := by decide +kernel
theorem dX9_fact_9 : decode cX9_fact 9 = .ok (.aload_n 0, 1) := by decide +kernel
theorem dX9_fact_10 : decode cX9_fact 10 = .ok (.iload_n 1, 1) := by decide +kernel
theorem dX9_fact_11 : decode cX9_fact 11 = .ok (.invokevirtual 126, 3) := by decide +kernel
theorem dX9_fact_14 : decode cX9_fact 14 = .ok (.ifCond .eq 41, 3) := by decide +kernel
theorem dX9_fact_17 : decode cX9_fact 17 = .ok (.iload_n 2, 1) := by decide +kernel
theorem dX9_fact_18 : decode cX9_fact 18 = .ok (.invokestatic 130, 3) := by decide +kernel
theorem dX9_fact_21 : decode cX9_fact 21 = .ok (.ifCond .eq 34, 3) := by decide +kernel
theorem dX9_fact_24 : decode cX9_fact 24 = .ok (.lload_n 3, 1) := by decide +kernel
theorem dX9_fact_25 : decode cX9_fact 25 = .ok (.invokestatic 133, 3) := by decide +kernel
theorem dX9_fact_28 : decode cX9_fact 28 = .ok (.ifCond .eq 27, 3) := by decide +kernel
theorem dX9_fact_31 : decode cX9_fact 31 = .ok (.lload 5, 2) := by decide +kernel
theorem dX9_fact_33 : decode cX9_fact 33 = .ok (.lconst 0, 1) := by decide +kernel
theorem dX9_fact_34 : decode cX9_fact 34 = .ok (.lcmp, 1) := by decide +kernel
theorem dX9_fact_35 : decode cX9_fact 35 = .ok (.ifCond .lt 20, 3) := by decide +kernel
theorem dX9_fact_38 : decode cX9_fact 38 = .ok (.lload 5, 2) := by decide +kernel
theorem dX9_fact_40 : decode cX9_fact 40 = .ok (.ldc2_w 137, 3) := by decide +kernel
theorem dX9_fact_43 : decode cX9_fact 43 = .ok (.lcmp, 1) := by decide +kernel
theorem dX9_fact_44 : decode cX9_fact 44 = .ok (.ifCond .gt 11, 3) := by decide +kernel
theorem dX9_fact_47 : decode cX9_fact 47 = .ok (.lload 7, 2) := by decide +kernel
theorem dX9_fact_49 : decode cX9_fact 49 = .ok (.invokestatic 133, 3) := by decide +kernel
theorem dX9_fact_52 : decode cX9_fact 52 = .ok (.ifCond .ne 5, 3) := by decide +kernel
theorem dX9_fact_55 : decode cX9_fact 55 = .ok (.iconst (-1), 1) := by decide +kernel
theorem dX9_fact_56 : decode cX9_fact 56 = .ok (.ireturn, 1) := by decide +kernel
theorem dX9_fact_57 : decode cX9_fact 57 = .ok (.aload_n 0, 1) := by decide +kernel
theorem dX9_fact_58 : decode cX9_fact 58 = .ok (.getfield 16, 3) := by decide +kernel
theorem dX9_fact_61 : decode cX9_fact 61 = .ok (.aload_n 0, 1) := by decide +kernel
theorem dX9_fact_62 : decode cX9_fact 62 = .ok (.getfield 123, 3) := by decide +kernel
theorem dX9_fact_65 : decode cX9_fact 65 = .ok (.iload_n 1, 1) := by decide +kernel
theorem dX9_fact_66 : decode cX9_fact 66 = .ok (.iastore, 1) := by decide +kernel
theorem dX9_fact_67 : decode cX9_fact 67 = .ok (.aload_n 0, 1) := by decide +kernel
theorem dX9_fact_68 : decode cX9_fact 68 = .ok (.getfield 19, 3) := by decide +kernel
theorem dX9_fact_71 : decode cX9_fact 71 = .ok (.aload_n 0, 1) := by decide +kernel
theorem dX9_fact_72 : decode cX9_fact 72 = .ok (.getfield 123, 3) := by decide +kernel
theorem dX9_fact_75 : decode cX9_fact 75 = .ok (.iload_n 2, 1) := by decide +kernel
theorem dX9_fact_76 : decode cX9_fact 76 = .ok (.iastore, 1) := by decide +kernel
theorem dX9_fact_77 : decode cX9_fact 77 = .ok (.aload_n 0, 1) := by decide +kernel
theorem dX9_fact_78 : decode cX9_fact 78 = .ok (.getfield 22, 3) := by decide +kernel
theorem dX9_fact_81 : decode cX9_fact 81 = .ok (.aload_n 0, 1) := by decide +kernel
theorem dX9_fact_82 : decode cX9_fact 82 = .ok (.getfield 123, 3) := by decide +kernel
theorem dX9_fact_85 : decode cX9_fact 85 = .ok (.lload_n 3, 1) := by decide +kernel
theorem dX9_fact_86 : decode cX9_fact 86 = .ok (.l2i, 1) := by decide +kernel
theorem dX9_fact_87 : decode cX9_fact 87 = .ok (.iastore, 1) := by decide +kernel
theorem dX9_fact_88 : decode cX9_fact 88 = .ok (.aload_n 0, 1) := by decide +kernel
theorem dX9_fact_89 : decode cX9_fact 89 = .ok (.getfield 25, 3) := by decide +kernel
theorem dX9_fact_92 : decode cX9_fact 92 = .ok (.aload_n 0, 1) := by decide +kernel
theorem dX9_fact_93 : decode cX9_fact 93 = .ok (.getfield 123, 3) := by decide +kernel
theorem dX9_fact_96 : decode cX9_fact 96 = .ok (.lload 5, 2) := by decide +kernel
theorem dX9_fact_98 : decode cX9_fact 98 = .ok (.l2i, 1) := by decide +kernel
theorem dX9_fact_99 : decode cX9_fact 99 = .ok (.iastore, 1) := by decide +kernel
theorem dX9_fact_100 : decode cX9_fact 100 = .ok (.aload_n 0, 1) := by decide +kernel
theorem dX9_fact_101 : decode cX9_fact 101 = .ok (.getfield 28, 3) := by decide +kernel
theorem dX9_fact_104 : decode cX9_fact 104 = .ok (.aload_n 0, 1) := by decide +kernel
theorem dX9_fact_105 : decode cX9_fact 105 = .ok (.getfield 123, 3) := by decide +kernel
theorem dX9_fact_108 : decode cX9_fact 108 = .ok (.lload 7, 2) := by decide +kernel
theorem dX9_fact_110 : decode cX9_fact 110 = .ok (.l2i, 1) := by decide +kernel
theorem dX9_fact_111 : decode cX9_fact 111 = .ok (.iastore, 1) := by decide +kernel
theorem dX9_fact_112 : decode cX9_fact 112 = .ok (.aload_n 0, 1) := by decide +kernel
theorem dX9_fact_113 : decode cX9_fact 113 = .ok (.dup, 1) := by decide +kernel
theorem dX9_fact_114 : decode cX9_fact 114 = .ok (.getfield 123, 3) := by decide +kernel
theorem dX9_fact_117 : decode cX9_fact 117 = .ok (.iconst 1, 1) := by decide +kernel
theorem dX9_fact_118 : decode cX9_fact 118 = .ok (.iadd, 1) := by decide +kernel
theorem dX9_fact_119 : decode cX9_fact 119 = .ok (.putfield 123, 3) := by decide +kernel
theorem dX9_fact_122 : decode cX9_fact 122 = .ok (.aload_n 0, 1) := by decide +kernel
theorem dX9_fact_123 : decode cX9_fact 123 = .ok (.getfield 123, 3) := by decide +kernel
theorem dX9_fact_126 : decode cX9_fact 126 = .ok (.iconst 1, 1) := by decide +kernel
theorem dX9_fact_127 : decode cX9_fact 127 = .ok (.isub, 1) := by decide +kernel
theorem dX9_fact_128 : decode cX9_fact 128 = .ok (.ireturn, 1) := by decide +kernel
theorem dX9_unit_0 : decode cX9_unit 0 = .ok (.iload_n 1, 1) := by decide +kernel
theorem dX9_unit_1 : decode cX9_unit 1 = .ok (.ifCond .lt 20, 3) := by decide +kernel
theorem dX9_unit_4 : decode cX9_unit 4 = .ok (.iload_n 1, 1) := by decide +kernel
theorem dX9_unit_5 : decode cX9_unit 5 = .ok (.sipush 255, 3) := by decide +kernel
theorem dX9_unit_8 : decode cX9_unit 8 = .ok (.if_icmp .gt 13, 3) := by decide +kernel
theorem dX9_unit_11 : decode cX9_unit 11 = .ok (.aload_n 0, 1) := by decide +kernel
theorem dX9_unit_12 : decode cX9_unit 12 = .ok (.getfield 139, 3) := by decide +kernel
theorem dX9_unit_15 : decode cX9_unit 15 = .ok (.sipush 600, 3) := by decide +kernel
theorem dX9_unit_18 : decode cX9_unit 18 = .ok (.if_icmp .ne 5, 3) := by decide +kernel
theorem dX9_unit_21 : decode cX9_unit 21 = .ok (.iconst 0, 1) := by decide +kernel
theorem dX9_unit_22 : decode cX9_unit 22 = .ok (.ireturn, 1) := by decide +kernel
theorem dX9_unit_23 : decode cX9_unit 23 = .ok (.aload_n 0, 1) := by decide +kernel
theorem dX9_unit_24 : decode cX9_unit 24 = .ok (.getfield 31, 3) := by decide +kernel
theorem dX9_unit_27 : decode cX9_unit 27 = .ok (.aload_n 0, 1) := by decide +kernel
theorem dX9_unit_28 : decode cX9_unit 28 = .ok (.getfield 139, 3) := by decide +kernel
theorem dX9_unit_31 : decode cX9_unit 31 = .ok (.iload_n 1, 1) := by decide +kernel
theorem dX9_unit_32 : decode cX9_unit 32 = .ok (.iastore, 1) := by decide +kernel
theorem dX9_unit_33 : decode cX9_unit 33 = .ok (.aload_n 0, 1) := by decide +kernel
theorem dX9_unit_34 : decode cX9_unit 34 = .ok (.dup, 1) := by decide +kernel
theorem dX9_unit_35 : decode cX9_unit 35 = .ok (.getfield 139, 3) := by decide +kernel
theorem dX9_unit_38 : decode cX9_unit 38 = .ok (.iconst 1, 1) := by decide +kernel
theorem dX9_unit_39 : decode cX9_unit 39 = .ok (.iadd, 1) := by decide +kernel
theorem dX9_unit_40 : decode cX9_unit 40 = .ok (.putfield 139, 3) := by decide +kernel
theorem dX9_unit_43 : decode cX9_unit 43 = .ok (.iconst 1, 1) := by decide +kernel
theorem dX9_unit_44 : decode cX9_unit 44 = .ok (.ireturn, 1) := by decide +kernel
theorem dX9_findWords_0 : decode cX9_findWords 0 = .ok (.aload_n 0, 1) := by decide +kernel
theorem dX9_findWords_1 : decode cX9_findWords 1 = .ok (.iconst 0, 1) := by decide +kernel
theorem dX9_findWords_2 : decode cX9_findWords 2 = .ok (.putfield 142, 3) := by decide +kernel
theorem dX9_findWords_5 : decode cX9_findWords 5 = .ok (.iconst 0, 1) := by decide +kernel
theorem dX9_findWords_6 : decode cX9_findWords 6 = .ok (.istore_n 1, 1) := by decide +kernel
theorem dX9_findWords_7 : decode cX9_findWords 7 = .ok (.iconst 0, 1) := by decide +kernel
theorem dX9_findWords_8 : decode cX9_findWords 8 = .ok (.istore_n 2, 1) := by decide +kernel
theorem dX9_findWords_9 : decode cX9_findWords 9 = .ok (.iload_n 2, 1) := by decide +kernel
theorem dX9_findWords_10 : decode cX9_findWords 10 = .ok (.aload_n 0, 1) := by decide +kernel
theorem dX9_findWords_11 : decode cX9_findWords 11 = .ok (.getfield 139, 3) := by decide +kernel
theorem dX9_findWords_14 : decode cX9_findWords 14 = .ok (.if_icmp .ge 93, 3) := by decide +kernel
theorem dX9_findWords_17 : decode cX9_findWords 17 = .ok (.aload_n 0, 1) := by decide +kernel
theorem dX9_findWords_18 : decode cX9_findWords 18 = .ok (.getfield 31, 3) := by decide +kernel
theorem dX9_findWords_21 : decode cX9_findWords 21 = .ok (.iload_n 2, 1) := by decide +kernel
theorem dX9_findWords_22 : decode cX9_findWords 22 = .ok (.iaload, 1) := by decide +kernel
theorem dX9_findWords_23 : decode cX9_findWords 23 = .ok (.bipush 32, 2) := by decide +kernel
theorem dX9_findWords_25 : decode cX9_findWords 25 = .ok (.if_icmp .eq 14, 3) := by decide +kernel
theorem dX9_findWords_28 : decode cX9_findWords 28 = .ok (.aload_n 0, 1) := by decide +kernel
theorem dX9_findWords_29 : decode cX9_findWords 29 = .ok (.getfield 31, 3) := by decide +kernel
theorem dX9_findWords_32 : decode cX9_findWords 32 = .ok (.iload_n 2, 1) := by decide +kernel
theorem dX9_findWords_33 : decode cX9_findWords 33 = .ok (.iaload, 1) := by decide +kernel
theorem dX9_findWords_34 : decode cX9_findWords 34 = .ok (.bipush 10, 2) := by decide +kernel
theorem dX9_findWords_36 : decode cX9_findWords 36 = .ok (.if_icmp .ne 7, 3) := by decide +kernel
theorem dX9_findWords_39 : decode cX9_findWords 39 = .ok (.iconst 1, 1) := by decide +kernel
theorem dX9_findWords_40 : decode cX9_findWords 40 = .ok (.goto 4, 3) := by decide +kernel
theorem dX9_findWords_43 : decode cX9_findWords 43 = .ok (.iconst 0, 1) := by decide +kernel
theorem dX9_findWords_44 : decode cX9_findWords 44 = .ok (.istore_n 3, 1) := by decide +kernel
theorem dX9_findWords_45 : decode cX9_findWords 45 = .ok (.iload_n 3, 1) := by decide +kernel
theorem dX9_findWords_46 : decode cX9_findWords 46 = .ok (.ifCond .ne 27, 3) := by decide +kernel
theorem dX9_findWords_49 : decode cX9_findWords 49 = .ok (.iload_n 1, 1) := by decide +kernel
theorem dX9_findWords_50 : decode cX9_findWords 50 = .ok (.ifCond .ne 23, 3) := by decide +kernel
theorem dX9_findWords_53 : decode cX9_findWords 53 = .ok (.aload_n 0, 1) := by decide +kernel
theorem dX9_findWords_54 : decode cX9_findWords 54 = .ok (.getfield 34, 3) := by decide +kernel
theorem dX9_findWords_57 : decode cX9_findWords 57 = .ok (.aload_n 0, 1) := by decide +kernel
theorem dX9_findWords_58 : decode cX9_findWords 58 = .ok (.getfield 142, 3) := by decide +kernel
theorem dX9_findWords_61 : decode cX9_findWords 61 = .ok (.iload_n 2, 1) := by decide +kernel
theorem dX9_findWords_62 : decode cX9_findWords 62 = .ok (.iastore, 1) := by decide +kernel
theorem dX9_findWords_63 : decode cX9_findWords 63 = .ok (.aload_n 0, 1) := by decide +kernel
theorem dX9_findWords_64 : decode cX9_findWords 64 = .ok (.dup, 1) := by decide +kernel
theorem dX9_findWords_65 : decode cX9_findWords 65 = .ok (.getfield 142, 3) := by decide +kernel
theorem dX9_findWords_68 : decode cX9_findWords 68 = .ok (.iconst 1, 1) := by decide +kernel
theorem dX9_findWords_69 : decode cX9_findWords 69 = .ok (.iadd, 1) := by decide +kernel
theorem dX9_findWords_70 : decode cX9_findWords 70 = .ok (.putfield 142, 3) := by decide +kernel
theorem dX9_findWords_73 : decode cX9_findWords 73 = .ok (.iload_n 3, 1) := by decide +kernel
theorem dX9_findWords_74 : decode cX9_findWords 74 = .ok (.ifCond .ne 17, 3) := by decide +kernel
theorem dX9_findWords_77 : decode cX9_findWords 77 = .ok (.aload_n 0, 1) := by decide +kernel
theorem dX9_findWords_78 : decode cX9_findWords 78 = .ok (.getfield 37, 3) := by decide +kernel
theorem dX9_findWords_81 : decode cX9_findWords 81 = .ok (.aload_n 0, 1) := by decide +kernel
theorem dX9_findWords_82 : decode cX9_findWords 82 = .ok (.getfield 142, 3) := by decide +kernel
theorem dX9_findWords_85 : decode cX9_findWords 85 = .ok (.iconst 1, 1) := by decide +kernel
theorem dX9_findWords_86 : decode cX9_findWords 86 = .ok (.isub, 1) := by decide +kernel
theorem dX9_findWords_87 : decode cX9_findWords 87 = .ok (.iload_n 2, 1) := by decide +kernel
theorem dX9_findWords_88 : decode cX9_findWords 88 = .ok (.iconst 1, 1) := by decide +kernel
theorem dX9_findWords_89 : decode cX9_findWords 89 = .ok (.iadd, 1) := by decide +kernel
theorem dX9_findWords_90 : decode cX9_findWords 90 = .ok (.iastore, 1) := by decide +kernel
theorem dX9_findWords_91 : decode cX9_findWords 91 = .ok (.iload_n 3, 1) := by decide +kernel
theorem dX9_findWords_92 : decode cX9_findWords 92 = .ok (.ifCond .ne 7, 3) := by decide +kernel
theorem dX9_findWords_95 : decode cX9_findWords 95 = .ok (.iconst 1, 1) := by decide +kernel
theorem dX9_findWords_96 : decode cX9_findWords 96 = .ok (.goto 4, 3) := by decide +kernel
theorem dX9_findWords_99 : decode cX9_findWords 99 = .ok (.iconst 0, 1) := by decide +kernel
theorem dX9_findWords_100 : decode cX9_findWords 100 = .ok (.istore_n 1, 1) := by decide +kernel
theorem dX9_findWords_101 : decode cX9_findWords 101 = .ok (.iinc 2 1, 3) := by decide +kernel
theorem dX9_findWords_104 : decode cX9_findWords 104 = .ok (.goto (-95), 3) := by decide +kernel
theorem dX9_findWords_107 : decode cX9_findWords 107 = .ok (.return_, 1) := by decide +kernel
theorem dX9_is_0 : decode cX9_is 0 = .ok (.iload_n 1, 1) := by decide +kernel
theorem dX9_is_1 : decode cX9_is 1 = .ok (.aload_n 0, 1) := by decide +kernel
theorem dX9_is_2 : decode cX9_is 2 = .ok (.getfield 142, 3) := by decide +kernel
theorem dX9_is_5 : decode cX9_is 5 = .ok (.if_icmp .lt 5, 3) := by decide +kernel
theorem dX9_is_8 : decode cX9_is 8 = .ok (.iconst 0, 1) := by decide +kernel
theorem dX9_is_9 : decode cX9_is 9 = .ok (.ireturn, 1) := by decide +kernel
theorem dX9_is_10 : decode cX9_is 10 = .ok (.iload 6, 2) := by decide +kernel
theorem dX9_is_12 : decode cX9_is 12 = .ok (.ifCond .le 7, 3) := by decide +kernel
theorem dX9_is_15 : decode cX9_is 15 = .ok (.iconst 5, 1) := by decide +kernel
theorem dX9_is_16 : decode cX9_is 16 = .ok (.goto 13, 3) := by decide +kernel
theorem dX9_is_19 : decode cX9_is 19 = .ok (.iload 5, 2) := by decide +kernel
theorem dX9_is_21 : decode cX9_is 21 = .ok (.ifCond .le 7, 3) := by decide +kernel
theorem dX9_is_24 : decode cX9_is 24 = .ok (.iconst 4, 1) := by decide +kernel
theorem dX9_is_25 : decode cX9_is 25 = .ok (.goto 4, 3) := by decide +kernel
theorem dX9_is_28 : decode cX9_is 28 = .ok (.iconst 3, 1) := by decide +kernel
theorem dX9_is_29 : decode cX9_is 29 = .ok (.istore 7, 2) := by decide +kernel
theorem dX9_is_31 : decode cX9_is 31 = .ok (.aload_n 0, 1) := by decide +kernel
theorem dX9_is_32 : decode cX9_is 32 = .ok (.getfield 34, 3) := by decide +kernel
theorem dX9_is_35 : decode cX9_is 35 = .ok (.iload_n 1, 1) := by decide +kernel
theorem dX9_is_36 : decode cX9_is 36 = .ok (.iaload, 1) := by decide +kernel
theorem dX9_is_37 : decode cX9_is 37 = .ok (.istore 8, 2) := by decide +kernel
theorem dX9_is_39 : decode cX9_is 39 = .ok (.aload_n 0, 1) := by decide +kernel
theorem dX9_is_40 : decode cX9_is 40 = .ok (.getfield 37, 3) := by decide +kernel
theorem dX9_is_43 : decode cX9_is 43 = .ok (.iload_n 1, 1) := by decide +kernel
theorem dX9_is_44 : decode cX9_is 44 = .ok (.iaload, 1) := by decide +kernel
theorem dX9_is_45 : decode cX9_is 45 = .ok (.iload 8, 2) := by decide +kernel
theorem dX9_is_47 : decode cX9_is 47 = .ok (.isub, 1) := by decide +kernel
theorem dX9_is_48 : decode cX9_is 48 = .ok (.iload 7, 2) := by decide +kernel
theorem dX9_is_50 : decode cX9_is 50 = .ok (.if_icmp .eq 5, 3) := by decide +kernel
theorem dX9_is_53 : decode cX9_is 53 = .ok (.iconst 0, 1) := by decide +kernel
theorem dX9_is_54 : decode cX9_is 54 = .ok (.ireturn, 1) := by decide +kernel
theorem dX9_is_55 : decode cX9_is 55 = .ok (.aload_n 0, 1) := by decide +kernel
theorem dX9_is_56 : decode cX9_is 56 = .ok (.getfield 31, 3) := by decide +kernel
theorem dX9_is_59 : decode cX9_is 59 = .ok (.iload 8, 2) := by decide +kernel
theorem dX9_is_61 : decode cX9_is 61 = .ok (.iaload, 1) := by decide +kernel
theorem dX9_is_62 : decode cX9_is 62 = .ok (.iload_n 2, 1) := by decide +kernel
theorem dX9_is_63 : decode cX9_is 63 = .ok (.if_icmp .ne 34, 3) := by decide +kernel
theorem dX9_is_66 : decode cX9_is 66 = .ok (.aload_n 0, 1) := by decide +kernel
theorem dX9_is_67 : decode cX9_is 67 = .ok (.getfield 31, 3) := by decide +kernel
theorem dX9_is_70 : decode cX9_is 70 = .ok (.iload 8, 2) := by decide +kernel
theorem dX9_is_72 : decode cX9_is 72 = .ok (.iconst 1, 1) := by decide +kernel
theorem dX9_is_73 : decode cX9_is 73 = .ok (.iadd, 1) := by decide +kernel
theorem dX9_is_74 : decode cX9_is 74 = .ok (.iaload, 1) := by decide +kernel
theorem dX9_is_75 : decode cX9_is 75 = .ok (.iload_n 3, 1) := by decide +kernel
theorem dX9_is_76 : decode cX9_is 76 = .ok (.if_icmp .ne 21, 3) := by decide +kernel
theorem dX9_is_79 : decode cX9_is 79 = .ok (.aload_n 0, 1) := by decide +kernel
theorem dX9_is_80 : decode cX9_is 80 = .ok (.getfield 31, 3) := by decide +kernel
theorem dX9_is_83 : decode cX9_is 83 = .ok (.iload 8, 2) := by decide +kernel
theorem dX9_is_85 : decode cX9_is 85 = .ok (.iconst 2, 1) := by decide +kernel
theorem dX9_is_86 : decode cX9_is 86 = .ok (.iadd, 1) := by decide +kernel
theorem dX9_is_87 : decode cX9_is 87 = .ok (.iaload, 1) := by decide +kernel
theorem dX9_is_88 : decode cX9_is 88 = .ok (.iload 4, 2) := by decide +kernel
theorem dX9_is_90 : decode cX9_is 90 = .ok (.if_icmp .ne 7, 3) := by decide +kernel
theorem dX9_is_93 : decode cX9_is 93 = .ok (.iconst 1, 1) := by decide +kernel
theorem dX9_is_94 : decode cX9_is 94 = .ok (.goto 4, 3) := by decide +kernel
theorem dX9_is_97 : decode cX9_is 97 = .ok (.iconst 0, 1) := by decide +kernel
theorem dX9_is_98 : decode cX9_is 98 = .ok (.istore 9, 2) := by decide +kernel
theorem dX9_is_100 : decode cX9_is 100 = .ok (.iload 9, 2) := by decide +kernel
theorem dX9_is_102 : decode cX9_is 102 = .ok (.ifCond .eq 47, 3) := by decide +kernel
theorem dX9_is_105 : decode cX9_is 105 = .ok (.iload 7, 2) := by decide +kernel
theorem dX9_is_107 : decode cX9_is 107 = .ok (.iconst 4, 1) := by decide +kernel
theorem dX9_is_108 : decode cX9_is 108 = .ok (.if_icmp .lt 17, 3) := by decide +kernel
theorem dX9_is_111 : decode cX9_is 111 = .ok (.aload_n 0, 1) := by decide +kernel
theorem dX9_is_112 : decode cX9_is 112 = .ok (.getfield 31, 3) := by decide +kernel
theorem dX9_is_115 : decode cX9_is 115 = .ok (.iload 8, 2) := by decide +kernel
theorem dX9_is_117 : decode cX9_is 117 = .ok (.iconst 3, 1) := by decide +kernel
theorem dX9_is_118 : decode cX9_is 118 = .ok (.iadd, 1) := by decide +kernel
theorem dX9_is_119 : decode cX9_is 119 = .ok (.iaload, 1) := by decide +kernel
theorem dX9_is_120 : decode cX9_is 120 = .ok (.iload 5, 2) := by decide +kernel
theorem dX9_is_122 : decode cX9_is 122 = .ok (.if_icmp .ne 27, 3) := by decide +kernel
theorem dX9_is_125 : decode cX9_is 125 = .ok (.iload 7, 2) := by decide +kernel
theorem dX9_is_127 : decode cX9_is 127 = .ok (.iconst 5, 1) := by decide +kernel
theorem dX9_is_128 : decode cX9_is 128 = .ok (.if_icmp .lt 17, 3) := by decide +kernel
theorem dX9_is_131 : decode cX9_is 131 = .ok (.aload_n 0, 1) := by decide +kernel
theorem dX9_is_132 : decode cX9_is 132 = .ok (.getfield 31, 3) := by decide +kernel
theorem dX9_is_135 : decode cX9_is 135 = .ok (.iload 8, 2) := by decide +kernel
theorem dX9_is_137 : decode cX9_is 137 = .ok (.iconst 4, 1) := by decide +kernel
theorem dX9_is_138 : decode cX9_is 138 = .ok (.iadd, 1) := by decide +kernel
theorem dX9_is_139 : decode cX9_is 139 = .ok (.iaload, 1) := by decide +kernel
theorem dX9_is_140 : decode cX9_is 140 = .ok (.iload 6, 2) := by decide +kernel
theorem dX9_is_142 : decode cX9_is 142 = .ok (.if_icmp .ne 7, 3) := by decide +kernel
theorem dX9_is_145 : decode cX9_is 145 = .ok (.iconst 1, 1) := by decide +kernel
theorem dX9_is_146 : decode cX9_is 146 = .ok (.goto 4, 3) := by decide +kernel
theorem dX9_is_149 : decode cX9_is 149 = .ok (.iconst 0, 1) := by decide +kernel
theorem dX9_is_150 : decode cX9_is 150 = .ok (.ireturn, 1) := by decide +kernel
theorem dX9_number_0 : decode cX9_number 0 = .ok (.iload_n 1, 1) := by decide +kernel
theorem dX9_number_1 : decode cX9_number 1 = .ok (.aload_n 0, 1) := by decide +kernel
theorem dX9_number_2 : decode cX9_number 2 = .ok (.getfield 142, 3) := by decide +kernel
theorem dX9_number_5 : decode cX9_number 5 = .ok (.if_icmp .ge 21, 3) := by decide +kernel
theorem dX9_number_8 : decode cX9_number 8 = .ok (.aload_n 0, 1) := by decide +kernel
theorem dX9_number_9 : decode cX9_number 9 = .ok (.getfield 37, 3) := by decide +kernel
theorem dX9_number_12 : decode cX9_number 12 = .ok (.iload_n 1, 1) := by decide +kernel
theorem dX9_number_13 : decode cX9_number 13 = .ok (.iaload, 1) := by decide +kernel
theorem dX9_number_14 : decode cX9_number 14 = .ok (.aload_n 0, 1) := by decide +kernel
theorem dX9_number_15 : decode cX9_number 15 = .ok (.getfield 34, 3) := by decide +kernel
theorem dX9_number_18 : decode cX9_number 18 = .ok (.iload_n 1, 1) := by decide +kernel
theorem dX9_number_19 : decode cX9_number 19 = .ok (.iaload, 1) := by decide +kernel
theorem dX9_number_20 : decode cX9_number 20 = .ok (.isub, 1) := by decide +kernel
theorem dX9_number_21 : decode cX9_number 21 = .ok (.bipush 6, 2) := by decide +kernel
theorem dX9_number_23 : decode cX9_number 23 = .ok (.if_icmp .le 5, 3) := by decide +kernel
theorem dX9_number_26 : decode cX9_number 26 = .ok (.iconst (-1), 1) := by decide +kernel
theorem dX9_number_27 : decode cX9_number 27 = .ok (.ireturn, 1) := by decide +kernel
theorem dX9_number_28 : decode cX9_number 28 = .ok (.iconst 0, 1) := by decide +kernel
theorem dX9_number_29 : decode cX9_number 29 = .ok (.istore_n 2, 1) := by decide +kernel
theorem dX9_number_30 : decode cX9_number 30 = .ok (.aload_n 0, 1) := by decide +kernel
theorem dX9_number_31 : decode cX9_number 31 = .ok (.getfield 34, 3) := by decide +kernel
theorem dX9_number_34 : decode cX9_number 34 = .ok (.iload_n 1, 1) := by decide +kernel
theorem dX9_number_35 : decode cX9_number 35 = .ok (.iaload, 1) := by decide +kernel
theorem dX9_number_36 : decode cX9_number 36 = .ok (.istore_n 3, 1) := by decide +kernel
theorem dX9_number_37 : decode cX9_number 37 = .ok (.iload_n 3, 1) := by decide +kernel
theorem dX9_number_38 : decode cX9_number 38 = .ok (.aload_n 0, 1) := by decide +kernel
theorem dX9_number_39 : decode cX9_number 39 = .ok (.getfield 37, 3) := by decide +kernel
theorem dX9_number_42 : decode cX9_number 42 = .ok (.iload_n 1, 1) := by decide +kernel
theorem dX9_number_43 : decode cX9_number 43 = .ok (.iaload, 1) := by decide +kernel
theorem dX9_number_44 : decode cX9_number 44 = .ok (.if_icmp .ge 48, 3) := by decide +kernel
theorem dX9_number_47 : decode cX9_number 47 = .ok (.aload_n 0, 1) := by decide +kernel
theorem dX9_number_48 : decode cX9_number 48 = .ok (.getfield 31, 3) := by decide +kernel
theorem dX9_number_51 : decode cX9_number 51 = .ok (.iload_n 3, 1) := by decide +kernel
theorem dX9_number_52 : decode cX9_number 52 = .ok (.iaload, 1) := by decide +kernel
theorem dX9_number_53 : decode cX9_number 53 = .ok (.bipush 48, 2) := by decide +kernel
theorem dX9_number_55 : decode cX9_number 55 = .ok (.if_icmp .lt 14, 3) := by decide +kernel
theorem dX9_number_58 : decode cX9_number 58 = .ok (.aload_n 0, 1) := by decide +kernel
theorem dX9_number_59 : decode cX9_number 59 = .ok (.getfield 31, 3) := by decide +kernel
theorem dX9_number_62 : decode cX9_number 62 = .ok (.iload_n 3, 1) := by decide +kernel
theorem dX9_number_63 : decode cX9_number 63 = .ok (.iaload, 1) := by decide +kernel
theorem dX9_number_64 : decode cX9_number 64 = .ok (.bipush 57, 2) := by decide +kernel
theorem dX9_number_66 : decode cX9_number 66 = .ok (.if_icmp .le 5, 3) := by decide +kernel
theorem dX9_number_69 : decode cX9_number 69 = .ok (.iconst (-1), 1) := by decide +kernel
theorem dX9_number_70 : decode cX9_number 70 = .ok (.ireturn, 1) := by decide +kernel
theorem dX9_number_71 : decode cX9_number 71 = .ok (.bipush 10, 2) := by decide +kernel
theorem dX9_number_73 : decode cX9_number 73 = .ok (.iload_n 2, 1) := by decide +kernel
theorem dX9_number_74 : decode cX9_number 74 = .ok (.imul, 1) := by decide +kernel
theorem dX9_number_75 : decode cX9_number 75 = .ok (.aload_n 0, 1) := by decide +kernel
theorem dX9_number_76 : decode cX9_number 76 = .ok (.getfield 31, 3) := by decide +kernel
theorem dX9_number_79 : decode cX9_number 79 = .ok (.iload_n 3, 1) := by decide +kernel
theorem dX9_number_80 : decode cX9_number 80 = .ok (.iaload, 1) := by decide +kernel
theorem dX9_number_81 : decode cX9_number 81 = .ok (.iadd, 1) := by decide +kernel
theorem dX9_number_82 : decode cX9_number 82 = .ok (.bipush 48, 2) := by decide +kernel
theorem dX9_number_84 : decode cX9_number 84 = .ok (.isub, 1) := by decide +kernel
theorem dX9_number_85 : decode cX9_number 85 = .ok (.istore_n 2, 1) := by decide +kernel
theorem dX9_number_86 : decode cX9_number 86 = .ok (.iinc 3 1, 3) := by decide +kernel
theorem dX9_number_89 : decode cX9_number 89 = .ok (.goto (-52), 3) := by decide +kernel
theorem dX9_number_92 : decode cX9_number 92 = .ok (.iload_n 2, 1) := by decide +kernel
theorem dX9_number_93 : decode cX9_number 93 = .ok (.ireturn, 1) := by decide +kernel
set_option maxRecDepth 20000 in
theorem ggX9_isKindWord_X9_is : GoodIn wsX9_isKindWord wsX9_is := goodIn_r _ [5, 6, 7, 8, 9, 10, 11, 12, 13, 14, 15, 16, 17, 18, 19, 20, 21, 22, 23, 24, 25, 26, 27, 28, 29, 30, 31, 32, 33, 34, 35, 36, 37, 38, 39, 40, 41, 42, 43, 44, 45, 46, 47, 48, 49, 50, 51, 52] (by decide +kernel) (by decide +kernel)
set_option maxRecDepth 20000 in
theorem gX9_isKindWord_X9_is : GoodIn wsX9_isKindWord (wsV RX9 145 RX9 yX9_is wsX9_is) := goodIn_app (goodIn_of _ (by decide +kernel)) ggX9_isKindWord_X9_is
theorem dX9_isKindWord_0 : decode cX9_isKindWord 0 = .ok (.aload_n 0, 1) := by decide +kernel
theorem dX9_isKindWord_1 : decode cX9_isKindWord 1 = .ok (.iload_n 1, 1) := by decide +kernel
theorem dX9_isKindWord_2 : decode cX9_isKindWord 2 = .ok (.bipush 107, 2) := by decide +kernel
theorem dX9_isKindWord_4 : decode cX9_isKindWord 4 = .ok (.bipush 105, 2) := by decide +kernel
theorem dX9_isKindWord_6 : decode cX9_isKindWord 6 = .ok (.bipush 110, 2) := by decide +kernel
theorem dX9_isKindWord_8 : decode cX9_isKindWord 8 = .ok (.bipush 100, 2) := by decide +kernel
theorem dX9_isKindWord_10 : decode cX9_isKindWord 10 = .ok (.iconst 0, 1) := by decide +kernel
theorem dX9_isKindWord_11 : decode cX9_isKindWord 11 = .ok (.invokevirtual 145, 3) := by decide +kernel
theorem dX9_isKindWord_14 : decode cX9_isKindWord 14 = .ok (.ireturn, 1) := by decide +kernel
set_option maxRecDepth 20000 in
theorem ggX9_isPer_X9_is : GoodIn wsX9_isPer wsX9_is := goodIn_r _ [5, 6, 7, 8, 9, 10, 11, 12, 13, 14, 15, 16, 17, 18, 19, 20, 21, 22, 23, 24, 25, 26, 27, 28, 29, 30, 31, 32, 33, 34, 35, 36, 37, 38, 39, 40, 41, 42, 43, 44, 45, 46, 47, 48, 49, 50, 51, 52] (by decide +kernel) (by decide +kernel)
set_option maxRecDepth 20000 in
theorem gX9_isPer_X9_is : GoodIn wsX9_isPer (wsV RX9 145 RX9 yX9_is wsX9_is) := goodIn_app (goodIn_of _ (by decide +kernel)) ggX9_isPer_X9_is
theorem dX9_isPer_0 : decode cX9_isPer 0 = .ok (.aload_n 0, 1) := by decide +kernel
theorem dX9_isPer_1 : decode cX9_isPer 1 = .ok (.iload_n 1, 1) := by decide +kernel
theorem dX9_isPer_2 : decode cX9_isPer 2 = .ok (.bipush 112, 2) := by decide +kernel
theorem dX9_isPer_4 : decode cX9_isPer 4 = .ok (.bipush 101, 2) := by decide +kernel
theorem dX9_isPer_6 : decode cX9_isPer 6 = .ok (.bipush 114, 2) := by decide +kernel
theorem dX9_isPer_8 : decode cX9_isPer 8 = .ok (.iconst 0, 1) := by decide +kernel
theorem dX9_isPer_9 : decode cX9_isPer 9 = .ok (.iconst 0, 1) := by decide +kernel
theorem dX9_isPer_10 : decode cX9_isPer 10 = .ok (.invokevirtual 145, 3) := by decide +kernel
theorem dX9_isPer_13 : decode cX9_isPer 13 = .ok (.ireturn, 1) := by decide +kernel
set_option maxRecDepth 20000 in
theorem ggX9_isPrice_X9_is : GoodIn wsX9_isPrice wsX9_is := goodIn_r _ [5, 6, 7, 8, 9, 10, 11, 12, 13, 14, 15, 16, 17, 18, 19, 20, 21, 22, 23, 24, 25, 26, 27, 28, 29, 30, 31, 32, 33, 34, 35, 36, 37, 38, 39, 40, 41, 42, 43, 44, 45, 46, 47, 48, 49, 50, 51, 52] (by decide +kernel) (by decide +kernel)
set_option maxRecDepth 20000 in
theorem gX9_isPrice_X9_is : GoodIn wsX9_isPrice (wsV RX9 145 RX9 yX9_is wsX9_is) := goodIn_app (goodIn_of _ (by decide +kernel)) ggX9_isPrice_X9_is
theorem dX9_isPrice_0 : decode cX9_isPrice 0 = .ok (.aload_n 0, 1) := by decide +kernel
theorem dX9_isPrice_1 : decode cX9_isPrice 1 = .ok (.iload_n 1, 1) := by decide +kernel
theorem dX9_isPrice_2 : decode cX9_isPrice 2 = .ok (.bipush 112, 2) := by decide +kernel
theorem dX9_isPrice_4 : decode cX9_isPrice 4 = .ok (.bipush 114, 2) := by decide +kernel
theorem dX9_isPrice_6 : decode cX9_isPrice 6 = .ok (.bipush 105, 2) := by decide +kernel
theorem dX9_isPrice_8 : decode cX9_isPrice 8 = .ok (.bipush 99, 2) := by decide +kernel
theorem dX9_isPrice_10 : decode cX9_isPrice 10 = .ok (.bipush 101, 2) := by decide +kernel
theorem dX9_isPrice_12 : decode cX9_isPrice 12 = .ok (.invokevirtual 145, 3) := by decide +kernel
theorem dX9_isPrice_15 : decode cX9_isPrice 15 = .ok (.ireturn, 1) := by decide +kernel
set_option maxRecDepth 20000 in
theorem ggX9_isStep_X9_is : GoodIn wsX9_isStep wsX9_is := goodIn_r _ [5, 6, 7, 8, 9, 10, 11, 12, 13, 14, 15, 16, 17, 18, 19, 20, 21, 22, 23, 24, 25, 26, 27, 28, 29, 30, 31, 32, 33, 34, 35, 36, 37, 38, 39, 40, 41, 42, 43, 44, 45, 46, 47, 48, 49, 50, 51, 52] (by decide +kernel) (by decide +kernel)
set_option maxRecDepth 20000 in
theorem gX9_isStep_X9_is : GoodIn wsX9_isStep (wsV RX9 145 RX9 yX9_is wsX9_is) := goodIn_app (goodIn_of _ (by decide +kernel)) ggX9_isStep_X9_is
theorem dX9_isStep_0 : decode cX9_isStep 0 = .ok (.aload_n 0, 1) := by decide +kernel
theorem dX9_isStep_1 : decode cX9_isStep 1 = .ok (.iload_n 1, 1) := by decide +kernel
theorem dX9_isStep_2 : decode cX9_isStep 2 = .ok (.bipush 115, 2) := by decide +kernel
theorem dX9_isStep_4 : decode cX9_isStep 4 = .ok (.bipush 116, 2) := by decide +kernel
theorem dX9_isStep_6 : decode cX9_isStep 6 = .ok (.bipush 101, 2) := by decide +kernel
theorem dX9_isStep_8 : decode cX9_isStep 8 = .ok (.bipush 112, 2) := by decide +kernel
theorem dX9_isStep_10 : decode cX9_isStep 10 = .ok (.iconst 0, 1) := by decide +kernel
theorem dX9_isStep_11 : decode cX9_isStep 11 = .ok (.invokevirtual 145, 3) := by decide +kernel
theorem dX9_isStep_14 : decode cX9_isStep 14 = .ok (.ireturn, 1) := by decide +kernel
set_option maxRecDepth 20000 in
theorem ggX9_isCap_X9_is : GoodIn wsX9_isCap wsX9_is := goodIn_r _ [5, 6, 7, 8, 9, 10, 11, 12, 13, 14, 15, 16, 17, 18, 19, 20, 21, 22, 23, 24, 25, 26, 27, 28, 29, 30, 31, 32, 33, 34, 35, 36, 37, 38, 39, 40, 41, 42, 43, 44, 45, 46, 47, 48, 49, 50, 51, 52] (by decide +kernel) (by decide +kernel)
set_option maxRecDepth 20000 in
theorem gX9_isCap_X9_is : GoodIn wsX9_isCap (wsV RX9 145 RX9 yX9_is wsX9_is) := goodIn_app (goodIn_of _ (by decide +kernel)) ggX9_isCap_X9_is
theorem dX9_isCap_0 : decode cX9_isCap 0 = .ok (.aload_n 0, 1) := by decide +kernel
theorem dX9_isCap_1 : decode cX9_isCap 1 = .ok (.iload_n 1, 1) := by decide +kernel
theorem dX9_isCap_2 : decode cX9_isCap 2 = .ok (.bipush 99, 2) := by decide +kernel
theorem dX9_isCap_4 : decode cX9_isCap 4 = .ok (.bipush 97, 2) := by decide +kernel
theorem dX9_isCap_6 : decode cX9_isCap 6 = .ok (.bipush 112, 2) := by decide +kernel
theorem dX9_isCap_8 : decode cX9_isCap 8 = .ok (.iconst 0, 1) := by decide +kernel
theorem dX9_isCap_9 : decode cX9_isCap 9 = .ok (.iconst 0, 1) := by decide +kernel
theorem dX9_isCap_10 : decode cX9_isCap 10 = .ok (.invokevirtual 145, 3) := by decide +kernel
theorem dX9_isCap_13 : decode cX9_isCap 13 = .ok (.ireturn, 1) := by decide +kernel
set_option maxRecDepth 20000 in
theorem ggX9_rules_X9_isKindWord : GoodIn wsX9_rules wsX9_isKindWord := goodIn_r _ [14, 15, 16, 17, 13, 18, 3, 19, 20, 21, 42, 43, 44, 45, 46, 47, 48, 49, 50, 51, 52, 53, 54, 55, 56, 57, 58, 59, 60, 61, 62, 63, 64, 65, 66, 67, 68, 69, 70, 71, 72, 73, 74, 75, 76, 77, 78, 79, 80, 81, 82, 83, 84] (by decide +kernel) (by decide +kernel)
set_option maxRecDepth 20000 in
theorem gX9_rules_X9_isKindWord : GoodIn wsX9_rules (wsV RX9 152 RX9 yX9_isKindWord wsX9_isKindWord) := goodIn_app (goodIn_of _ (by decide +kernel)) ggX9_rules_X9_isKindWord
set_option maxRecDepth 20000 in
theorem ggX9_rules_X9_number : GoodIn wsX9_rules wsX9_number := goodIn_r _ [25, 3, 20, 19, 21, 42, 43, 44, 45, 46, 47, 48, 49, 50, 51, 52, 53, 54, 55, 56, 57, 58, 59, 60, 61, 62, 63, 64, 65, 66, 67, 68, 69, 70, 71, 72, 73, 74, 75, 76, 77, 78, 79, 80, 81, 82, 83, 84] (by decide +kernel) (by decide +kernel)
set_option maxRecDepth 20000 in
theorem gX9_rules_X9_number : GoodIn wsX9_rules (wsV RX9 155 RX9 yX9_number wsX9_number) := goodIn_app (goodIn_of _ (by decide +kernel)) ggX9_rules_X9_number
set_option maxRecDepth 20000 in
theorem ggX9_rules_X9_isPer : GoodIn wsX9_rules wsX9_isPer := goodIn_r _ [29, 15, 16, 17, 13, 18, 3, 19, 20, 21, 42, 43, 44, 45, 46, 47, 48, 49, 50, 51, 52, 53, 54, 55, 56, 57, 58, 59, 60, 61, 62, 63, 64, 65, 66, 67, 68, 69, 70, 71, 72, 73, 74, 75, 76, 77, 78, 79, 80, 81, 82, 83, 84] (by decide +kernel) (by decide +kernel)
set_option maxRecDepth 20000 in
theorem gX9_rules_X9_isPer : GoodIn wsX9_rules (wsV RX9 159 RX9 yX9_isPer wsX9_isPer) := goodIn_app (goodIn_of _ (by decide +kernel)) ggX9_rules_X9_isPer
set_option maxRecDepth 20000 in
theorem ggX9_rules_X9_isPrice : GoodIn wsX9_rules wsX9_isPrice := goodIn_r _ [33, 15, 16, 17, 13, 18, 3, 19, 20, 21, 42, 43, 44, 45, 46, 47, 48, 49, 50, 51, 52, 53, 54, 55, 56, 57, 58, 59, 60, 61, 62, 63, 64, 65, 66, 67, 68, 69, 70, 71, 72, 73, 74, 75, 76, 77, 78, 79, 80, 81, 82, 83, 84] (by decide +kernel) (by decide +kernel)
set_option maxRecDepth 20000 in
theorem gX9_rules_X9_isPrice : GoodIn wsX9_rules (wsV RX9 162 RX9 yX9_isPrice wsX9_isPrice) := goodIn_app (goodIn_of _ (by decide +kernel)) ggX9_rules_X9_isPrice
set_option maxRecDepth 20000 in
theorem ggX9_rules_X9_isStep : GoodIn wsX9_rules wsX9_isStep := goodIn_r _ [37, 15, 16, 17, 13, 18, 3, 19, 20, 21, 42, 43, 44, 45, 46, 47, 48, 49, 50, 51, 52, 53, 54, 55, 56, 57, 58, 59, 60, 61, 62, 63, 64, 65, 66, 67, 68, 69, 70, 71, 72, 73, 74, 75, 76, 77, 78, 79, 80, 81, 82, 83, 84] (by decide +kernel) (by decide +kernel)
set_option maxRecDepth 20000 in
theorem gX9_rules_X9_isStep : GoodIn wsX9_rules (wsV RX9 165 RX9 yX9_isStep wsX9_isStep) := goodIn_app (goodIn_of _ (by decide +kernel)) ggX9_rules_X9_isStep
set_option maxRecDepth 20000 in
theorem ggX9_rules_X9_isCap : GoodIn wsX9_rules wsX9_isCap := goodIn_r _ [41, 15, 16, 17, 13, 18, 3, 19, 20, 21, 42, 43, 44, 45, 46, 47, 48, 49, 50, 51, 52, 53, 54, 55, 56, 57, 58, 59, 60, 61, 62, 63, 64, 65, 66, 67, 68, 69, 70, 71, 72, 73, 74, 75, 76, 77, 78, 79, 80, 81, 82, 83, 84] (by decide +kernel) (by decide +kernel)
set_option maxRecDepth 20000 in
theorem gX9_rules_X9_isCap : GoodIn wsX9_rules (wsV RX9 168 RX9 yX9_isCap wsX9_isCap) := goodIn_app (goodIn_of _ (by decide +kernel)) ggX9_rules_X9_isCap
theorem dX9_rules_0 : decode cX9_rules 0 = .ok (.bipush 6, 2) := by decide +kernel
theorem dX9_rules_2 : decode cX9_rules 2 = .ok (.aload_n 0, 1) := by decide +kernel
theorem dX9_rules_3 : decode cX9_rules 3 = .ok (.getfield 149, 3) := by decide +kernel
theorem dX9_rules_6 : decode cX9_rules 6 = .ok (.imul, 1) := by decide +kernel
theorem dX9_rules_7 : decode cX9_rules 7 = .ok (.istore_n 1, 1) := by decide +kernel
theorem dX9_rules_8 : decode cX9_rules 8 = .ok (.iconst 0, 1) := by decide +kernel
theorem dX9_rules_9 : decode cX9_rules 9 = .ok (.istore_n 2, 1) := by decide +kernel
theorem dX9_rules_10 : decode cX9_rules 10 = .ok (.iload_n 2, 1) := by decide +kernel
theorem dX9_rules_11 : decode cX9_rules 11 = .ok (.bipush 6, 2) := by decide +kernel
theorem dX9_rules_13 : decode cX9_rules 13 = .ok (.if_icmp .ge 18, 3) := by decide +kernel
theorem dX9_rules_16 : decode cX9_rules 16 = .ok (.aload_n 0, 1) := by decide +kernel
theorem dX9_rules_17 : decode cX9_rules 17 = .ok (.getfield 46, 3) := by decide +kernel
theorem dX9_rules_20 : decode cX9_rules 20 = .ok (.iload_n 1, 1) := by decide +kernel
theorem dX9_rules_21 : decode cX9_rules 21 = .ok (.iload_n 2, 1) := by decide +kernel
theorem dX9_rules_22 : decode cX9_rules 22 = .ok (.iadd, 1) := by decide +kernel
theorem dX9_rules_23 : decode cX9_rules 23 = .ok (.iconst 0, 1) := by decide +kernel
theorem dX9_rules_24 : decode cX9_rules 24 = .ok (.bastore, 1) := by decide +kernel
theorem dX9_rules_25 : decode cX9_rules 25 = .ok (.iinc 2 1, 3) := by decide +kernel
theorem dX9_rules_28 : decode cX9_rules 28 = .ok (.goto (-18), 3) := by decide +kernel
theorem dX9_rules_31 : decode cX9_rules 31 = .ok (.iconst 0, 1) := by decide +kernel
theorem dX9_rules_32 : decode cX9_rules 32 = .ok (.istore_n 2, 1) := by decide +kernel
theorem dX9_rules_33 : decode cX9_rules 33 = .ok (.iconst 0, 1) := by decide +kernel
theorem dX9_rules_34 : decode cX9_rules 34 = .ok (.istore_n 3, 1) := by decide +kernel
theorem dX9_rules_35 : decode cX9_rules 35 = .ok (.iload_n 3, 1) := by decide +kernel
theorem dX9_rules_36 : decode cX9_rules 36 = .ok (.aload_n 0, 1) := by decide +kernel
theorem dX9_rules_37 : decode cX9_rules 37 = .ok (.getfield 142, 3) := by decide +kernel
theorem dX9_rules_40 : decode cX9_rules 40 = .ok (.if_icmp .ge 336, 3) := by decide +kernel
theorem dX9_rules_43 : decode cX9_rules 43 = .ok (.aload_n 0, 1) := by decide +kernel
theorem dX9_rules_44 : decode cX9_rules 44 = .ok (.iload_n 3, 1) := by decide +kernel
theorem dX9_rules_45 : decode cX9_rules 45 = .ok (.invokevirtual 152, 3) := by decide +kernel
theorem dX9_rules_48 : decode cX9_rules 48 = .ok (.ifCond .ne 7, 3) := by decide +kernel
theorem dX9_rules_51 : decode cX9_rules 51 = .ok (.iconst (-1), 1) := by decide +kernel
theorem dX9_rules_52 : decode cX9_rules 52 = .ok (.iload_n 3, 1) := by decide +kernel
theorem dX9_rules_53 : decode cX9_rules 53 = .ok (.isub, 1) := by decide +kernel
theorem dX9_rules_54 : decode cX9_rules 54 = .ok (.ireturn, 1) := by decide +kernel
theorem dX9_rules_55 : decode cX9_rules 55 = .ok (.aload_n 0, 1) := by decide +kernel
theorem dX9_rules_56 : decode cX9_rules 56 = .ok (.iload_n 3, 1) := by decide +kernel
theorem dX9_rules_57 : decode cX9_rules 57 = .ok (.iconst 1, 1) := by decide +kernel
theorem dX9_rules_58 : decode cX9_rules 58 = .ok (.iadd, 1) := by decide +kernel
theorem dX9_rules_59 : decode cX9_rules 59 = .ok (.invokevirtual 155, 3) := by decide +kernel
theorem dX9_rules_62 : decode cX9_rules 62 = .ok (.istore 4, 2) := by decide +kernel
theorem dX9_rules_64 : decode cX9_rules 64 = .ok (.iload 4, 2) := by decide +kernel
theorem dX9_rules_66 : decode cX9_rules 66 = .ok (.ifCond .lt 9, 3) := by decide +kernel
theorem dX9_rules_69 : decode cX9_rules 69 = .ok (.iload 4, 2) := by decide +kernel
theorem dX9_rules_71 : decode cX9_rules 71 = .ok (.iconst 5, 1) := by decide +kernel
theorem dX9_rules_72 : decode cX9_rules 72 = .ok (.if_icmp .le 8, 3) := by decide +kernel
theorem dX9_rules_75 : decode cX9_rules 75 = .ok (.bipush (-2), 2) := by decide +kernel
theorem dX9_rules_77 : decode cX9_rules 77 = .ok (.iload_n 3, 1) := by decide +kernel
theorem dX9_rules_78 : decode cX9_rules 78 = .ok (.isub, 1) := by decide +kernel
theorem dX9_rules_79 : decode cX9_rules 79 = .ok (.ireturn, 1) := by decide +kernel
theorem dX9_rules_80 : decode cX9_rules 80 = .ok (.aload_n 0, 1) := by decide +kernel
theorem dX9_rules_81 : decode cX9_rules 81 = .ok (.getfield 46, 3) := by decide +kernel
theorem dX9_rules_84 : decode cX9_rules 84 = .ok (.iload_n 1, 1) := by decide +kernel
theorem dX9_rules_85 : decode cX9_rules 85 = .ok (.iload 4, 2) := by decide +kernel
theorem dX9_rules_87 : decode cX9_rules 87 = .ok (.iadd, 1) := by decide +kernel
theorem dX9_rules_88 : decode cX9_rules 88 = .ok (.baload, 1) := by decide +kernel
theorem dX9_rules_89 : decode cX9_rules 89 = .ok (.ifCond .eq 8, 3) := by decide +kernel
theorem dX9_rules_92 : decode cX9_rules 92 = .ok (.bipush (-2), 2) := by decide +kernel
theorem dX9_rules_94 : decode cX9_rules 94 = .ok (.iload_n 3, 1) := by decide +kernel
theorem dX9_rules_95 : decode cX9_rules 95 = .ok (.isub, 1) := by decide +kernel
theorem dX9_rules_96 : decode cX9_rules 96 = .ok (.ireturn, 1) := by decide +kernel
theorem dX9_rules_97 : decode cX9_rules 97 = .ok (.iload_n 1, 1) := by decide +kernel
theorem dX9_rules_98 : decode cX9_rules 98 = .ok (.iload 4, 2) := by decide +kernel
theorem dX9_rules_100 : decode cX9_rules 100 = .ok (.iadd, 1) := by decide +kernel
theorem dX9_rules_101 : decode cX9_rules 101 = .ok (.istore 5, 2) := by decide +kernel
theorem dX9_rules_103 : decode cX9_rules 103 = .ok (.aload_n 0, 1) := by decide +kernel
theorem dX9_rules_104 : decode cX9_rules 104 = .ok (.iload_n 3, 1) := by decide +kernel
theorem dX9_rules_105 : decode cX9_rules 105 = .ok (.iconst 2, 1) := by decide +kernel
theorem dX9_rules_106 : decode cX9_rules 106 = .ok (.iadd, 1) := by decide +kernel
theorem dX9_rules_107 : decode cX9_rules 107 = .ok (.invokevirtual 159, 3) := by decide +kernel
theorem dX9_rules_110 : decode cX9_rules 110 = .ok (.ifCond .ne 8, 3) := by decide +kernel
theorem dX9_rules_113 : decode cX9_rules 113 = .ok (.bipush (-3), 2) := by decide +kernel
theorem dX9_rules_115 : decode cX9_rules 115 = .ok (.iload_n 3, 1) := by decide +kernel
theorem dX9_rules_116 : decode cX9_rules 116 = .ok (.isub, 1) := by decide +kernel
theorem dX9_rules_117 : decode cX9_rules 117 = .ok (.ireturn, 1) := by decide +kernel
theorem dX9_rules_118 : decode cX9_rules 118 = .ok (.aload_n 0, 1) := by decide +kernel
theorem dX9_rules_119 : decode cX9_rules 119 = .ok (.getfield 50, 3) := by decide +kernel
theorem dX9_rules_122 : decode cX9_rules 122 = .ok (.iload 5, 2) := by decide +kernel
theorem dX9_rules_124 : decode cX9_rules 124 = .ok (.aload_n 0, 1) := by decide +kernel
theorem dX9_rules_125 : decode cX9_rules 125 = .ok (.iload_n 3, 1) := by decide +kernel
theorem dX9_rules_126 : decode cX9_rules 126 = .ok (.iconst 3, 1) := by decide +kernel
theorem dX9_rules_127 : decode cX9_rules 127 = .ok (.iadd, 1) := by decide +kernel
theorem dX9_rules_128 : decode cX9_rules 128 = .ok (.invokevirtual 155, 3) := by decide +kernel
theorem dX9_rules_131 : decode cX9_rules 131 = .ok (.iastore, 1) := by decide +kernel
theorem dX9_rules_132 : decode cX9_rules 132 = .ok (.aload_n 0, 1) := by decide +kernel
theorem dX9_rules_133 : decode cX9_rules 133 = .ok (.getfield 50, 3) := by decide +kernel
theorem dX9_rules_136 : decode cX9_rules 136 = .ok (.iload 5, 2) := by decide +kernel
theorem dX9_rules_138 : decode cX9_rules 138 = .ok (.iaload, 1) := by decide +kernel
theorem dX9_rules_139 : decode cX9_rules 139 = .ok (.ifCond .ge 8, 3) := by decide +kernel
theorem dX9_rules_142 : decode cX9_rules 142 = .ok (.bipush (-4), 2) := by decide +kernel
theorem dX9_rules_144 : decode cX9_rules 144 = .ok (.iload_n 3, 1) := by decide +kernel
theorem dX9_rules_145 : decode cX9_rules 145 = .ok (.isub, 1) := by decide +kernel
theorem dX9_rules_146 : decode cX9_rules 146 = .ok (.ireturn, 1) := by decide +kernel
theorem dX9_rules_147 : decode cX9_rules 147 = .ok (.aload_n 0, 1) := by decide +kernel
theorem dX9_rules_148 : decode cX9_rules 148 = .ok (.iload_n 3, 1) := by decide +kernel
theorem dX9_rules_149 : decode cX9_rules 149 = .ok (.iconst 4, 1) := by decide +kernel
theorem dX9_rules_150 : decode cX9_rules 150 = .ok (.iadd, 1) := by decide +kernel
theorem dX9_rules_151 : decode cX9_rules 151 = .ok (.invokevirtual 162, 3) := by decide +kernel
theorem dX9_rules_154 : decode cX9_rules 154 = .ok (.ifCond .ne 8, 3) := by decide +kernel
theorem dX9_rules_157 : decode cX9_rules 157 = .ok (.bipush (-5), 2) := by decide +kernel
theorem dX9_rules_159 : decode cX9_rules 159 = .ok (.iload_n 3, 1) := by decide +kernel
theorem dX9_rules_160 : decode cX9_rules 160 = .ok (.isub, 1) := by decide +kernel
theorem dX9_rules_161 : decode cX9_rules 161 = .ok (.ireturn, 1) := by decide +kernel
theorem dX9_rules_162 : decode cX9_rules 162 = .ok (.aload_n 0, 1) := by decide +kernel
theorem dX9_rules_163 : decode cX9_rules 163 = .ok (.getfield 53, 3) := by decide +kernel
theorem dX9_rules_166 : decode cX9_rules 166 = .ok (.iload 5, 2) := by decide +kernel
theorem dX9_rules_168 : decode cX9_rules 168 = .ok (.aload_n 0, 1) := by decide +kernel
theorem dX9_rules_169 : decode cX9_rules 169 = .ok (.iload_n 3, 1) := by decide +kernel
theorem dX9_rules_170 : decode cX9_rules 170 = .ok (.iconst 5, 1) := by decide +kernel
theorem dX9_rules_171 : decode cX9_rules 171 = .ok (.iadd, 1) := by decide +kernel
theorem dX9_rules_172 : decode cX9_rules 172 = .ok (.invokevirtual 155, 3) := by decide +kernel
theorem dX9_rules_175 : decode cX9_rules 175 = .ok (.iastore, 1) := by decide +kernel
theorem dX9_rules_176 : decode cX9_rules 176 = .ok (.aload_n 0, 1) := by decide +kernel
theorem dX9_rules_177 : decode cX9_rules 177 = .ok (.getfield 53, 3) := by decide +kernel
theorem dX9_rules_180 : decode cX9_rules 180 = .ok (.iload 5, 2) := by decide +kernel
theorem dX9_rules_182 : decode cX9_rules 182 = .ok (.iaload, 1) := by decide +kernel
theorem dX9_rules_183 : decode cX9_rules 183 = .ok (.ifCond .ge 8, 3) := by decide +kernel
theorem dX9_rules_186 : decode cX9_rules 186 = .ok (.bipush (-6), 2) := by decide +kernel
theorem dX9_rules_188 : decode cX9_rules 188 = .ok (.iload_n 3, 1) := by decide +kernel
theorem dX9_rules_189 : decode cX9_rules 189 = .ok (.isub, 1) := by decide +kernel
theorem dX9_rules_190 : decode cX9_rules 190 = .ok (.ireturn, 1) := by decide +kernel
theorem dX9_rules_191 : decode cX9_rules 191 = .ok (.iinc 3 6, 3) := by decide +kernel
theorem dX9_rules_194 : decode cX9_rules 194 = .ok (.aload_n 0, 1) := by decide +kernel
theorem dX9_rules_195 : decode cX9_rules 195 = .ok (.getfield 59, 3) := by decide +kernel
theorem dX9_rules_198 : decode cX9_rules 198 = .ok (.iload 5, 2) := by decide +kernel
theorem dX9_rules_200 : decode cX9_rules 200 = .ok (.iconst 0, 1) := by decide +kernel
theorem dX9_rules_201 : decode cX9_rules 201 = .ok (.iastore, 1) := by decide +kernel
theorem dX9_rules_202 : decode cX9_rules 202 = .ok (.aload_n 0, 1) := by decide +kernel
theorem dX9_rules_203 : decode cX9_rules 203 = .ok (.getfield 56, 3) := by decide +kernel
theorem dX9_rules_206 : decode cX9_rules 206 = .ok (.iload 5, 2) := by decide +kernel
theorem dX9_rules_208 : decode cX9_rules 208 = .ok (.iconst (-1), 1) := by decide +kernel
theorem dX9_rules_209 : decode cX9_rules 209 = .ok (.iastore, 1) := by decide +kernel
theorem dX9_rules_210 : decode cX9_rules 210 = .ok (.iconst 0, 1) := by decide +kernel
theorem dX9_rules_211 : decode cX9_rules 211 = .ok (.istore 6, 2) := by decide +kernel
theorem dX9_rules_213 : decode cX9_rules 213 = .ok (.aload_n 0, 1) := by decide +kernel
theorem dX9_rules_214 : decode cX9_rules 214 = .ok (.iload_n 3, 1) := by decide +kernel
theorem dX9_rules_215 : decode cX9_rules 215 = .ok (.invokevirtual 165, 3) := by decide +kernel
theorem dX9_rules_218 : decode cX9_rules 218 = .ok (.ifCond .eq 104, 3) := by decide +kernel
theorem dX9_rules_221 : decode cX9_rules 221 = .ok (.aload_n 0, 1) := by decide +kernel
theorem dX9_rules_222 : decode cX9_rules 222 = .ok (.iload_n 3, 1) := by decide +kernel
theorem dX9_rules_223 : decode cX9_rules 223 = .ok (.iconst 1, 1) := by decide +kernel
theorem dX9_rules_224 : decode cX9_rules 224 = .ok (.iadd, 1) := by decide +kernel
theorem dX9_rules_225 : decode cX9_rules 225 = .ok (.invokevirtual 155, 3) := by decide +kernel
theorem dX9_rules_228 : decode cX9_rules 228 = .ok (.istore 7, 2) := by decide +kernel
theorem dX9_rules_230 : decode cX9_rules 230 = .ok (.iload 7, 2) := by decide +kernel
theorem dX9_rules_232 : decode cX9_rules 232 = .ok (.iload 6, 2) := by decide +kernel
theorem dX9_rules_234 : decode cX9_rules 234 = .ok (.if_icmp .gt 8, 3) := by decide +kernel
theorem dX9_rules_237 : decode cX9_rules 237 = .ok (.bipush (-2), 2) := by decide +kernel
theorem dX9_rules_239 : decode cX9_rules 239 = .ok (.iload_n 3, 1) := by decide +kernel
theorem dX9_rules_240 : decode cX9_rules 240 = .ok (.isub, 1) := by decide +kernel
theorem dX9_rules_241 : decode cX9_rules 241 = .ok (.ireturn, 1) := by decide +kernel
theorem dX9_rules_242 : decode cX9_rules 242 = .ok (.aload_n 0, 1) := by decide +kernel
theorem dX9_rules_243 : decode cX9_rules 243 = .ok (.iload_n 3, 1) := by decide +kernel
theorem dX9_rules_244 : decode cX9_rules 244 = .ok (.iconst 2, 1) := by decide +kernel
theorem dX9_rules_245 : decode cX9_rules 245 = .ok (.iadd, 1) := by decide +kernel
theorem dX9_rules_246 : decode cX9_rules 246 = .ok (.invokevirtual 155, 3) := by decide +kernel
theorem dX9_rules_249 : decode cX9_rules 249 = .ok (.istore 8, 2) := by decide +kernel
theorem dX9_rules_251 : decode cX9_rules 251 = .ok (.iload 8, 2) := by decide +kernel
theorem dX9_rules_253 : decode cX9_rules 253 = .ok (.ifCond .ge 8, 3) := by decide +kernel
theorem dX9_rules_256 : decode cX9_rules 256 = .ok (.bipush (-3), 2) := by decide +kernel
theorem dX9_rules_258 : decode cX9_rules 258 = .ok (.iload_n 3, 1) := by decide +kernel
theorem dX9_rules_259 : decode cX9_rules 259 = .ok (.isub, 1) := by decide +kernel
theorem dX9_rules_260 : decode cX9_rules 260 = .ok (.ireturn, 1) := by decide +kernel
theorem dX9_rules_261 : decode cX9_rules 261 = .ok (.aload_n 0, 1) := by decide +kernel
theorem dX9_rules_262 : decode cX9_rules 262 = .ok (.getfield 62, 3) := by decide +kernel
theorem dX9_rules_265 : decode cX9_rules 265 = .ok (.bipush 100, 2) := by decide +kernel
theorem dX9_rules_267 : decode cX9_rules 267 = .ok (.iload 5, 2) := by decide +kernel
theorem dX9_rules_269 : decode cX9_rules 269 = .ok (.imul, 1) := by decide +kernel
theorem dX9_rules_270 : decode cX9_rules 270 = .ok (.aload_n 0, 1) := by decide +kernel
theorem dX9_rules_271 : decode cX9_rules 271 = .ok (.getfield 59, 3) := by decide +kernel
theorem dX9_rules_274 : decode cX9_rules 274 = .ok (.iload 5, 2) := by decide +kernel
theorem dX9_rules_276 : decode cX9_rules 276 = .ok (.iaload, 1) := by decide +kernel
theorem dX9_rules_277 : decode cX9_rules 277 = .ok (.iadd, 1) := by decide +kernel
theorem dX9_rules_278 : decode cX9_rules 278 = .ok (.iload 7, 2) := by decide +kernel
theorem dX9_rules_280 : decode cX9_rules 280 = .ok (.iastore, 1) := by decide +kernel
theorem dX9_rules_281 : decode cX9_rules 281 = .ok (.aload_n 0, 1) := by decide +kernel
theorem dX9_rules_282 : decode cX9_rules 282 = .ok (.getfield 65, 3) := by decide +kernel
theorem dX9_rules_285 : decode cX9_rules 285 = .ok (.bipush 100, 2) := by decide +kernel
theorem dX9_rules_287 : decode cX9_rules 287 = .ok (.iload 5, 2) := by decide +kernel
theorem dX9_rules_289 : decode cX9_rules 289 = .ok (.imul, 1) := by decide +kernel
theorem dX9_rules_290 : decode cX9_rules 290 = .ok (.aload_n 0, 1) := by decide +kernel
theorem dX9_rules_291 : decode cX9_rules 291 = .ok (.getfield 59, 3) := by decide +kernel
theorem dX9_rules_294 : decode cX9_rules 294 = .ok (.iload 5, 2) := by decide +kernel
theorem dX9_rules_296 : decode cX9_rules 296 = .ok (.iaload, 1) := by decide +kernel
theorem dX9_rules_297 : decode cX9_rules 297 = .ok (.iadd, 1) := by decide +kernel
theorem dX9_rules_298 : decode cX9_rules 298 = .ok (.iload 8, 2) := by decide +kernel
theorem dX9_rules_300 : decode cX9_rules 300 = .ok (.iastore, 1) := by decide +kernel
theorem dX9_rules_301 : decode cX9_rules 301 = .ok (.aload_n 0, 1) := by decide +kernel
theorem dX9_rules_302 : decode cX9_rules 302 = .ok (.getfield 59, 3) := by decide +kernel
theorem dX9_rules_305 : decode cX9_rules 305 = .ok (.iload 5, 2) := by decide +kernel
theorem dX9_rules_307 : decode cX9_rules 307 = .ok (.dup2, 1) := by decide +kernel
theorem dX9_rules_308 : decode cX9_rules 308 = .ok (.iaload, 1) := by decide +kernel
theorem dX9_rules_309 : decode cX9_rules 309 = .ok (.iconst 1, 1) := by decide +kernel
theorem dX9_rules_310 : decode cX9_rules 310 = .ok (.iadd, 1) := by decide +kernel
theorem dX9_rules_311 : decode cX9_rules 311 = .ok (.iastore, 1) := by decide +kernel
theorem dX9_rules_312 : decode cX9_rules 312 = .ok (.iload 7, 2) := by decide +kernel
theorem dX9_rules_314 : decode cX9_rules 314 = .ok (.istore 6, 2) := by decide +kernel
theorem dX9_rules_316 : decode cX9_rules 316 = .ok (.iinc 3 3, 3) := by decide +kernel
theorem dX9_rules_319 : decode cX9_rules 319 = .ok (.goto (-106), 3) := by decide +kernel
theorem dX9_rules_322 : decode cX9_rules 322 = .ok (.aload_n 0, 1) := by decide +kernel
theorem dX9_rules_323 : decode cX9_rules 323 = .ok (.iload_n 3, 1) := by decide +kernel
theorem dX9_rules_324 : decode cX9_rules 324 = .ok (.invokevirtual 168, 3) := by decide +kernel
theorem dX9_rules_327 : decode cX9_rules 327 = .ok (.ifCond .eq 35, 3) := by decide +kernel
theorem dX9_rules_330 : decode cX9_rules 330 = .ok (.aload_n 0, 1) := by decide +kernel
theorem dX9_rules_331 : decode cX9_rules 331 = .ok (.getfield 56, 3) := by decide +kernel
theorem dX9_rules_334 : decode cX9_rules 334 = .ok (.iload 5, 2) := by decide +kernel
theorem dX9_rules_336 : decode cX9_rules 336 = .ok (.aload_n 0, 1) := by decide +kernel
theorem dX9_rules_337 : decode cX9_rules 337 = .ok (.iload_n 3, 1) := by decide +kernel
theorem dX9_rules_338 : decode cX9_rules 338 = .ok (.iconst 1, 1) := by decide +kernel
theorem dX9_rules_339 : decode cX9_rules 339 = .ok (.iadd, 1) := by decide +kernel
theorem dX9_rules_340 : decode cX9_rules 340 = .ok (.invokevirtual 155, 3) := by decide +kernel
theorem dX9_rules_343 : decode cX9_rules 343 = .ok (.iastore, 1) := by decide +kernel
theorem dX9_rules_344 : decode cX9_rules 344 = .ok (.aload_n 0, 1) := by decide +kernel
theorem dX9_rules_345 : decode cX9_rules 345 = .ok (.getfield 56, 3) := by decide +kernel
theorem dX9_rules_348 : decode cX9_rules 348 = .ok (.iload 5, 2) := by decide +kernel
theorem dX9_rules_350 : decode cX9_rules 350 = .ok (.iaload, 1) := by decide +kernel
theorem dX9_rules_351 : decode cX9_rules 351 = .ok (.ifCond .ge 8, 3) := by decide +kernel
theorem dX9_rules_354 : decode cX9_rules 354 = .ok (.bipush (-2), 2) := by decide +kernel
theorem dX9_rules_356 : decode cX9_rules 356 = .ok (.iload_n 3, 1) := by decide +kernel
theorem dX9_rules_357 : decode cX9_rules 357 = .ok (.isub, 1) := by decide +kernel
theorem dX9_rules_358 : decode cX9_rules 358 = .ok (.ireturn, 1) := by decide +kernel
theorem dX9_rules_359 : decode cX9_rules 359 = .ok (.iinc 3 2, 3) := by decide +kernel
theorem dX9_rules_362 : decode cX9_rules 362 = .ok (.aload_n 0, 1) := by decide +kernel
theorem dX9_rules_363 : decode cX9_rules 363 = .ok (.getfield 46, 3) := by decide +kernel
theorem dX9_rules_366 : decode cX9_rules 366 = .ok (.iload 5, 2) := by decide +kernel
theorem dX9_rules_368 : decode cX9_rules 368 = .ok (.iconst 1, 1) := by decide +kernel
theorem dX9_rules_369 : decode cX9_rules 369 = .ok (.bastore, 1) := by decide +kernel
theorem dX9_rules_370 : decode cX9_rules 370 = .ok (.iinc 2 1, 3) := by decide +kernel
theorem dX9_rules_373 : decode cX9_rules 373 = .ok (.goto (-338), 3) := by decide +kernel
theorem dX9_rules_376 : decode cX9_rules 376 = .ok (.iload_n 2, 1) := by decide +kernel
theorem dX9_rules_377 : decode cX9_rules 377 = .ok (.ireturn, 1) := by decide +kernel
set_option maxRecDepth 20000 in
theorem ggX9_read_X9_findWords : GoodIn wsX9_read wsX9_findWords := goodIn_r _ [9, 10, 1, 11, 12, 13, 57, 58, 59, 60, 61, 62, 63, 64, 65, 66, 67, 68, 69, 70, 71, 72, 73, 74, 75, 76, 77, 78, 79, 80, 81, 82, 83, 84, 85, 86, 87, 88, 89, 90, 91, 92, 93, 94, 95, 96, 97, 98, 99] (by decide +kernel) (by decide +kernel)
set_option maxRecDepth 20000 in
theorem gX9_read_X9_findWords : GoodIn wsX9_read (wsV RX9 171 RX9 yX9_findWords wsX9_findWords) := goodIn_app (goodIn_of _ (by decide +kernel)) ggX9_read_X9_findWords
set_option maxRecDepth 20000 in
theorem ggX9_read_X9_isDay : GoodIn wsX9_read wsX9_isDay := goodIn_r _ [16, 17] (by decide +kernel) (by decide +kernel)
set_option maxRecDepth 20000 in
theorem gX9_read_X9_isDay : GoodIn wsX9_read (va_wsS RX9 133 yX9_isDay wsX9_isDay) := goodIn_app (goodIn_of _ (by decide +kernel)) ggX9_read_X9_isDay
set_option maxRecDepth 20000 in
theorem ggX9_read_X9_rules : GoodIn wsX9_read wsX9_rules := goodIn_r _ [21, 2, 22, 10, 23, 24, 25, 26, 27, 28, 29, 30, 31, 8, 32, 33, 34, 35, 36, 12, 13, 11, 37, 38, 39, 40, 41, 42, 43, 44, 45, 46, 47, 48, 49, 50, 51, 52, 53, 54, 55, 56, 57, 58, 59, 60, 61, 62, 63, 64, 65, 66, 67, 68, 69, 70, 71, 72, 73, 74, 75, 76, 77, 78, 79, 80, 81, 82, 83, 84, 85, 86, 87, 88, 89, 90, 91, 92, 93, 94, 95, 96, 97, 98, 99] (by decide +kernel) (by decide +kernel)
set_option maxRecDepth 20000 in
theorem gX9_read_X9_rules : GoodIn wsX9_read (wsV RX9 174 RX9 yX9_rules wsX9_rules) := goodIn_app (goodIn_of _ (by decide +kernel)) ggX9_read_X9_rules
theorem dX9_read_0 : decode cX9_read 0 = .ok (.aload_n 0, 1) := by decide +kernel
theorem dX9_read_1 : decode cX9_read 1 = .ok (.invokevirtual 171, 3) := by decide +kernel
theorem dX9_read_4 : decode cX9_read 4 = .ok (.aload_n 0, 1) := by decide +kernel
theorem dX9_read_5 : decode cX9_read 5 = .ok (.iconst 0, 1) := by decide +kernel
theorem dX9_read_6 : decode cX9_read 6 = .ok (.putfield 139, 3) := by decide +kernel
theorem dX9_read_9 : decode cX9_read 9 = .ok (.lload_n 1, 1) := by decide +kernel
theorem dX9_read_10 : decode cX9_read 10 = .ok (.invokestatic 133, 3) := by decide +kernel
theorem dX9_read_13 : decode cX9_read 13 = .ok (.ifCond .eq 19, 3) := by decide +kernel
theorem dX9_read_16 : decode cX9_read 16 = .ok (.lload_n 3, 1) := by decide +kernel
theorem dX9_read_17 : decode cX9_read 17 = .ok (.invokestatic 133, 3) := by decide +kernel
theorem dX9_read_20 : decode cX9_read 20 = .ok (.ifCond .eq 12, 3) := by decide +kernel
theorem dX9_read_23 : decode cX9_read 23 = .ok (.aload_n 0, 1) := by decide +kernel
theorem dX9_read_24 : decode cX9_read 24 = .ok (.getfield 149, 3) := by decide +kernel
theorem dX9_read_27 : decode cX9_read 27 = .ok (.bipush 6, 2) := by decide +kernel
theorem dX9_read_29 : decode cX9_read 29 = .ok (.if_icmp .ne 7, 3) := by decide +kernel
theorem dX9_read_32 : decode cX9_read 32 = .ok (.sipush (-1000), 3) := by decide +kernel
theorem dX9_read_35 : decode cX9_read 35 = .ok (.ireturn, 1) := by decide +kernel
theorem dX9_read_36 : decode cX9_read 36 = .ok (.aload_n 0, 1) := by decide +kernel
theorem dX9_read_37 : decode cX9_read 37 = .ok (.invokevirtual 174, 3) := by decide +kernel
theorem dX9_read_40 : decode cX9_read 40 = .ok (.istore 5, 2) := by decide +kernel
theorem dX9_read_42 : decode cX9_read 42 = .ok (.iload 5, 2) := by decide +kernel
theorem dX9_read_44 : decode cX9_read 44 = .ok (.ifCond .ge 6, 3) := by decide +kernel
theorem dX9_read_47 : decode cX9_read 47 = .ok (.iload 5, 2) := by decide +kernel
theorem dX9_read_49 : decode cX9_read 49 = .ok (.ireturn, 1) := by decide +kernel
theorem dX9_read_50 : decode cX9_read 50 = .ok (.aload_n 0, 1) := by decide +kernel
theorem dX9_read_51 : decode cX9_read 51 = .ok (.getfield 40, 3) := by decide +kernel
theorem dX9_read_54 : decode cX9_read 54 = .ok (.aload_n 0, 1) := by decide +kernel
theorem dX9_read_55 : decode cX9_read 55 = .ok (.getfield 149, 3) := by decide +kernel
theorem dX9_read_58 : decode cX9_read 58 = .ok (.lload_n 1, 1) := by decide +kernel
theorem dX9_read_59 : decode cX9_read 59 = .ok (.l2i, 1) := by decide +kernel
theorem dX9_read_60 : decode cX9_read 60 = .ok (.iastore, 1) := by decide +kernel
theorem dX9_read_61 : decode cX9_read 61 = .ok (.aload_n 0, 1) := by decide +kernel
theorem dX9_read_62 : decode cX9_read 62 = .ok (.getfield 43, 3) := by decide +kernel
theorem dX9_read_65 : decode cX9_read 65 = .ok (.aload_n 0, 1) := by decide +kernel
theorem dX9_read_66 : decode cX9_read 66 = .ok (.getfield 149, 3) := by decide +kernel
theorem dX9_read_69 : decode cX9_read 69 = .ok (.lload_n 3, 1) := by decide +kernel
theorem dX9_read_70 : decode cX9_read 70 = .ok (.l2i, 1) := by decide +kernel
theorem dX9_read_71 : decode cX9_read 71 = .ok (.iastore, 1) := by decide +kernel
theorem dX9_read_72 : decode cX9_read 72 = .ok (.aload_n 0, 1) := by decide +kernel
theorem dX9_read_73 : decode cX9_read 73 = .ok (.dup, 1) := by decide +kernel
theorem dX9_read_74 : decode cX9_read 74 = .ok (.getfield 149, 3) := by decide +kernel
theorem dX9_read_77 : decode cX9_read 77 = .ok (.iconst 1, 1) := by decide +kernel
theorem dX9_read_78 : decode cX9_read 78 = .ok (.iadd, 1) := by decide +kernel
theorem dX9_read_79 : decode cX9_read 79 = .ok (.putfield 149, 3) := by decide +kernel
theorem dX9_read_82 : decode cX9_read 82 = .ok (.iload 5, 2) := by decide +kernel
theorem dX9_read_84 : decode cX9_read 84 = .ok (.ireturn, 1) := by decide +kernel
theorem dX9_edition_0 : decode cX9_edition 0 = .ok (.iload_n 1, 1) := by decide +kernel
theorem dX9_edition_1 : decode cX9_edition 1 = .ok (.ifCond .lt 20, 3) := by decide +kernel
theorem dX9_edition_4 : decode cX9_edition 4 = .ok (.iload_n 1, 1) := by decide +kernel
theorem dX9_edition_5 : decode cX9_edition 5 = .ok (.aload_n 0, 1) := by decide +kernel
theorem dX9_edition_6 : decode cX9_edition 6 = .ok (.getfield 149, 3) := by decide +kernel
theorem dX9_edition_9 : decode cX9_edition 9 = .ok (.if_icmp .ge 12, 3) := by decide +kernel
theorem dX9_edition_12 : decode cX9_edition 12 = .ok (.iload_n 2, 1) := by decide +kernel
theorem dX9_edition_13 : decode cX9_edition 13 = .ok (.ifCond .lt 8, 3) := by decide +kernel
theorem dX9_edition_16 : decode cX9_edition 16 = .ok (.iload_n 2, 1) := by decide +kernel
theorem dX9_edition_17 : decode cX9_edition 17 = .ok (.iconst 2, 1) := by decide +kernel
theorem dX9_edition_18 : decode cX9_edition 18 = .ok (.if_icmp .le 5, 3) := by decide +kernel
theorem dX9_edition_21 : decode cX9_edition 21 = .ok (.iconst (-1), 1) := by decide +kernel
theorem dX9_edition_22 : decode cX9_edition 22 = .ok (.ireturn, 1) := by decide +kernel
theorem dX9_edition_23 : decode cX9_edition 23 = .ok (.iload_n 2, 1) := by decide +kernel
theorem dX9_edition_24 : decode cX9_edition 24 = .ok (.iconst 2, 1) := by decide +kernel
theorem dX9_edition_25 : decode cX9_edition 25 = .ok (.if_icmp .ge 23, 3) := by decide +kernel
theorem dX9_edition_28 : decode cX9_edition 28 = .ok (.iload_n 2, 1) := by decide +kernel
theorem dX9_edition_29 : decode cX9_edition 29 = .ok (.ifCond .ne 12, 3) := by decide +kernel
theorem dX9_edition_32 : decode cX9_edition 32 = .ok (.aload_n 0, 1) := by decide +kernel
theorem dX9_edition_33 : decode cX9_edition 33 = .ok (.getfield 40, 3) := by decide +kernel
theorem dX9_edition_36 : decode cX9_edition 36 = .ok (.iload_n 1, 1) := by decide +kernel
theorem dX9_edition_37 : decode cX9_edition 37 = .ok (.iaload, 1) := by decide +kernel
theorem dX9_edition_38 : decode cX9_edition 38 = .ok (.goto 9, 3) := by decide +kernel
theorem dX9_edition_41 : decode cX9_edition 41 = .ok (.aload_n 0, 1) := by decide +kernel
theorem dX9_edition_42 : decode cX9_edition 42 = .ok (.getfield 43, 3) := by decide +kernel
theorem dX9_edition_45 : decode cX9_edition 45 = .ok (.iload_n 1, 1) := by decide +kernel
theorem dX9_edition_46 : decode cX9_edition 46 = .ok (.iaload, 1) := by decide +kernel
theorem dX9_edition_47 : decode cX9_edition 47 = .ok (.ireturn, 1) := by decide +kernel
theorem dX9_edition_48 : decode cX9_edition 48 = .ok (.iconst 0, 1) := by decide +kernel
theorem dX9_edition_49 : decode cX9_edition 49 = .ok (.istore_n 3, 1) := by decide +kernel
theorem dX9_edition_50 : decode cX9_edition 50 = .ok (.iconst 0, 1) := by decide +kernel
theorem dX9_edition_51 : decode cX9_edition 51 = .ok (.istore 4, 2) := by decide +kernel
theorem dX9_edition_53 : decode cX9_edition 53 = .ok (.iload 4, 2) := by decide +kernel
theorem dX9_edition_55 : decode cX9_edition 55 = .ok (.bipush 6, 2) := by decide +kernel
theorem dX9_edition_57 : decode cX9_edition 57 = .ok (.if_icmp .ge 32, 3) := by decide +kernel
theorem dX9_edition_60 : decode cX9_edition 60 = .ok (.iload_n 3, 1) := by decide +kernel
theorem dX9_edition_61 : decode cX9_edition 61 = .ok (.aload_n 0, 1) := by decide +kernel
theorem dX9_edition_62 : decode cX9_edition 62 = .ok (.getfield 46, 3) := by decide +kernel
theorem dX9_edition_65 : decode cX9_edition 65 = .ok (.bipush 6, 2) := by decide +kernel
theorem dX9_edition_67 : decode cX9_edition 67 = .ok (.iload_n 1, 1) := by decide +kernel
theorem dX9_edition_68 : decode cX9_edition 68 = .ok (.imul, 1) := by decide +kernel
theorem dX9_edition_69 : decode cX9_edition 69 = .ok (.iload 4, 2) := by decide +kernel
theorem dX9_edition_71 : decode cX9_edition 71 = .ok (.iadd, 1) := by decide +kernel
theorem dX9_edition_72 : decode cX9_edition 72 = .ok (.baload, 1) := by decide +kernel
theorem dX9_edition_73 : decode cX9_edition 73 = .ok (.ifCond .eq 7, 3) := by decide +kernel
theorem dX9_edition_76 : decode cX9_edition 76 = .ok (.iconst 1, 1) := by decide +kernel
theorem dX9_edition_77 : decode cX9_edition 77 = .ok (.goto 4, 3) := by decide +kernel
theorem dX9_edition_80 : decode cX9_edition 80 = .ok (.iconst 0, 1) := by decide +kernel
theorem dX9_edition_81 : decode cX9_edition 81 = .ok (.iadd, 1) := by decide +kernel
theorem dX9_edition_82 : decode cX9_edition 82 = .ok (.istore_n 3, 1) := by decide +kernel
theorem dX9_edition_83 : decode cX9_edition 83 = .ok (.iinc 4 1, 3) := by decide +kernel
theorem dX9_edition_86 : decode cX9_edition 86 = .ok (.goto (-33), 3) := by decide +kernel
theorem dX9_edition_89 : decode cX9_edition 89 = .ok (.iload_n 3, 1) := by decide +kernel
theorem dX9_edition_90 : decode cX9_edition 90 = .ok (.ireturn, 1) := by decide +kernel
set_option maxRecDepth 20000 in
theorem ggX9_cap_X9_isMonth : GoodIn wsX9_cap wsX9_isMonth := goodIn_r _ [6] (by decide +kernel) (by decide +kernel)
set_option maxRecDepth 20000 in
theorem gX9_cap_X9_isMonth : GoodIn wsX9_cap (va_wsS RX9 178 yX9_isMonth wsX9_isMonth) := goodIn_app (goodIn_of _ (by decide +kernel)) ggX9_cap_X9_isMonth
theorem dX9_cap_0 : decode cX9_cap 0 = .ok (.iload_n 1, 1) := by decide +kernel
theorem dX9_cap_1 : decode cX9_cap 1 = .ok (.invokestatic 178, 3) := by decide +kernel
theorem dX9_cap_4 : decode cX9_cap 4 = .ok (.ifCond .eq 17, 3) := by decide +kernel
theorem dX9_cap_7 : decode cX9_cap 7 = .ok (.lload_n 2, 1) := by decide +kernel
theorem dX9_cap_8 : decode cX9_cap 8 = .ok (.lconst 0, 1) := by decide +kernel
theorem dX9_cap_9 : decode cX9_cap 9 = .ok (.lcmp, 1) := by decide +kernel
theorem dX9_cap_10 : decode cX9_cap 10 = .ok (.ifCond .lt 11, 3) := by decide +kernel
theorem dX9_cap_13 : decode cX9_cap 13 = .ok (.lload_n 2, 1) := by decide +kernel
theorem dX9_cap_14 : decode cX9_cap 14 = .ok (.ldc2_w 181, 3) := by decide +kernel
theorem dX9_cap_17 : decode cX9_cap 17 = .ok (.lcmp, 1) := by decide +kernel
theorem dX9_cap_18 : decode cX9_cap 18 = .ok (.ifCond .le 5, 3) := by decide +kernel
theorem dX9_cap_21 : decode cX9_cap 21 = .ok (.iconst 0, 1) := by decide +kernel
theorem dX9_cap_22 : decode cX9_cap 22 = .ok (.ireturn, 1) := by decide +kernel
theorem dX9_cap_23 : decode cX9_cap 23 = .ok (.aload_n 0, 1) := by decide +kernel
theorem dX9_cap_24 : decode cX9_cap 24 = .ok (.getfield 68, 3) := by decide +kernel
theorem dX9_cap_27 : decode cX9_cap 27 = .ok (.iload_n 1, 1) := by decide +kernel
theorem dX9_cap_28 : decode cX9_cap 28 = .ok (.lload_n 2, 1) := by decide +kernel
theorem dX9_cap_29 : decode cX9_cap 29 = .ok (.lastore, 1) := by decide +kernel
theorem dX9_cap_30 : decode cX9_cap 30 = .ok (.iconst 1, 1) := by decide +kernel
theorem dX9_cap_31 : decode cX9_cap 31 = .ok (.ireturn, 1) := by decide +kernel
set_option maxRecDepth 20000 in
theorem ggX9_relief_X9_isHouse : GoodIn wsX9_relief wsX9_isHouse := goodIn_r _ [10, 11, 19, 20, 21, 22, 23, 24, 25, 26, 27, 28, 29, 30, 31, 32, 33, 34, 35, 36, 37, 38, 39, 40, 41, 42, 43, 44, 45, 46, 47, 48, 49, 50, 51, 52, 53, 54, 55, 56, 57, 58, 59, 60, 61] (by decide +kernel) (by decide +kernel)
set_option maxRecDepth 20000 in
theorem gX9_relief_X9_isHouse : GoodIn wsX9_relief (wsV RX9 126 RX9 yX9_isHouse wsX9_isHouse) := goodIn_app (goodIn_of _ (by decide +kernel)) ggX9_relief_X9_isHouse
set_option maxRecDepth 20000 in
theorem ggX9_relief_X9_isKind : GoodIn wsX9_relief wsX9_isKind := goodIn_r _ [14] (by decide +kernel) (by decide +kernel)
set_option maxRecDepth 20000 in
theorem gX9_relief_X9_isKind : GoodIn wsX9_relief (va_wsS RX9 130 yX9_isKind wsX9_isKind) := goodIn_app (goodIn_of _ (by decide +kernel)) ggX9_relief_X9_isKind
set_option maxRecDepth 20000 in
theorem ggX9_relief_X9_isDay : GoodIn wsX9_relief wsX9_isDay := goodIn_r _ [17, 18] (by decide +kernel) (by decide +kernel)
set_option maxRecDepth 20000 in
theorem gX9_relief_X9_isDay : GoodIn wsX9_relief (va_wsS RX9 133 yX9_isDay wsX9_isDay) := goodIn_app (goodIn_of _ (by decide +kernel)) ggX9_relief_X9_isDay
theorem dX9_relief_0 : decode cX9_relief 0 = .ok (.aload_n 0, 1) := by decide +kernel
theorem dX9_relief_1 : decode cX9_relief 1 = .ok (.getfield 183, 3) := by decide +kernel
theorem dX9_relief_4 : decode cX9_relief 4 = .ok (.bipush 8, 2) := by decide +kernel
theorem dX9_relief_6 : decode cX9_relief 6 = .ok (.if_icmp .eq 40, 3) := by decide +kernel
theorem dX9_relief_9 : decode cX9_relief 9 = .ok (.aload_n 0, 1) := by decide +kernel
theorem dX9_relief_10 : decode cX9_relief 10 = .ok (.iload_n 1, 1) := by decide +kernel
end
section
theorem dX9_relief_11 : decode cX9_relief 11 = .ok (.invokevirtual 126, 3) := by decide +kernel
theorem dX9_relief_14 : decode cX9_relief 14 = .ok (.ifCond .eq 32, 3) := by decide +kernel
theorem dX9_relief_17 : decode cX9_relief 17 = .ok (.iload_n 2, 1) := by decide +kernel
theorem dX9_relief_18 : decode cX9_relief 18 = .ok (.invokestatic 130, 3) := by decide +kernel
theorem dX9_relief_21 : decode cX9_relief 21 = .ok (.ifCond .eq 25, 3) := by decide +kernel
theorem dX9_relief_24 : decode cX9_relief 24 = .ok (.lload_n 3, 1) := by decide +kernel
theorem dX9_relief_25 : decode cX9_relief 25 = .ok (.invokestatic 133, 3) := by decide +kernel
theorem dX9_relief_28 : decode cX9_relief 28 = .ok (.ifCond .eq 18, 3) := by decide +kernel
theorem dX9_relief_31 : decode cX9_relief 31 = .ok (.lload 5, 2) := by decide +kernel
theorem dX9_relief_33 : decode cX9_relief 33 = .ok (.invokestatic 133, 3) := by decide +kernel
theorem dX9_relief_36 : decode cX9_relief 36 = .ok (.ifCond .eq 10, 3) := by decide +kernel
theorem dX9_relief_39 : decode cX9_relief 39 = .ok (.lload_n 3, 1) := by decide +kernel
theorem dX9_relief_40 : decode cX9_relief 40 = .ok (.lload 5, 2) := by decide +kernel
theorem dX9_relief_42 : decode cX9_relief 42 = .ok (.lcmp, 1) := by decide +kernel
theorem dX9_relief_43 : decode cX9_relief 43 = .ok (.ifCond .le 5, 3) := by decide +kernel
theorem dX9_relief_46 : decode cX9_relief 46 = .ok (.iconst 0, 1) := by decide +kernel
theorem dX9_relief_47 : decode cX9_relief 47 = .ok (.ireturn, 1) := by decide +kernel
theorem dX9_relief_48 : decode cX9_relief 48 = .ok (.aload_n 0, 1) := by decide +kernel
theorem dX9_relief_49 : decode cX9_relief 49 = .ok (.getfield 72, 3) := by decide +kernel
theorem dX9_relief_52 : decode cX9_relief 52 = .ok (.aload_n 0, 1) := by decide +kernel
theorem dX9_relief_53 : decode cX9_relief 53 = .ok (.getfield 183, 3) := by decide +kernel
theorem dX9_relief_56 : decode cX9_relief 56 = .ok (.iload_n 1, 1) := by decide +kernel
theorem dX9_relief_57 : decode cX9_relief 57 = .ok (.iastore, 1) := by decide +kernel
theorem dX9_relief_58 : decode cX9_relief 58 = .ok (.aload_n 0, 1) := by decide +kernel
theorem dX9_relief_59 : decode cX9_relief 59 = .ok (.getfield 75, 3) := by decide +kernel
theorem dX9_relief_62 : decode cX9_relief 62 = .ok (.aload_n 0, 1) := by decide +kernel
theorem dX9_relief_63 : decode cX9_relief 63 = .ok (.getfield 183, 3) := by decide +kernel
theorem dX9_relief_66 : decode cX9_relief 66 = .ok (.iload_n 2, 1) := by decide +kernel
theorem dX9_relief_67 : decode cX9_relief 67 = .ok (.iastore, 1) := by decide +kernel
theorem dX9_relief_68 : decode cX9_relief 68 = .ok (.aload_n 0, 1) := by decide +kernel
theorem dX9_relief_69 : decode cX9_relief 69 = .ok (.getfield 78, 3) := by decide +kernel
theorem dX9_relief_72 : decode cX9_relief 72 = .ok (.aload_n 0, 1) := by decide +kernel
theorem dX9_relief_73 : decode cX9_relief 73 = .ok (.getfield 183, 3) := by decide +kernel
theorem dX9_relief_76 : decode cX9_relief 76 = .ok (.lload_n 3, 1) := by decide +kernel
theorem dX9_relief_77 : decode cX9_relief 77 = .ok (.l2i, 1) := by decide +kernel
theorem dX9_relief_78 : decode cX9_relief 78 = .ok (.iastore, 1) := by decide +kernel
theorem dX9_relief_79 : decode cX9_relief 79 = .ok (.aload_n 0, 1) := by decide +kernel
theorem dX9_relief_80 : decode cX9_relief 80 = .ok (.getfield 81, 3) := by decide +kernel
theorem dX9_relief_83 : decode cX9_relief 83 = .ok (.aload_n 0, 1) := by decide +kernel
theorem dX9_relief_84 : decode cX9_relief 84 = .ok (.getfield 183, 3) := by decide +kernel
theorem dX9_relief_87 : decode cX9_relief 87 = .ok (.lload 5, 2) := by decide +kernel
theorem dX9_relief_89 : decode cX9_relief 89 = .ok (.l2i, 1) := by decide +kernel
theorem dX9_relief_90 : decode cX9_relief 90 = .ok (.iastore, 1) := by decide +kernel
theorem dX9_relief_91 : decode cX9_relief 91 = .ok (.aload_n 0, 1) := by decide +kernel
theorem dX9_relief_92 : decode cX9_relief 92 = .ok (.dup, 1) := by decide +kernel
theorem dX9_relief_93 : decode cX9_relief 93 = .ok (.getfield 183, 3) := by decide +kernel
theorem dX9_relief_96 : decode cX9_relief 96 = .ok (.iconst 1, 1) := by decide +kernel
theorem dX9_relief_97 : decode cX9_relief 97 = .ok (.iadd, 1) := by decide +kernel
theorem dX9_relief_98 : decode cX9_relief 98 = .ok (.putfield 183, 3) := by decide +kernel
theorem dX9_relief_101 : decode cX9_relief 101 = .ok (.iconst 1, 1) := by decide +kernel
theorem dX9_relief_102 : decode cX9_relief 102 = .ok (.ireturn, 1) := by decide +kernel
set_option maxRecDepth 20000 in
theorem ggX9_isFlat_X9_isHouse : GoodIn wsX9_isFlat wsX9_isHouse := goodIn_r _ [6, 7, 8, 9, 10, 11, 12, 13, 14, 15, 16, 17, 18, 19, 20, 21, 22, 23, 24, 25, 26, 27, 28, 29, 30, 31, 32, 33, 34, 35, 36, 37, 38, 39, 40, 41, 42, 43, 44, 45, 46, 47, 48, 49, 50] (by decide +kernel) (by decide +kernel)
set_option maxRecDepth 20000 in
theorem gX9_isFlat_X9_isHouse : GoodIn wsX9_isFlat (wsV RX9 126 RX9 yX9_isHouse wsX9_isHouse) := goodIn_app (goodIn_of _ (by decide +kernel)) ggX9_isFlat_X9_isHouse
theorem dX9_isFlat_0 : decode cX9_isFlat 0 = .ok (.aload_n 0, 1) := by decide +kernel
theorem dX9_isFlat_1 : decode cX9_isFlat 1 = .ok (.iload_n 1, 1) := by decide +kernel
theorem dX9_isFlat_2 : decode cX9_isFlat 2 = .ok (.invokevirtual 126, 3) := by decide +kernel
theorem dX9_isFlat_5 : decode cX9_isFlat 5 = .ok (.ifCond .eq 21, 3) := by decide +kernel
theorem dX9_isFlat_8 : decode cX9_isFlat 8 = .ok (.iload_n 2, 1) := by decide +kernel
theorem dX9_isFlat_9 : decode cX9_isFlat 9 = .ok (.ifCond .lt 17, 3) := by decide +kernel
theorem dX9_isFlat_12 : decode cX9_isFlat 12 = .ok (.iload_n 2, 1) := by decide +kernel
theorem dX9_isFlat_13 : decode cX9_isFlat 13 = .ok (.aload_n 0, 1) := by decide +kernel
theorem dX9_isFlat_14 : decode cX9_isFlat 14 = .ok (.getfield 7, 3) := by decide +kernel
theorem dX9_isFlat_17 : decode cX9_isFlat 17 = .ok (.iload_n 1, 1) := by decide +kernel
theorem dX9_isFlat_18 : decode cX9_isFlat 18 = .ok (.iaload, 1) := by decide +kernel
theorem dX9_isFlat_19 : decode cX9_isFlat 19 = .ok (.if_icmp .ge 7, 3) := by decide +kernel
theorem dX9_isFlat_22 : decode cX9_isFlat 22 = .ok (.iconst 1, 1) := by decide +kernel
theorem dX9_isFlat_23 : decode cX9_isFlat 23 = .ok (.goto 4, 3) := by decide +kernel
theorem dX9_isFlat_26 : decode cX9_isFlat 26 = .ok (.iconst 0, 1) := by decide +kernel
theorem dX9_isFlat_27 : decode cX9_isFlat 27 = .ok (.ireturn, 1) := by decide +kernel
set_option maxRecDepth 20000 in
theorem ggX9_weight_X9_isFlat : GoodIn wsX9_weight wsX9_isFlat := goodIn_r _ [6, 7, 8, 9, 10, 5, 11, 12, 13, 14, 15, 16, 17, 18, 19, 20, 21, 22, 23, 24, 25, 26, 27, 28, 29, 30, 31, 32, 33, 34, 35, 36, 37, 38, 39, 40, 41, 42, 43, 44, 45, 46, 47, 48, 49, 50, 51, 52, 53, 54, 55] (by decide +kernel) (by decide +kernel)
set_option maxRecDepth 20000 in
theorem gX9_weight_X9_isFlat : GoodIn wsX9_weight (wsV RX9 186 RX9 yX9_isFlat wsX9_isFlat) := goodIn_app (goodIn_of _ (by decide +kernel)) ggX9_weight_X9_isFlat
theorem dX9_weight_0 : decode cX9_weight 0 = .ok (.aload_n 0, 1) := by decide +kernel
theorem dX9_weight_1 : decode cX9_weight 1 = .ok (.iload_n 1, 1) := by decide +kernel
theorem dX9_weight_2 : decode cX9_weight 2 = .ok (.iload_n 2, 1) := by decide +kernel
theorem dX9_weight_3 : decode cX9_weight 3 = .ok (.invokevirtual 186, 3) := by decide +kernel
theorem dX9_weight_6 : decode cX9_weight 6 = .ok (.ifCond .eq 14, 3) := by decide +kernel
theorem dX9_weight_9 : decode cX9_weight 9 = .ok (.iload_n 3, 1) := by decide +kernel
theorem dX9_weight_10 : decode cX9_weight 10 = .ok (.ifCond .lt 10, 3) := by decide +kernel
theorem dX9_weight_13 : decode cX9_weight 13 = .ok (.iload_n 3, 1) := by decide +kernel
theorem dX9_weight_14 : decode cX9_weight 14 = .ok (.sipush 1000, 3) := by decide +kernel
theorem dX9_weight_17 : decode cX9_weight 17 = .ok (.if_icmp .le 5, 3) := by decide +kernel
theorem dX9_weight_20 : decode cX9_weight 20 = .ok (.iconst 0, 1) := by decide +kernel
theorem dX9_weight_21 : decode cX9_weight 21 = .ok (.ireturn, 1) := by decide +kernel
theorem dX9_weight_22 : decode cX9_weight 22 = .ok (.aload_n 0, 1) := by decide +kernel
theorem dX9_weight_23 : decode cX9_weight 23 = .ok (.getfield 13, 3) := by decide +kernel
theorem dX9_weight_26 : decode cX9_weight 26 = .ok (.bipush 6, 2) := by decide +kernel
theorem dX9_weight_28 : decode cX9_weight 28 = .ok (.iload_n 1, 1) := by decide +kernel
theorem dX9_weight_29 : decode cX9_weight 29 = .ok (.imul, 1) := by decide +kernel
theorem dX9_weight_30 : decode cX9_weight 30 = .ok (.iload_n 2, 1) := by decide +kernel
theorem dX9_weight_31 : decode cX9_weight 31 = .ok (.iadd, 1) := by decide +kernel
theorem dX9_weight_32 : decode cX9_weight 32 = .ok (.iload_n 3, 1) := by decide +kernel
theorem dX9_weight_33 : decode cX9_weight 33 = .ok (.iastore, 1) := by decide +kernel
theorem dX9_weight_34 : decode cX9_weight 34 = .ok (.iconst 1, 1) := by decide +kernel
theorem dX9_weight_35 : decode cX9_weight 35 = .ok (.ireturn, 1) := by decide +kernel
theorem dX9_isRelieved_0 : decode cX9_isRelieved 0 = .ok (.iconst 0, 1) := by decide +kernel
theorem dX9_isRelieved_1 : decode cX9_isRelieved 1 = .ok (.istore_n 2, 1) := by decide +kernel
theorem dX9_isRelieved_2 : decode cX9_isRelieved 2 = .ok (.iload_n 2, 1) := by decide +kernel
theorem dX9_isRelieved_3 : decode cX9_isRelieved 3 = .ok (.aload_n 0, 1) := by decide +kernel
theorem dX9_isRelieved_4 : decode cX9_isRelieved 4 = .ok (.getfield 183, 3) := by decide +kernel
theorem dX9_isRelieved_7 : decode cX9_isRelieved 7 = .ok (.if_icmp .ge 71, 3) := by decide +kernel
theorem dX9_isRelieved_10 : decode cX9_isRelieved 10 = .ok (.aload_n 0, 1) := by decide +kernel
theorem dX9_isRelieved_11 : decode cX9_isRelieved 11 = .ok (.getfield 72, 3) := by decide +kernel
theorem dX9_isRelieved_14 : decode cX9_isRelieved 14 = .ok (.iload_n 2, 1) := by decide +kernel
theorem dX9_isRelieved_15 : decode cX9_isRelieved 15 = .ok (.iaload, 1) := by decide +kernel
theorem dX9_isRelieved_16 : decode cX9_isRelieved 16 = .ok (.aload_n 0, 1) := by decide +kernel
theorem dX9_isRelieved_17 : decode cX9_isRelieved 17 = .ok (.getfield 16, 3) := by decide +kernel
theorem dX9_isRelieved_20 : decode cX9_isRelieved 20 = .ok (.iload_n 1, 1) := by decide +kernel
theorem dX9_isRelieved_21 : decode cX9_isRelieved 21 = .ok (.iaload, 1) := by decide +kernel
theorem dX9_isRelieved_22 : decode cX9_isRelieved 22 = .ok (.if_icmp .ne 50, 3) := by decide +kernel
theorem dX9_isRelieved_25 : decode cX9_isRelieved 25 = .ok (.aload_n 0, 1) := by decide +kernel
theorem dX9_isRelieved_26 : decode cX9_isRelieved 26 = .ok (.getfield 75, 3) := by decide +kernel
theorem dX9_isRelieved_29 : decode cX9_isRelieved 29 = .ok (.iload_n 2, 1) := by decide +kernel
theorem dX9_isRelieved_30 : decode cX9_isRelieved 30 = .ok (.iaload, 1) := by decide +kernel
theorem dX9_isRelieved_31 : decode cX9_isRelieved 31 = .ok (.aload_n 0, 1) := by decide +kernel
theorem dX9_isRelieved_32 : decode cX9_isRelieved 32 = .ok (.getfield 19, 3) := by decide +kernel
theorem dX9_isRelieved_35 : decode cX9_isRelieved 35 = .ok (.iload_n 1, 1) := by decide +kernel
theorem dX9_isRelieved_36 : decode cX9_isRelieved 36 = .ok (.iaload, 1) := by decide +kernel
theorem dX9_isRelieved_37 : decode cX9_isRelieved 37 = .ok (.if_icmp .ne 35, 3) := by decide +kernel
theorem dX9_isRelieved_40 : decode cX9_isRelieved 40 = .ok (.aload_n 0, 1) := by decide +kernel
theorem dX9_isRelieved_41 : decode cX9_isRelieved 41 = .ok (.getfield 78, 3) := by decide +kernel
theorem dX9_isRelieved_44 : decode cX9_isRelieved 44 = .ok (.iload_n 2, 1) := by decide +kernel
theorem dX9_isRelieved_45 : decode cX9_isRelieved 45 = .ok (.iaload, 1) := by decide +kernel
theorem dX9_isRelieved_46 : decode cX9_isRelieved 46 = .ok (.aload_n 0, 1) := by decide +kernel
theorem dX9_isRelieved_47 : decode cX9_isRelieved 47 = .ok (.getfield 22, 3) := by decide +kernel
theorem dX9_isRelieved_50 : decode cX9_isRelieved 50 = .ok (.iload_n 1, 1) := by decide +kernel
theorem dX9_isRelieved_51 : decode cX9_isRelieved 51 = .ok (.iaload, 1) := by decide +kernel
theorem dX9_isRelieved_52 : decode cX9_isRelieved 52 = .ok (.if_icmp .gt 20, 3) := by decide +kernel
theorem dX9_isRelieved_55 : decode cX9_isRelieved 55 = .ok (.aload_n 0, 1) := by decide +kernel
theorem dX9_isRelieved_56 : decode cX9_isRelieved 56 = .ok (.getfield 22, 3) := by decide +kernel
theorem dX9_isRelieved_59 : decode cX9_isRelieved 59 = .ok (.iload_n 1, 1) := by decide +kernel
theorem dX9_isRelieved_60 : decode cX9_isRelieved 60 = .ok (.iaload, 1) := by decide +kernel
theorem dX9_isRelieved_61 : decode cX9_isRelieved 61 = .ok (.aload_n 0, 1) := by decide +kernel
theorem dX9_isRelieved_62 : decode cX9_isRelieved 62 = .ok (.getfield 81, 3) := by decide +kernel
theorem dX9_isRelieved_65 : decode cX9_isRelieved 65 = .ok (.iload_n 2, 1) := by decide +kernel
theorem dX9_isRelieved_66 : decode cX9_isRelieved 66 = .ok (.iaload, 1) := by decide +kernel
theorem dX9_isRelieved_67 : decode cX9_isRelieved 67 = .ok (.if_icmp .gt 5, 3) := by decide +kernel
theorem dX9_isRelieved_70 : decode cX9_isRelieved 70 = .ok (.iconst 1, 1) := by decide +kernel
theorem dX9_isRelieved_71 : decode cX9_isRelieved 71 = .ok (.ireturn, 1) := by decide +kernel
theorem dX9_isRelieved_72 : decode cX9_isRelieved 72 = .ok (.iinc 2 1, 3) := by decide +kernel
theorem dX9_isRelieved_75 : decode cX9_isRelieved 75 = .ok (.goto (-73), 3) := by decide +kernel
theorem dX9_isRelieved_78 : decode cX9_isRelieved 78 = .ok (.iconst 0, 1) := by decide +kernel
theorem dX9_isRelieved_79 : decode cX9_isRelieved 79 = .ok (.ireturn, 1) := by decide +kernel
theorem dX9_feeOf_0 : decode cX9_feeOf 0 = .ok (.lconst 0, 1) := by decide +kernel
theorem dX9_feeOf_1 : decode cX9_feeOf 1 = .ok (.lstore_n 3, 1) := by decide +kernel
theorem dX9_feeOf_2 : decode cX9_feeOf 2 = .ok (.iconst 0, 1) := by decide +kernel
theorem dX9_feeOf_3 : decode cX9_feeOf 3 = .ok (.istore 5, 2) := by decide +kernel
theorem dX9_feeOf_5 : decode cX9_feeOf 5 = .ok (.aload_n 0, 1) := by decide +kernel
theorem dX9_feeOf_6 : decode cX9_feeOf 6 = .ok (.getfield 53, 3) := by decide +kernel
theorem dX9_feeOf_9 : decode cX9_feeOf 9 = .ok (.iload_n 1, 1) := by decide +kernel
theorem dX9_feeOf_10 : decode cX9_feeOf 10 = .ok (.iaload, 1) := by decide +kernel
theorem dX9_feeOf_11 : decode cX9_feeOf 11 = .ok (.istore 6, 2) := by decide +kernel
theorem dX9_feeOf_13 : decode cX9_feeOf 13 = .ok (.iconst 0, 1) := by decide +kernel
theorem dX9_feeOf_14 : decode cX9_feeOf 14 = .ok (.istore 7, 2) := by decide +kernel
theorem dX9_feeOf_16 : decode cX9_feeOf 16 = .ok (.iload 7, 2) := by decide +kernel
theorem dX9_feeOf_18 : decode cX9_feeOf 18 = .ok (.aload_n 0, 1) := by decide +kernel
theorem dX9_feeOf_19 : decode cX9_feeOf 19 = .ok (.getfield 59, 3) := by decide +kernel
theorem dX9_feeOf_22 : decode cX9_feeOf 22 = .ok (.iload_n 1, 1) := by decide +kernel
theorem dX9_feeOf_23 : decode cX9_feeOf 23 = .ok (.iaload, 1) := by decide +kernel
theorem dX9_feeOf_24 : decode cX9_feeOf 24 = .ok (.if_icmp .ge 80, 3) := by decide +kernel
theorem dX9_feeOf_27 : decode cX9_feeOf 27 = .ok (.iload 5, 2) := by decide +kernel
theorem dX9_feeOf_29 : decode cX9_feeOf 29 = .ok (.iload_n 2, 1) := by decide +kernel
theorem dX9_feeOf_30 : decode cX9_feeOf 30 = .ok (.if_icmp .ge 74, 3) := by decide +kernel
theorem dX9_feeOf_33 : decode cX9_feeOf 33 = .ok (.aload_n 0, 1) := by decide +kernel
theorem dX9_feeOf_34 : decode cX9_feeOf 34 = .ok (.getfield 62, 3) := by decide +kernel
theorem dX9_feeOf_37 : decode cX9_feeOf 37 = .ok (.bipush 100, 2) := by decide +kernel
theorem dX9_feeOf_39 : decode cX9_feeOf 39 = .ok (.iload_n 1, 1) := by decide +kernel
theorem dX9_feeOf_40 : decode cX9_feeOf 40 = .ok (.imul, 1) := by decide +kernel
theorem dX9_feeOf_41 : decode cX9_feeOf 41 = .ok (.iload 7, 2) := by decide +kernel
theorem dX9_feeOf_43 : decode cX9_feeOf 43 = .ok (.iadd, 1) := by decide +kernel
theorem dX9_feeOf_44 : decode cX9_feeOf 44 = .ok (.iaload, 1) := by decide +kernel
theorem dX9_feeOf_45 : decode cX9_feeOf 45 = .ok (.iload_n 2, 1) := by decide +kernel
theorem dX9_feeOf_46 : decode cX9_feeOf 46 = .ok (.if_icmp .ge 18, 3) := by decide +kernel
theorem dX9_feeOf_49 : decode cX9_feeOf 49 = .ok (.aload_n 0, 1) := by decide +kernel
theorem dX9_feeOf_50 : decode cX9_feeOf 50 = .ok (.getfield 62, 3) := by decide +kernel
theorem dX9_feeOf_53 : decode cX9_feeOf 53 = .ok (.bipush 100, 2) := by decide +kernel
theorem dX9_feeOf_55 : decode cX9_feeOf 55 = .ok (.iload_n 1, 1) := by decide +kernel
theorem dX9_feeOf_56 : decode cX9_feeOf 56 = .ok (.imul, 1) := by decide +kernel
theorem dX9_feeOf_57 : decode cX9_feeOf 57 = .ok (.iload 7, 2) := by decide +kernel
theorem dX9_feeOf_59 : decode cX9_feeOf 59 = .ok (.iadd, 1) := by decide +kernel
theorem dX9_feeOf_60 : decode cX9_feeOf 60 = .ok (.iaload, 1) := by decide +kernel
theorem dX9_feeOf_61 : decode cX9_feeOf 61 = .ok (.goto 4, 3) := by decide +kernel
theorem dX9_feeOf_64 : decode cX9_feeOf 64 = .ok (.iload_n 2, 1) := by decide +kernel
theorem dX9_feeOf_65 : decode cX9_feeOf 65 = .ok (.istore 8, 2) := by decide +kernel
theorem dX9_feeOf_67 : decode cX9_feeOf 67 = .ok (.lload_n 3, 1) := by decide +kernel
theorem dX9_feeOf_68 : decode cX9_feeOf 68 = .ok (.iload 8, 2) := by decide +kernel
theorem dX9_feeOf_70 : decode cX9_feeOf 70 = .ok (.iload 5, 2) := by decide +kernel
theorem dX9_feeOf_72 : decode cX9_feeOf 72 = .ok (.isub, 1) := by decide +kernel
theorem dX9_feeOf_73 : decode cX9_feeOf 73 = .ok (.i2l, 1) := by decide +kernel
theorem dX9_feeOf_74 : decode cX9_feeOf 74 = .ok (.iload 6, 2) := by decide +kernel
theorem dX9_feeOf_76 : decode cX9_feeOf 76 = .ok (.i2l, 1) := by decide +kernel
theorem dX9_feeOf_77 : decode cX9_feeOf 77 = .ok (.lmul, 1) := by decide +kernel
theorem dX9_feeOf_78 : decode cX9_feeOf 78 = .ok (.ladd, 1) := by decide +kernel
theorem dX9_feeOf_79 : decode cX9_feeOf 79 = .ok (.lstore_n 3, 1) := by decide +kernel
theorem dX9_feeOf_80 : decode cX9_feeOf 80 = .ok (.iload 8, 2) := by decide +kernel
theorem dX9_feeOf_82 : decode cX9_feeOf 82 = .ok (.istore 5, 2) := by decide +kernel
theorem dX9_feeOf_84 : decode cX9_feeOf 84 = .ok (.aload_n 0, 1) := by decide +kernel
theorem dX9_feeOf_85 : decode cX9_feeOf 85 = .ok (.getfield 65, 3) := by decide +kernel
theorem dX9_feeOf_88 : decode cX9_feeOf 88 = .ok (.bipush 100, 2) := by decide +kernel
theorem dX9_feeOf_90 : decode cX9_feeOf 90 = .ok (.iload_n 1, 1) := by decide +kernel
theorem dX9_feeOf_91 : decode cX9_feeOf 91 = .ok (.imul, 1) := by decide +kernel
theorem dX9_feeOf_92 : decode cX9_feeOf 92 = .ok (.iload 7, 2) := by decide +kernel
theorem dX9_feeOf_94 : decode cX9_feeOf 94 = .ok (.iadd, 1) := by decide +kernel
theorem dX9_feeOf_95 : decode cX9_feeOf 95 = .ok (.iaload, 1) := by decide +kernel
theorem dX9_feeOf_96 : decode cX9_feeOf 96 = .ok (.istore 6, 2) := by decide +kernel
theorem dX9_feeOf_98 : decode cX9_feeOf 98 = .ok (.iinc 7 1, 3) := by decide +kernel
theorem dX9_feeOf_101 : decode cX9_feeOf 101 = .ok (.goto (-85), 3) := by decide +kernel
theorem dX9_feeOf_104 : decode cX9_feeOf 104 = .ok (.lload_n 3, 1) := by decide +kernel
theorem dX9_feeOf_105 : decode cX9_feeOf 105 = .ok (.iload_n 2, 1) := by decide +kernel
theorem dX9_feeOf_106 : decode cX9_feeOf 106 = .ok (.iload 5, 2) := by decide +kernel
theorem dX9_feeOf_108 : decode cX9_feeOf 108 = .ok (.isub, 1) := by decide +kernel
theorem dX9_feeOf_109 : decode cX9_feeOf 109 = .ok (.i2l, 1) := by decide +kernel
theorem dX9_feeOf_110 : decode cX9_feeOf 110 = .ok (.iload 6, 2) := by decide +kernel
theorem dX9_feeOf_112 : decode cX9_feeOf 112 = .ok (.i2l, 1) := by decide +kernel
theorem dX9_feeOf_113 : decode cX9_feeOf 113 = .ok (.lmul, 1) := by decide +kernel
theorem dX9_feeOf_114 : decode cX9_feeOf 114 = .ok (.ladd, 1) := by decide +kernel
theorem dX9_feeOf_115 : decode cX9_feeOf 115 = .ok (.lstore_n 3, 1) := by decide +kernel
theorem dX9_feeOf_116 : decode cX9_feeOf 116 = .ok (.lload_n 3, 1) := by decide +kernel
theorem dX9_feeOf_117 : decode cX9_feeOf 117 = .ok (.aload_n 0, 1) := by decide +kernel
theorem dX9_feeOf_118 : decode cX9_feeOf 118 = .ok (.getfield 50, 3) := by decide +kernel
theorem dX9_feeOf_121 : decode cX9_feeOf 121 = .ok (.iload_n 1, 1) := by decide +kernel
theorem dX9_feeOf_122 : decode cX9_feeOf 122 = .ok (.iaload, 1) := by decide +kernel
theorem dX9_feeOf_123 : decode cX9_feeOf 123 = .ok (.i2l, 1) := by decide +kernel
theorem dX9_feeOf_124 : decode cX9_feeOf 124 = .ok (.ldiv, 1) := by decide +kernel
theorem dX9_feeOf_125 : decode cX9_feeOf 125 = .ok (.lstore 7, 2) := by decide +kernel
theorem dX9_feeOf_127 : decode cX9_feeOf 127 = .ok (.aload_n 0, 1) := by decide +kernel
theorem dX9_feeOf_128 : decode cX9_feeOf 128 = .ok (.getfield 56, 3) := by decide +kernel
theorem dX9_feeOf_131 : decode cX9_feeOf 131 = .ok (.iload_n 1, 1) := by decide +kernel
theorem dX9_feeOf_132 : decode cX9_feeOf 132 = .ok (.iaload, 1) := by decide +kernel
theorem dX9_feeOf_133 : decode cX9_feeOf 133 = .ok (.ifCond .lt 26, 3) := by decide +kernel
theorem dX9_feeOf_136 : decode cX9_feeOf 136 = .ok (.lload 7, 2) := by decide +kernel
theorem dX9_feeOf_138 : decode cX9_feeOf 138 = .ok (.aload_n 0, 1) := by decide +kernel
theorem dX9_feeOf_139 : decode cX9_feeOf 139 = .ok (.getfield 56, 3) := by decide +kernel
theorem dX9_feeOf_142 : decode cX9_feeOf 142 = .ok (.iload_n 1, 1) := by decide +kernel
theorem dX9_feeOf_143 : decode cX9_feeOf 143 = .ok (.iaload, 1) := by decide +kernel
theorem dX9_feeOf_144 : decode cX9_feeOf 144 = .ok (.i2l, 1) := by decide +kernel
theorem dX9_feeOf_145 : decode cX9_feeOf 145 = .ok (.lcmp, 1) := by decide +kernel
theorem dX9_feeOf_146 : decode cX9_feeOf 146 = .ok (.ifCond .le 13, 3) := by decide +kernel
theorem dX9_feeOf_149 : decode cX9_feeOf 149 = .ok (.aload_n 0, 1) := by decide +kernel
theorem dX9_feeOf_150 : decode cX9_feeOf 150 = .ok (.getfield 56, 3) := by decide +kernel
theorem dX9_feeOf_153 : decode cX9_feeOf 153 = .ok (.iload_n 1, 1) := by decide +kernel
theorem dX9_feeOf_154 : decode cX9_feeOf 154 = .ok (.iaload, 1) := by decide +kernel
theorem dX9_feeOf_155 : decode cX9_feeOf 155 = .ok (.i2l, 1) := by decide +kernel
theorem dX9_feeOf_156 : decode cX9_feeOf 156 = .ok (.goto 5, 3) := by decide +kernel
theorem dX9_feeOf_159 : decode cX9_feeOf 159 = .ok (.lload 7, 2) := by decide +kernel
theorem dX9_feeOf_161 : decode cX9_feeOf 161 = .ok (.lreturn, 1) := by decide +kernel
theorem dX9_editionOf_0 : decode cX9_editionOf 0 = .ok (.iconst (-1), 1) := by decide +kernel
theorem dX9_editionOf_1 : decode cX9_editionOf 1 = .ok (.istore 4, 2) := by decide +kernel
theorem dX9_editionOf_3 : decode cX9_editionOf 3 = .ok (.iconst 0, 1) := by decide +kernel
theorem dX9_editionOf_4 : decode cX9_editionOf 4 = .ok (.istore 5, 2) := by decide +kernel
theorem dX9_editionOf_6 : decode cX9_editionOf 6 = .ok (.iload 5, 2) := by decide +kernel
theorem dX9_editionOf_8 : decode cX9_editionOf 8 = .ok (.aload_n 0, 1) := by decide +kernel
theorem dX9_editionOf_9 : decode cX9_editionOf 9 = .ok (.getfield 149, 3) := by decide +kernel
theorem dX9_editionOf_12 : decode cX9_editionOf 12 = .ok (.if_icmp .ge 67, 3) := by decide +kernel
theorem dX9_editionOf_15 : decode cX9_editionOf 15 = .ok (.aload_n 0, 1) := by decide +kernel
theorem dX9_editionOf_16 : decode cX9_editionOf 16 = .ok (.getfield 43, 3) := by decide +kernel
theorem dX9_editionOf_19 : decode cX9_editionOf 19 = .ok (.iload 5, 2) := by decide +kernel
theorem dX9_editionOf_21 : decode cX9_editionOf 21 = .ok (.iaload, 1) := by decide +kernel
theorem dX9_editionOf_22 : decode cX9_editionOf 22 = .ok (.i2l, 1) := by decide +kernel
theorem dX9_editionOf_23 : decode cX9_editionOf 23 = .ok (.lload_n 2, 1) := by decide +kernel
theorem dX9_editionOf_24 : decode cX9_editionOf 24 = .ok (.lcmp, 1) := by decide +kernel
theorem dX9_editionOf_25 : decode cX9_editionOf 25 = .ok (.ifCond .gt 48, 3) := by decide +kernel
theorem dX9_editionOf_28 : decode cX9_editionOf 28 = .ok (.aload_n 0, 1) := by decide +kernel
theorem dX9_editionOf_29 : decode cX9_editionOf 29 = .ok (.getfield 40, 3) := by decide +kernel
theorem dX9_editionOf_32 : decode cX9_editionOf 32 = .ok (.iload 5, 2) := by decide +kernel
theorem dX9_editionOf_34 : decode cX9_editionOf 34 = .ok (.iaload, 1) := by decide +kernel
theorem dX9_editionOf_35 : decode cX9_editionOf 35 = .ok (.aload_n 0, 1) := by decide +kernel
theorem dX9_editionOf_36 : decode cX9_editionOf 36 = .ok (.getfield 22, 3) := by decide +kernel
theorem dX9_editionOf_39 : decode cX9_editionOf 39 = .ok (.iload_n 1, 1) := by decide +kernel
theorem dX9_editionOf_40 : decode cX9_editionOf 40 = .ok (.iaload, 1) := by decide +kernel
theorem dX9_editionOf_41 : decode cX9_editionOf 41 = .ok (.if_icmp .le 6, 3) := by decide +kernel
theorem dX9_editionOf_44 : decode cX9_editionOf 44 = .ok (.goto 29, 3) := by decide +kernel
theorem dX9_editionOf_47 : decode cX9_editionOf 47 = .ok (.iload 4, 2) := by decide +kernel
theorem dX9_editionOf_49 : decode cX9_editionOf 49 = .ok (.ifCond .lt 20, 3) := by decide +kernel
theorem dX9_editionOf_52 : decode cX9_editionOf 52 = .ok (.aload_n 0, 1) := by decide +kernel
theorem dX9_editionOf_53 : decode cX9_editionOf 53 = .ok (.getfield 40, 3) := by decide +kernel
theorem dX9_editionOf_56 : decode cX9_editionOf 56 = .ok (.iload 5, 2) := by decide +kernel
theorem dX9_editionOf_58 : decode cX9_editionOf 58 = .ok (.iaload, 1) := by decide +kernel
theorem dX9_editionOf_59 : decode cX9_editionOf 59 = .ok (.aload_n 0, 1) := by decide +kernel
theorem dX9_editionOf_60 : decode cX9_editionOf 60 = .ok (.getfield 40, 3) := by decide +kernel
theorem dX9_editionOf_63 : decode cX9_editionOf 63 = .ok (.iload 4, 2) := by decide +kernel
theorem dX9_editionOf_65 : decode cX9_editionOf 65 = .ok (.iaload, 1) := by decide +kernel
theorem dX9_editionOf_66 : decode cX9_editionOf 66 = .ok (.if_icmp .lt 7, 3) := by decide +kernel
theorem dX9_editionOf_69 : decode cX9_editionOf 69 = .ok (.iload 5, 2) := by decide +kernel
theorem dX9_editionOf_71 : decode cX9_editionOf 71 = .ok (.istore 4, 2) := by decide +kernel
theorem dX9_editionOf_73 : decode cX9_editionOf 73 = .ok (.iinc 5 1, 3) := by decide +kernel
theorem dX9_editionOf_76 : decode cX9_editionOf 76 = .ok (.goto (-70), 3) := by decide +kernel
theorem dX9_editionOf_79 : decode cX9_editionOf 79 = .ok (.iload 4, 2) := by decide +kernel
theorem dX9_editionOf_81 : decode cX9_editionOf 81 = .ok (.ireturn, 1) := by decide +kernel
set_option maxRecDepth 20000 in
theorem ggX9_findLines_X9_isRelieved : GoodIn wsX9_findLines wsX9_isRelieved := goodIn_r _ [19, 20, 21, 3, 22, 6, 23, 4, 24, 41, 42, 43, 44, 45, 46, 47, 48, 49, 50, 51, 52, 53, 54, 55, 56, 57, 58, 59, 60, 61, 62, 63, 64, 65, 66, 67, 68, 69, 70, 71, 72, 73, 74, 75, 76, 77, 78, 79, 80, 81, 82, 83] (by decide +kernel) (by decide +kernel)
set_option maxRecDepth 20000 in
theorem gX9_findLines_X9_isRelieved : GoodIn wsX9_findLines (wsV RX9 193 RX9 yX9_isRelieved wsX9_isRelieved) := goodIn_app (goodIn_of _ (by decide +kernel)) ggX9_findLines_X9_isRelieved
set_option maxRecDepth 20000 in
theorem ggX9_findLines_X9_editionOf : GoodIn wsX9_findLines wsX9_editionOf := goodIn_r _ [28, 29, 30, 31, 4, 41, 42, 43, 44, 45, 46, 47, 48, 49, 50, 51, 52, 53, 54, 55, 56, 57, 58, 59, 60, 61, 62, 63, 64, 65, 66, 67, 68, 69, 70, 71, 72, 73, 74, 75, 76, 77, 78, 79, 80, 81, 82, 83] (by decide +kernel) (by decide +kernel)
set_option maxRecDepth 20000 in
theorem gX9_findLines_X9_editionOf : GoodIn wsX9_findLines (wsV RX9 196 RX9 yX9_editionOf wsX9_editionOf) := goodIn_app (goodIn_of _ (by decide +kernel)) ggX9_findLines_X9_editionOf
set_option maxRecDepth 20000 in
theorem ggX9_findLines_X9_feeOf : GoodIn wsX9_findLines wsX9_feeOf := goodIn_r _ [35, 36, 37, 38, 39, 8, 40, 41, 42, 43, 44, 45, 46, 47, 48, 49, 50, 51, 52, 53, 54, 55, 56, 57, 58, 59, 60, 61, 62, 63, 64, 65, 66, 67, 68, 69, 70, 71, 72, 73, 74, 75, 76, 77, 78, 79, 80, 81, 82, 83] (by decide +kernel) (by decide +kernel)
set_option maxRecDepth 20000 in
theorem gX9_findLines_X9_feeOf : GoodIn wsX9_findLines (wsV RX9 200 RX9 yX9_feeOf wsX9_feeOf) := goodIn_app (goodIn_of _ (by decide +kernel)) ggX9_findLines_X9_feeOf
theorem dX9_findLines_0 : decode cX9_findLines 0 = .ok (.aload_n 0, 1) := by decide +kernel
theorem dX9_findLines_1 : decode cX9_findLines 1 = .ok (.iconst 0, 1) := by decide +kernel
theorem dX9_findLines_2 : decode cX9_findLines 2 = .ok (.putfield 190, 3) := by decide +kernel
theorem dX9_findLines_5 : decode cX9_findLines 5 = .ok (.iconst 0, 1) := by decide +kernel
theorem dX9_findLines_6 : decode cX9_findLines 6 = .ok (.istore 5, 2) := by decide +kernel
theorem dX9_findLines_8 : decode cX9_findLines 8 = .ok (.iload 5, 2) := by decide +kernel
theorem dX9_findLines_10 : decode cX9_findLines 10 = .ok (.aload_n 0, 1) := by decide +kernel
theorem dX9_findLines_11 : decode cX9_findLines 11 = .ok (.getfield 123, 3) := by decide +kernel
theorem dX9_findLines_14 : decode cX9_findLines 14 = .ok (.if_icmp .ge 230, 3) := by decide +kernel
theorem dX9_findLines_17 : decode cX9_findLines 17 = .ok (.aload_n 0, 1) := by decide +kernel
theorem dX9_findLines_18 : decode cX9_findLines 18 = .ok (.getfield 16, 3) := by decide +kernel
theorem dX9_findLines_21 : decode cX9_findLines 21 = .ok (.iload 5, 2) := by decide +kernel
theorem dX9_findLines_23 : decode cX9_findLines 23 = .ok (.iaload, 1) := by decide +kernel
theorem dX9_findLines_24 : decode cX9_findLines 24 = .ok (.iload_n 1, 1) := by decide +kernel
theorem dX9_findLines_25 : decode cX9_findLines 25 = .ok (.if_icmp .ne 213, 3) := by decide +kernel
theorem dX9_findLines_28 : decode cX9_findLines 28 = .ok (.aload_n 0, 1) := by decide +kernel
theorem dX9_findLines_29 : decode cX9_findLines 29 = .ok (.getfield 22, 3) := by decide +kernel
theorem dX9_findLines_32 : decode cX9_findLines 32 = .ok (.iload 5, 2) := by decide +kernel
theorem dX9_findLines_34 : decode cX9_findLines 34 = .ok (.iaload, 1) := by decide +kernel
theorem dX9_findLines_35 : decode cX9_findLines 35 = .ok (.bipush 30, 2) := by decide +kernel
theorem dX9_findLines_37 : decode cX9_findLines 37 = .ok (.idiv, 1) := by decide +kernel
theorem dX9_findLines_38 : decode cX9_findLines 38 = .ok (.iload_n 2, 1) := by decide +kernel
theorem dX9_findLines_39 : decode cX9_findLines 39 = .ok (.if_icmp .ne 199, 3) := by decide +kernel
theorem dX9_findLines_42 : decode cX9_findLines 42 = .ok (.aload_n 0, 1) := by decide +kernel
theorem dX9_findLines_43 : decode cX9_findLines 43 = .ok (.getfield 28, 3) := by decide +kernel
theorem dX9_findLines_46 : decode cX9_findLines 46 = .ok (.iload 5, 2) := by decide +kernel
theorem dX9_findLines_48 : decode cX9_findLines 48 = .ok (.iaload, 1) := by decide +kernel
theorem dX9_findLines_49 : decode cX9_findLines 49 = .ok (.i2l, 1) := by decide +kernel
theorem dX9_findLines_50 : decode cX9_findLines 50 = .ok (.lload_n 3, 1) := by decide +kernel
theorem dX9_findLines_51 : decode cX9_findLines 51 = .ok (.lcmp, 1) := by decide +kernel
theorem dX9_findLines_52 : decode cX9_findLines 52 = .ok (.ifCond .le 6, 3) := by decide +kernel
theorem dX9_findLines_55 : decode cX9_findLines 55 = .ok (.goto 183, 3) := by decide +kernel
theorem dX9_findLines_58 : decode cX9_findLines 58 = .ok (.aload_n 0, 1) := by decide +kernel
theorem dX9_findLines_59 : decode cX9_findLines 59 = .ok (.iload 5, 2) := by decide +kernel
theorem dX9_findLines_61 : decode cX9_findLines 61 = .ok (.invokevirtual 193, 3) := by decide +kernel
theorem dX9_findLines_64 : decode cX9_findLines 64 = .ok (.istore 6, 2) := by decide +kernel
theorem dX9_findLines_66 : decode cX9_findLines 66 = .ok (.iload 6, 2) := by decide +kernel
theorem dX9_findLines_68 : decode cX9_findLines 68 = .ok (.ifCond .eq 7, 3) := by decide +kernel
theorem dX9_findLines_71 : decode cX9_findLines 71 = .ok (.iconst (-1), 1) := by decide +kernel
theorem dX9_findLines_72 : decode cX9_findLines 72 = .ok (.goto 10, 3) := by decide +kernel
theorem dX9_findLines_75 : decode cX9_findLines 75 = .ok (.aload_n 0, 1) := by decide +kernel
theorem dX9_findLines_76 : decode cX9_findLines 76 = .ok (.iload 5, 2) := by decide +kernel
theorem dX9_findLines_78 : decode cX9_findLines 78 = .ok (.lload_n 3, 1) := by decide +kernel
theorem dX9_findLines_79 : decode cX9_findLines 79 = .ok (.invokevirtual 196, 3) := by decide +kernel
theorem dX9_findLines_82 : decode cX9_findLines 82 = .ok (.istore 7, 2) := by decide +kernel
theorem dX9_findLines_84 : decode cX9_findLines 84 = .ok (.iload 7, 2) := by decide +kernel
theorem dX9_findLines_86 : decode cX9_findLines 86 = .ok (.ifCond .ge 7, 3) := by decide +kernel
theorem dX9_findLines_89 : decode cX9_findLines 89 = .ok (.iconst 0, 1) := by decide +kernel
theorem dX9_findLines_90 : decode cX9_findLines 90 = .ok (.goto 16, 3) := by decide +kernel
theorem dX9_findLines_93 : decode cX9_findLines 93 = .ok (.bipush 6, 2) := by decide +kernel
theorem dX9_findLines_95 : decode cX9_findLines 95 = .ok (.iload 7, 2) := by decide +kernel
theorem dX9_findLines_97 : decode cX9_findLines 97 = .ok (.imul, 1) := by decide +kernel
theorem dX9_findLines_98 : decode cX9_findLines 98 = .ok (.aload_n 0, 1) := by decide +kernel
theorem dX9_findLines_99 : decode cX9_findLines 99 = .ok (.getfield 19, 3) := by decide +kernel
theorem dX9_findLines_102 : decode cX9_findLines 102 = .ok (.iload 5, 2) := by decide +kernel
theorem dX9_findLines_104 : decode cX9_findLines 104 = .ok (.iaload, 1) := by decide +kernel
theorem dX9_findLines_105 : decode cX9_findLines 105 = .ok (.iadd, 1) := by decide +kernel
theorem dX9_findLines_106 : decode cX9_findLines 106 = .ok (.istore 8, 2) := by decide +kernel
theorem dX9_findLines_108 : decode cX9_findLines 108 = .ok (.iload 6, 2) := by decide +kernel
theorem dX9_findLines_110 : decode cX9_findLines 110 = .ok (.ifCond .eq 7, 3) := by decide +kernel
theorem dX9_findLines_113 : decode cX9_findLines 113 = .ok (.iconst 0, 1) := by decide +kernel
theorem dX9_findLines_114 : decode cX9_findLines 114 = .ok (.goto 37, 3) := by decide +kernel
theorem dX9_findLines_117 : decode cX9_findLines 117 = .ok (.iload 7, 2) := by decide +kernel
theorem dX9_findLines_119 : decode cX9_findLines 119 = .ok (.ifCond .lt 13, 3) := by decide +kernel
theorem dX9_findLines_122 : decode cX9_findLines 122 = .ok (.aload_n 0, 1) := by decide +kernel
theorem dX9_findLines_123 : decode cX9_findLines 123 = .ok (.getfield 46, 3) := by decide +kernel
theorem dX9_findLines_126 : decode cX9_findLines 126 = .ok (.iload 8, 2) := by decide +kernel
theorem dX9_findLines_128 : decode cX9_findLines 128 = .ok (.baload, 1) := by decide +kernel
theorem dX9_findLines_129 : decode cX9_findLines 129 = .ok (.ifCond .ne 7, 3) := by decide +kernel
theorem dX9_findLines_132 : decode cX9_findLines 132 = .ok (.iconst 1, 1) := by decide +kernel
theorem dX9_findLines_133 : decode cX9_findLines 133 = .ok (.goto 18, 3) := by decide +kernel
theorem dX9_findLines_136 : decode cX9_findLines 136 = .ok (.aload_n 0, 1) := by decide +kernel
theorem dX9_findLines_137 : decode cX9_findLines 137 = .ok (.getfield 50, 3) := by decide +kernel
theorem dX9_findLines_140 : decode cX9_findLines 140 = .ok (.iload 8, 2) := by decide +kernel
theorem dX9_findLines_142 : decode cX9_findLines 142 = .ok (.iaload, 1) := by decide +kernel
theorem dX9_findLines_143 : decode cX9_findLines 143 = .ok (.ifCond .ne 7, 3) := by decide +kernel
theorem dX9_findLines_146 : decode cX9_findLines 146 = .ok (.iconst 2, 1) := by decide +kernel
theorem dX9_findLines_147 : decode cX9_findLines 147 = .ok (.goto 4, 3) := by decide +kernel
theorem dX9_findLines_150 : decode cX9_findLines 150 = .ok (.iconst 0, 1) := by decide +kernel
theorem dX9_findLines_151 : decode cX9_findLines 151 = .ok (.istore 9, 2) := by decide +kernel
theorem dX9_findLines_153 : decode cX9_findLines 153 = .ok (.aload_n 0, 1) := by decide +kernel
theorem dX9_findLines_154 : decode cX9_findLines 154 = .ok (.getfield 87, 3) := by decide +kernel
theorem dX9_findLines_157 : decode cX9_findLines 157 = .ok (.aload_n 0, 1) := by decide +kernel
theorem dX9_findLines_158 : decode cX9_findLines 158 = .ok (.getfield 190, 3) := by decide +kernel
theorem dX9_findLines_161 : decode cX9_findLines 161 = .ok (.iload 5, 2) := by decide +kernel
theorem dX9_findLines_163 : decode cX9_findLines 163 = .ok (.iastore, 1) := by decide +kernel
theorem dX9_findLines_164 : decode cX9_findLines 164 = .ok (.aload_n 0, 1) := by decide +kernel
theorem dX9_findLines_165 : decode cX9_findLines 165 = .ok (.getfield 93, 3) := by decide +kernel
theorem dX9_findLines_168 : decode cX9_findLines 168 = .ok (.aload_n 0, 1) := by decide +kernel
theorem dX9_findLines_169 : decode cX9_findLines 169 = .ok (.getfield 190, 3) := by decide +kernel
theorem dX9_findLines_172 : decode cX9_findLines 172 = .ok (.iload 7, 2) := by decide +kernel
theorem dX9_findLines_174 : decode cX9_findLines 174 = .ok (.iastore, 1) := by decide +kernel
theorem dX9_findLines_175 : decode cX9_findLines 175 = .ok (.aload_n 0, 1) := by decide +kernel
theorem dX9_findLines_176 : decode cX9_findLines 176 = .ok (.getfield 96, 3) := by decide +kernel
theorem dX9_findLines_179 : decode cX9_findLines 179 = .ok (.aload_n 0, 1) := by decide +kernel
theorem dX9_findLines_180 : decode cX9_findLines 180 = .ok (.getfield 190, 3) := by decide +kernel
theorem dX9_findLines_183 : decode cX9_findLines 183 = .ok (.iload 9, 2) := by decide +kernel
theorem dX9_findLines_185 : decode cX9_findLines 185 = .ok (.iastore, 1) := by decide +kernel
theorem dX9_findLines_186 : decode cX9_findLines 186 = .ok (.aload_n 0, 1) := by decide +kernel
theorem dX9_findLines_187 : decode cX9_findLines 187 = .ok (.getfield 90, 3) := by decide +kernel
theorem dX9_findLines_190 : decode cX9_findLines 190 = .ok (.aload_n 0, 1) := by decide +kernel
theorem dX9_findLines_191 : decode cX9_findLines 191 = .ok (.getfield 190, 3) := by decide +kernel
theorem dX9_findLines_194 : decode cX9_findLines 194 = .ok (.iload 9, 2) := by decide +kernel
theorem dX9_findLines_196 : decode cX9_findLines 196 = .ok (.ifCond .le 9, 3) := by decide +kernel
theorem dX9_findLines_199 : decode cX9_findLines 199 = .ok (.ldc2_w 115, 3) := by decide +kernel
theorem dX9_findLines_202 : decode cX9_findLines 202 = .ok (.goto 25, 3) := by decide +kernel
theorem dX9_findLines_205 : decode cX9_findLines 205 = .ok (.iload 6, 2) := by decide +kernel
theorem dX9_findLines_207 : decode cX9_findLines 207 = .ok (.ifCond .eq 7, 3) := by decide +kernel
theorem dX9_findLines_210 : decode cX9_findLines 210 = .ok (.lconst 0, 1) := by decide +kernel
theorem dX9_findLines_211 : decode cX9_findLines 211 = .ok (.goto 16, 3) := by decide +kernel
theorem dX9_findLines_214 : decode cX9_findLines 214 = .ok (.aload_n 0, 1) := by decide +kernel
theorem dX9_findLines_215 : decode cX9_findLines 215 = .ok (.iload 8, 2) := by decide +kernel
theorem dX9_findLines_217 : decode cX9_findLines 217 = .ok (.aload_n 0, 1) := by decide +kernel
theorem dX9_findLines_218 : decode cX9_findLines 218 = .ok (.getfield 25, 3) := by decide +kernel
theorem dX9_findLines_221 : decode cX9_findLines 221 = .ok (.iload 5, 2) := by decide +kernel
theorem dX9_findLines_223 : decode cX9_findLines 223 = .ok (.iaload, 1) := by decide +kernel
theorem dX9_findLines_224 : decode cX9_findLines 224 = .ok (.invokevirtual 200, 3) := by decide +kernel
theorem dX9_findLines_227 : decode cX9_findLines 227 = .ok (.lastore, 1) := by decide +kernel
theorem dX9_findLines_228 : decode cX9_findLines 228 = .ok (.aload_n 0, 1) := by decide +kernel
theorem dX9_findLines_229 : decode cX9_findLines 229 = .ok (.dup, 1) := by decide +kernel
theorem dX9_findLines_230 : decode cX9_findLines 230 = .ok (.getfield 190, 3) := by decide +kernel
theorem dX9_findLines_233 : decode cX9_findLines 233 = .ok (.iconst 1, 1) := by decide +kernel
theorem dX9_findLines_234 : decode cX9_findLines 234 = .ok (.iadd, 1) := by decide +kernel
theorem dX9_findLines_235 : decode cX9_findLines 235 = .ok (.putfield 190, 3) := by decide +kernel
theorem dX9_findLines_238 : decode cX9_findLines 238 = .ok (.iinc 5 1, 3) := by decide +kernel
theorem dX9_findLines_241 : decode cX9_findLines 241 = .ok (.goto (-233), 3) := by decide +kernel
theorem dX9_findLines_244 : decode cX9_findLines 244 = .ok (.return_, 1) := by decide +kernel
set_option maxRecDepth 20000 in
theorem ggX9_isAsked_X9_isHouse : GoodIn wsX9_isAsked wsX9_isHouse := goodIn_r _ [5, 6, 14, 15, 16, 17, 18, 19, 20, 21, 22, 23, 24, 25, 26, 27, 28, 29, 30, 31, 32, 33, 34, 35, 36, 37, 38, 39, 40, 41, 42, 43, 44, 45, 46, 47, 48, 49, 50, 51, 52, 53, 54, 55, 56] (by decide +kernel) (by decide +kernel)
set_option maxRecDepth 20000 in
theorem gX9_isAsked_X9_isHouse : GoodIn wsX9_isAsked (wsV RX9 126 RX9 yX9_isHouse wsX9_isHouse) := goodIn_app (goodIn_of _ (by decide +kernel)) ggX9_isAsked_X9_isHouse
set_option maxRecDepth 20000 in
theorem ggX9_isAsked_X9_isMonth : GoodIn wsX9_isAsked wsX9_isMonth := goodIn_r _ [9] (by decide +kernel) (by decide +kernel)
set_option maxRecDepth 20000 in
theorem gX9_isAsked_X9_isMonth : GoodIn wsX9_isAsked (va_wsS RX9 178 yX9_isMonth wsX9_isMonth) := goodIn_app (goodIn_of _ (by decide +kernel)) ggX9_isAsked_X9_isMonth
set_option maxRecDepth 20000 in
theorem ggX9_isAsked_X9_isDay : GoodIn wsX9_isAsked wsX9_isDay := goodIn_r _ [12, 13] (by decide +kernel) (by decide +kernel)
set_option maxRecDepth 20000 in
theorem gX9_isAsked_X9_isDay : GoodIn wsX9_isAsked (va_wsS RX9 133 yX9_isDay wsX9_isDay) := goodIn_app (goodIn_of _ (by decide +kernel)) ggX9_isAsked_X9_isDay
theorem dX9_isAsked_0 : decode cX9_isAsked 0 = .ok (.aload_n 0, 1) := by decide +kernel
theorem dX9_isAsked_1 : decode cX9_isAsked 1 = .ok (.iload_n 1, 1) := by decide +kernel
theorem dX9_isAsked_2 : decode cX9_isAsked 2 = .ok (.invokevirtual 126, 3) := by decide +kernel
theorem dX9_isAsked_5 : decode cX9_isAsked 5 = .ok (.ifCond .eq 21, 3) := by decide +kernel
theorem dX9_isAsked_8 : decode cX9_isAsked 8 = .ok (.iload_n 2, 1) := by decide +kernel
theorem dX9_isAsked_9 : decode cX9_isAsked 9 = .ok (.invokestatic 178, 3) := by decide +kernel
theorem dX9_isAsked_12 : decode cX9_isAsked 12 = .ok (.ifCond .eq 14, 3) := by decide +kernel
theorem dX9_isAsked_15 : decode cX9_isAsked 15 = .ok (.lload_n 3, 1) := by decide +kernel
theorem dX9_isAsked_16 : decode cX9_isAsked 16 = .ok (.invokestatic 133, 3) := by decide +kernel
theorem dX9_isAsked_19 : decode cX9_isAsked 19 = .ok (.ifCond .eq 7, 3) := by decide +kernel
theorem dX9_isAsked_22 : decode cX9_isAsked 22 = .ok (.iconst 1, 1) := by decide +kernel
theorem dX9_isAsked_23 : decode cX9_isAsked 23 = .ok (.goto 4, 3) := by decide +kernel
theorem dX9_isAsked_26 : decode cX9_isAsked 26 = .ok (.iconst 0, 1) := by decide +kernel
theorem dX9_isAsked_27 : decode cX9_isAsked 27 = .ok (.ireturn, 1) := by decide +kernel
set_option maxRecDepth 20000 in
theorem ggX9_bill_X9_isAsked : GoodIn wsX9_bill wsX9_isAsked := goodIn_r _ [10, 11, 12, 13, 9, 14, 15, 16, 17, 18, 19, 20, 21, 22, 63, 64, 65, 66, 67, 68, 69, 70, 71, 72, 73, 74, 75, 76, 77, 78, 79, 80, 81, 82, 83, 84, 85, 86, 87, 88, 89, 90, 91, 92, 93, 94, 95, 96, 97, 98, 99, 100, 101, 102, 103, 104, 105] (by decide +kernel) (by decide +kernel)
set_option maxRecDepth 20000 in
theorem gX9_bill_X9_isAsked : GoodIn wsX9_bill (wsV RX9 204 RX9 yX9_isAsked wsX9_isAsked) := goodIn_app (goodIn_of _ (by decide +kernel)) ggX9_bill_X9_isAsked
set_option maxRecDepth 20000 in
theorem ggX9_bill_X9_findLines : GoodIn wsX9_bill wsX9_findLines := goodIn_r _ [26, 2, 27, 28, 29, 30, 31, 32, 33, 34, 35, 3, 4, 36, 37, 38, 39, 40, 9, 41, 42, 43, 44, 45, 46, 47, 48, 49, 50, 51, 52, 53, 54, 55, 56, 57, 58, 59, 60, 61, 62, 63, 64, 65, 66, 67, 68, 69, 70, 71, 72, 73, 74, 75, 76, 77, 78, 79, 80, 81, 82, 83, 84, 85, 86, 87, 88, 89, 90, 91, 92, 93, 94, 95, 96, 97, 98, 99, 100, 101, 102, 103, 104, 105] (by decide +kernel) (by decide +kernel)
set_option maxRecDepth 20000 in
theorem gX9_bill_X9_findLines : GoodIn wsX9_bill (wsV RX9 210 RX9 yX9_findLines wsX9_findLines) := goodIn_app (goodIn_of _ (by decide +kernel)) ggX9_bill_X9_findLines
theorem dX9_bill_0 : decode cX9_bill 0 = .ok (.aload_n 0, 1) := by decide +kernel
theorem dX9_bill_1 : decode cX9_bill 1 = .ok (.iload_n 1, 1) := by decide +kernel
theorem dX9_bill_2 : decode cX9_bill 2 = .ok (.iload_n 2, 1) := by decide +kernel
theorem dX9_bill_3 : decode cX9_bill 3 = .ok (.lload_n 3, 1) := by decide +kernel
theorem dX9_bill_4 : decode cX9_bill 4 = .ok (.invokevirtual 204, 3) := by decide +kernel
theorem dX9_bill_7 : decode cX9_bill 7 = .ok (.ifCond .ne 7, 3) := by decide +kernel
theorem dX9_bill_10 : decode cX9_bill 10 = .ok (.ldc2_w 208, 3) := by decide +kernel
theorem dX9_bill_13 : decode cX9_bill 13 = .ok (.lreturn, 1) := by decide +kernel
theorem dX9_bill_14 : decode cX9_bill 14 = .ok (.aload_n 0, 1) := by decide +kernel
theorem dX9_bill_15 : decode cX9_bill 15 = .ok (.iload_n 1, 1) := by decide +kernel
theorem dX9_bill_16 : decode cX9_bill 16 = .ok (.iload_n 2, 1) := by decide +kernel
theorem dX9_bill_17 : decode cX9_bill 17 = .ok (.lload_n 3, 1) := by decide +kernel
theorem dX9_bill_18 : decode cX9_bill 18 = .ok (.invokevirtual 210, 3) := by decide +kernel
theorem dX9_bill_21 : decode cX9_bill 21 = .ok (.lconst 0, 1) := by decide +kernel
theorem dX9_bill_22 : decode cX9_bill 22 = .ok (.lstore 5, 2) := by decide +kernel
theorem dX9_bill_24 : decode cX9_bill 24 = .ok (.iconst 0, 1) := by decide +kernel
theorem dX9_bill_25 : decode cX9_bill 25 = .ok (.istore 7, 2) := by decide +kernel
theorem dX9_bill_27 : decode cX9_bill 27 = .ok (.iload 7, 2) := by decide +kernel
theorem dX9_bill_29 : decode cX9_bill 29 = .ok (.aload_n 0, 1) := by decide +kernel
theorem dX9_bill_30 : decode cX9_bill 30 = .ok (.getfield 190, 3) := by decide +kernel
theorem dX9_bill_33 : decode cX9_bill 33 = .ok (.if_icmp .ge 35, 3) := by decide +kernel
theorem dX9_bill_36 : decode cX9_bill 36 = .ok (.aload_n 0, 1) := by decide +kernel
theorem dX9_bill_37 : decode cX9_bill 37 = .ok (.getfield 96, 3) := by decide +kernel
theorem dX9_bill_40 : decode cX9_bill 40 = .ok (.iload 7, 2) := by decide +kernel
theorem dX9_bill_42 : decode cX9_bill 42 = .ok (.iaload, 1) := by decide +kernel
theorem dX9_bill_43 : decode cX9_bill 43 = .ok (.ifCond .le 7, 3) := by decide +kernel
theorem dX9_bill_46 : decode cX9_bill 46 = .ok (.ldc2_w 208, 3) := by decide +kernel
theorem dX9_bill_49 : decode cX9_bill 49 = .ok (.lreturn, 1) := by decide +kernel
theorem dX9_bill_50 : decode cX9_bill 50 = .ok (.lload 5, 2) := by decide +kernel
theorem dX9_bill_52 : decode cX9_bill 52 = .ok (.aload_n 0, 1) := by decide +kernel
theorem dX9_bill_53 : decode cX9_bill 53 = .ok (.getfield 90, 3) := by decide +kernel
theorem dX9_bill_56 : decode cX9_bill 56 = .ok (.iload 7, 2) := by decide +kernel
theorem dX9_bill_58 : decode cX9_bill 58 = .ok (.laload, 1) := by decide +kernel
theorem dX9_bill_59 : decode cX9_bill 59 = .ok (.ladd, 1) := by decide +kernel
theorem dX9_bill_60 : decode cX9_bill 60 = .ok (.lstore 5, 2) := by decide +kernel
theorem dX9_bill_62 : decode cX9_bill 62 = .ok (.iinc 7 1, 3) := by decide +kernel
theorem dX9_bill_65 : decode cX9_bill 65 = .ok (.goto (-38), 3) := by decide +kernel
theorem dX9_bill_68 : decode cX9_bill 68 = .ok (.aload_n 0, 1) := by decide +kernel
theorem dX9_bill_69 : decode cX9_bill 69 = .ok (.getfield 68, 3) := by decide +kernel
theorem dX9_bill_72 : decode cX9_bill 72 = .ok (.iload_n 2, 1) := by decide +kernel
theorem dX9_bill_73 : decode cX9_bill 73 = .ok (.laload, 1) := by decide +kernel
theorem dX9_bill_74 : decode cX9_bill 74 = .ok (.lconst 0, 1) := by decide +kernel
theorem dX9_bill_75 : decode cX9_bill 75 = .ok (.lcmp, 1) := by decide +kernel
theorem dX9_bill_76 : decode cX9_bill 76 = .ok (.ifCond .lt 24, 3) := by decide +kernel
theorem dX9_bill_79 : decode cX9_bill 79 = .ok (.lload 5, 2) := by decide +kernel
theorem dX9_bill_81 : decode cX9_bill 81 = .ok (.aload_n 0, 1) := by decide +kernel
theorem dX9_bill_82 : decode cX9_bill 82 = .ok (.getfield 68, 3) := by decide +kernel
theorem dX9_bill_85 : decode cX9_bill 85 = .ok (.iload_n 2, 1) := by decide +kernel
theorem dX9_bill_86 : decode cX9_bill 86 = .ok (.laload, 1) := by decide +kernel
theorem dX9_bill_87 : decode cX9_bill 87 = .ok (.lcmp, 1) := by decide +kernel
theorem dX9_bill_88 : decode cX9_bill 88 = .ok (.ifCond .le 12, 3) := by decide +kernel
theorem dX9_bill_91 : decode cX9_bill 91 = .ok (.aload_n 0, 1) := by decide +kernel
theorem dX9_bill_92 : decode cX9_bill 92 = .ok (.getfield 68, 3) := by decide +kernel
theorem dX9_bill_95 : decode cX9_bill 95 = .ok (.iload_n 2, 1) := by decide +kernel
theorem dX9_bill_96 : decode cX9_bill 96 = .ok (.laload, 1) := by decide +kernel
theorem dX9_bill_97 : decode cX9_bill 97 = .ok (.goto 5, 3) := by decide +kernel
theorem dX9_bill_100 : decode cX9_bill 100 = .ok (.lload 5, 2) := by decide +kernel
theorem dX9_bill_102 : decode cX9_bill 102 = .ok (.lreturn, 1) := by decide +kernel
theorem dX9_put_0 : decode cX9_put 0 = .ok (.aload_n 0, 1) := by decide +kernel
theorem dX9_put_1 : decode cX9_put 1 = .ok (.getfield 111, 3) := by decide +kernel
theorem dX9_put_4 : decode cX9_put 4 = .ok (.aload_n 0, 1) := by decide +kernel
theorem dX9_put_5 : decode cX9_put 5 = .ok (.getfield 214, 3) := by decide +kernel
theorem dX9_put_8 : decode cX9_put 8 = .ok (.iload_n 1, 1) := by decide +kernel
theorem dX9_put_9 : decode cX9_put 9 = .ok (.i2b, 1) := by decide +kernel
theorem dX9_put_10 : decode cX9_put 10 = .ok (.bastore, 1) := by decide +kernel
theorem dX9_put_11 : decode cX9_put 11 = .ok (.aload_n 0, 1) := by decide +kernel
theorem dX9_put_12 : decode cX9_put 12 = .ok (.dup, 1) := by decide +kernel
theorem dX9_put_13 : decode cX9_put 13 = .ok (.getfield 214, 3) := by decide +kernel
theorem dX9_put_16 : decode cX9_put 16 = .ok (.iconst 1, 1) := by decide +kernel
theorem dX9_put_17 : decode cX9_put 17 = .ok (.iadd, 1) := by decide +kernel
theorem dX9_put_18 : decode cX9_put 18 = .ok (.putfield 214, 3) := by decide +kernel
theorem dX9_put_21 : decode cX9_put 21 = .ok (.return_, 1) := by decide +kernel
set_option maxRecDepth 20000 in
theorem ggX9_putNumber_X9_put : GoodIn wsX9_putNumber wsX9_put := goodIn_r _ [6, 7, 8, 9, 10, 11, 12, 13, 14, 15, 16, 17, 18, 19, 20, 21, 22, 23, 24, 25, 26, 27, 28, 29, 30, 31, 32, 33, 34, 35, 36, 37, 38, 39, 40, 41, 42, 43, 44, 45, 46, 47, 48, 49, 50, 51] (by decide +kernel) (by decide +kernel)
set_option maxRecDepth 20000 in
theorem gX9_putNumber_X9_put : GoodIn wsX9_putNumber (wsV RX9 219 RX9 yX9_put wsX9_put) := goodIn_app (goodIn_of _ (by decide +kernel)) ggX9_putNumber_X9_put
theorem dX9_putNumber_0 : decode cX9_putNumber 0 = .ok (.lconst 1, 1) := by decide +kernel
theorem dX9_putNumber_1 : decode cX9_putNumber 1 = .ok (.lstore_n 3, 1) := by decide +kernel
theorem dX9_putNumber_2 : decode cX9_putNumber 2 = .ok (.lload_n 3, 1) := by decide +kernel
theorem dX9_putNumber_3 : decode cX9_putNumber 3 = .ok (.lload_n 1, 1) := by decide +kernel
theorem dX9_putNumber_4 : decode cX9_putNumber 4 = .ok (.ldc2_w 217, 3) := by decide +kernel
theorem dX9_putNumber_7 : decode cX9_putNumber 7 = .ok (.ldiv, 1) := by decide +kernel
theorem dX9_putNumber_8 : decode cX9_putNumber 8 = .ok (.lcmp, 1) := by decide +kernel
theorem dX9_putNumber_9 : decode cX9_putNumber 9 = .ok (.ifCond .gt 12, 3) := by decide +kernel
theorem dX9_putNumber_12 : decode cX9_putNumber 12 = .ok (.lload_n 3, 1) := by decide +kernel
theorem dX9_putNumber_13 : decode cX9_putNumber 13 = .ok (.ldc2_w 217, 3) := by decide +kernel
theorem dX9_putNumber_16 : decode cX9_putNumber 16 = .ok (.lmul, 1) := by decide +kernel
theorem dX9_putNumber_17 : decode cX9_putNumber 17 = .ok (.lstore_n 3, 1) := by decide +kernel
theorem dX9_putNumber_18 : decode cX9_putNumber 18 = .ok (.goto (-16), 3) := by decide +kernel
theorem dX9_putNumber_21 : decode cX9_putNumber 21 = .ok (.lload_n 3, 1) := by decide +kernel
theorem dX9_putNumber_22 : decode cX9_putNumber 22 = .ok (.lstore 5, 2) := by decide +kernel
theorem dX9_putNumber_24 : decode cX9_putNumber 24 = .ok (.lload 5, 2) := by decide +kernel
theorem dX9_putNumber_26 : decode cX9_putNumber 26 = .ok (.lconst 0, 1) := by decide +kernel
theorem dX9_putNumber_27 : decode cX9_putNumber 27 = .ok (.lcmp, 1) := by decide +kernel
theorem dX9_putNumber_28 : decode cX9_putNumber 28 = .ok (.ifCond .le 30, 3) := by decide +kernel
theorem dX9_putNumber_31 : decode cX9_putNumber 31 = .ok (.aload_n 0, 1) := by decide +kernel
theorem dX9_putNumber_32 : decode cX9_putNumber 32 = .ok (.lload_n 1, 1) := by decide +kernel
theorem dX9_putNumber_33 : decode cX9_putNumber 33 = .ok (.lload 5, 2) := by decide +kernel
theorem dX9_putNumber_35 : decode cX9_putNumber 35 = .ok (.ldiv, 1) := by decide +kernel
theorem dX9_putNumber_36 : decode cX9_putNumber 36 = .ok (.ldc2_w 217, 3) := by decide +kernel
theorem dX9_putNumber_39 : decode cX9_putNumber 39 = .ok (.lrem, 1) := by decide +kernel
theorem dX9_putNumber_40 : decode cX9_putNumber 40 = .ok (.l2i, 1) := by decide +kernel
theorem dX9_putNumber_41 : decode cX9_putNumber 41 = .ok (.bipush 48, 2) := by decide +kernel
theorem dX9_putNumber_43 : decode cX9_putNumber 43 = .ok (.iadd, 1) := by decide +kernel
theorem dX9_putNumber_44 : decode cX9_putNumber 44 = .ok (.invokevirtual 219, 3) := by decide +kernel
theorem dX9_putNumber_47 : decode cX9_putNumber 47 = .ok (.lload 5, 2) := by decide +kernel
theorem dX9_putNumber_49 : decode cX9_putNumber 49 = .ok (.ldc2_w 217, 3) := by decide +kernel
theorem dX9_putNumber_52 : decode cX9_putNumber 52 = .ok (.ldiv, 1) := by decide +kernel
theorem dX9_putNumber_53 : decode cX9_putNumber 53 = .ok (.lstore 5, 2) := by decide +kernel
theorem dX9_putNumber_55 : decode cX9_putNumber 55 = .ok (.goto (-31), 3) := by decide +kernel
theorem dX9_putNumber_58 : decode cX9_putNumber 58 = .ok (.return_, 1) := by decide +kernel
set_option maxRecDepth 20000 in
theorem ggX9_walk_X9_isAsked : GoodIn wsX9_walk wsX9_isAsked := goodIn_r _ [18, 19, 20, 21, 17, 22, 23, 24, 25, 26, 27, 28, 29, 30, 77, 78, 79, 80, 81, 82, 83, 84, 85, 86, 87, 88, 89, 90, 91, 92, 93, 94, 95, 96, 97, 98, 99, 100, 101, 102, 103, 104, 105, 106, 107, 108, 109, 110, 111, 112, 113, 114, 115, 116, 117, 118, 119] (by decide +kernel) (by decide +kernel)
set_option maxRecDepth 20000 in
theorem gX9_walk_X9_isAsked : GoodIn wsX9_walk (wsV RX9 204 RX9 yX9_isAsked wsX9_isAsked) := goodIn_app (goodIn_of _ (by decide +kernel)) ggX9_walk_X9_isAsked
set_option maxRecDepth 20000 in
theorem ggX9_walk_X9_findLines : GoodIn wsX9_walk wsX9_findLines := goodIn_r _ [34, 1, 35, 36, 37, 38, 12, 39, 40, 4, 9, 11, 7, 41, 13, 42, 43, 44, 17, 45, 46, 47, 48, 49, 50, 51, 52, 53, 54, 55, 56, 57, 58, 59, 60, 61, 62, 63, 64, 65, 66, 77, 78, 79, 80, 81, 82, 83, 84, 85, 86, 87, 88, 89, 90, 91, 92, 93, 94, 95, 96, 97, 98, 99, 100, 101, 102, 103, 104, 105, 106, 107, 108, 109, 110, 111, 112, 113, 114, 115, 116, 117, 118, 119] (by decide +kernel) (by decide +kernel)
set_option maxRecDepth 20000 in
theorem gX9_walk_X9_findLines : GoodIn wsX9_walk (wsV RX9 210 RX9 yX9_findLines wsX9_findLines) := goodIn_app (goodIn_of _ (by decide +kernel)) ggX9_walk_X9_findLines
set_option maxRecDepth 20000 in
theorem ggX9_walk_X9_putNumber : GoodIn wsX9_walk wsX9_putNumber := goodIn_r _ [70, 71, 72, 73, 74, 17, 75, 76, 3, 77, 78, 79, 80, 81, 82, 83, 84, 85, 86, 87, 88, 89, 90, 91, 92, 93, 94, 95, 96, 97, 98, 99, 100, 101, 102, 103, 104, 105, 106, 107, 108, 109, 110, 111, 112, 113, 114, 115, 116, 117, 118, 119] (by decide +kernel) (by decide +kernel)
set_option maxRecDepth 20000 in
theorem gX9_walk_X9_putNumber : GoodIn wsX9_walk (wsV RX9 226 RX9 yX9_putNumber wsX9_putNumber) := goodIn_app (goodIn_of _ (by decide +kernel)) ggX9_walk_X9_putNumber
set_option maxRecDepth 20000 in
theorem ggX9_walk_X9_put : GoodIn wsX9_walk wsX9_put := goodIn_r _ [75, 76, 3, 77, 78, 79, 80, 81, 82, 83, 84, 85, 86, 87, 88, 89, 90, 91, 92, 93, 94, 95, 96, 97, 98, 99, 100, 101, 102, 103, 104, 105, 106, 107, 108, 109, 110, 111, 112, 113, 114, 115, 116, 117, 118, 119] (by decide +kernel) (by decide +kernel)
set_option maxRecDepth 20000 in
theorem gX9_walk_X9_put : GoodIn wsX9_walk (wsV RX9 219 RX9 yX9_put wsX9_put) := goodIn_app (goodIn_of _ (by decide +kernel)) ggX9_walk_X9_put
theorem dX9_walk_0 : decode cX9_walk 0 = .ok (.aload_n 0, 1) := by decide +kernel
theorem dX9_walk_1 : decode cX9_walk 1 = .ok (.iload_n 1, 1) := by decide +kernel
theorem dX9_walk_2 : decode cX9_walk 2 = .ok (.iload_n 2, 1) := by decide +kernel
theorem dX9_walk_3 : decode cX9_walk 3 = .ok (.lload_n 3, 1) := by decide +kernel
theorem dX9_walk_4 : decode cX9_walk 4 = .ok (.invokevirtual 204, 3) := by decide +kernel
theorem dX9_walk_7 : decode cX9_walk 7 = .ok (.ifCond .ne 5, 3) := by decide +kernel
theorem dX9_walk_10 : decode cX9_walk 10 = .ok (.iconst (-1), 1) := by decide +kernel
theorem dX9_walk_11 : decode cX9_walk 11 = .ok (.ireturn, 1) := by decide +kernel
theorem dX9_walk_12 : decode cX9_walk 12 = .ok (.aload_n 0, 1) := by decide +kernel
theorem dX9_walk_13 : decode cX9_walk 13 = .ok (.iload_n 1, 1) := by decide +kernel
theorem dX9_walk_14 : decode cX9_walk 14 = .ok (.iload_n 2, 1) := by decide +kernel
theorem dX9_walk_15 : decode cX9_walk 15 = .ok (.lload_n 3, 1) := by decide +kernel
theorem dX9_walk_16 : decode cX9_walk 16 = .ok (.invokevirtual 210, 3) := by decide +kernel
theorem dX9_walk_19 : decode cX9_walk 19 = .ok (.aload_n 0, 1) := by decide +kernel
theorem dX9_walk_20 : decode cX9_walk 20 = .ok (.aload_n 0, 1) := by decide +kernel
theorem dX9_walk_21 : decode cX9_walk 21 = .ok (.getfield 190, 3) := by decide +kernel
theorem dX9_walk_24 : decode cX9_walk 24 = .ok (.putfield 223, 3) := by decide +kernel
theorem dX9_walk_27 : decode cX9_walk 27 = .ok (.aload_n 0, 1) := by decide +kernel
theorem dX9_walk_28 : decode cX9_walk 28 = .ok (.iconst 0, 1) := by decide +kernel
theorem dX9_walk_29 : decode cX9_walk 29 = .ok (.putfield 214, 3) := by decide +kernel
theorem dX9_walk_32 : decode cX9_walk 32 = .ok (.iconst 0, 1) := by decide +kernel
theorem dX9_walk_33 : decode cX9_walk 33 = .ok (.istore 5, 2) := by decide +kernel
theorem dX9_walk_35 : decode cX9_walk 35 = .ok (.iload 5, 2) := by decide +kernel
theorem dX9_walk_37 : decode cX9_walk 37 = .ok (.aload_n 0, 1) := by decide +kernel
theorem dX9_walk_38 : decode cX9_walk 38 = .ok (.getfield 190, 3) := by decide +kernel
theorem dX9_walk_41 : decode cX9_walk 41 = .ok (.if_icmp .ge 141, 3) := by decide +kernel
theorem dX9_walk_44 : decode cX9_walk 44 = .ok (.aload_n 0, 1) := by decide +kernel
theorem dX9_walk_45 : decode cX9_walk 45 = .ok (.getfield 87, 3) := by decide +kernel
theorem dX9_walk_48 : decode cX9_walk 48 = .ok (.iload 5, 2) := by decide +kernel
theorem dX9_walk_50 : decode cX9_walk 50 = .ok (.iaload, 1) := by decide +kernel
theorem dX9_walk_51 : decode cX9_walk 51 = .ok (.istore 6, 2) := by decide +kernel
theorem dX9_walk_53 : decode cX9_walk 53 = .ok (.aload_n 0, 1) := by decide +kernel
theorem dX9_walk_54 : decode cX9_walk 54 = .ok (.getfield 99, 3) := by decide +kernel
theorem dX9_walk_57 : decode cX9_walk 57 = .ok (.iload 5, 2) := by decide +kernel
theorem dX9_walk_59 : decode cX9_walk 59 = .ok (.iload 6, 2) := by decide +kernel
theorem dX9_walk_61 : decode cX9_walk 61 = .ok (.iastore, 1) := by decide +kernel
theorem dX9_walk_62 : decode cX9_walk 62 = .ok (.aload_n 0, 1) := by decide +kernel
theorem dX9_walk_63 : decode cX9_walk 63 = .ok (.getfield 102, 3) := by decide +kernel
theorem dX9_walk_66 : decode cX9_walk 66 = .ok (.iload 5, 2) := by decide +kernel
theorem dX9_walk_68 : decode cX9_walk 68 = .ok (.aload_n 0, 1) := by decide +kernel
theorem dX9_walk_69 : decode cX9_walk 69 = .ok (.getfield 90, 3) := by decide +kernel
theorem dX9_walk_72 : decode cX9_walk 72 = .ok (.iload 5, 2) := by decide +kernel
theorem dX9_walk_74 : decode cX9_walk 74 = .ok (.laload, 1) := by decide +kernel
theorem dX9_walk_75 : decode cX9_walk 75 = .ok (.lastore, 1) := by decide +kernel
theorem dX9_walk_76 : decode cX9_walk 76 = .ok (.aload_n 0, 1) := by decide +kernel
theorem dX9_walk_77 : decode cX9_walk 77 = .ok (.getfield 105, 3) := by decide +kernel
theorem dX9_walk_80 : decode cX9_walk 80 = .ok (.iload 5, 2) := by decide +kernel
theorem dX9_walk_82 : decode cX9_walk 82 = .ok (.aload_n 0, 1) := by decide +kernel
theorem dX9_walk_83 : decode cX9_walk 83 = .ok (.getfield 93, 3) := by decide +kernel
theorem dX9_walk_86 : decode cX9_walk 86 = .ok (.iload 5, 2) := by decide +kernel
theorem dX9_walk_88 : decode cX9_walk 88 = .ok (.iaload, 1) := by decide +kernel
theorem dX9_walk_89 : decode cX9_walk 89 = .ok (.iastore, 1) := by decide +kernel
theorem dX9_walk_90 : decode cX9_walk 90 = .ok (.aload_n 0, 1) := by decide +kernel
theorem dX9_walk_91 : decode cX9_walk 91 = .ok (.getfield 108, 3) := by decide +kernel
theorem dX9_walk_94 : decode cX9_walk 94 = .ok (.iload 5, 2) := by decide +kernel
theorem dX9_walk_96 : decode cX9_walk 96 = .ok (.aload_n 0, 1) := by decide +kernel
theorem dX9_walk_97 : decode cX9_walk 97 = .ok (.getfield 96, 3) := by decide +kernel
theorem dX9_walk_100 : decode cX9_walk 100 = .ok (.iload 5, 2) := by decide +kernel
theorem dX9_walk_102 : decode cX9_walk 102 = .ok (.iaload, 1) := by decide +kernel
theorem dX9_walk_103 : decode cX9_walk 103 = .ok (.iastore, 1) := by decide +kernel
theorem dX9_walk_104 : decode cX9_walk 104 = .ok (.aload_n 0, 1) := by decide +kernel
theorem dX9_walk_105 : decode cX9_walk 105 = .ok (.aload_n 0, 1) := by decide +kernel
theorem dX9_walk_106 : decode cX9_walk 106 = .ok (.getfield 19, 3) := by decide +kernel
theorem dX9_walk_109 : decode cX9_walk 109 = .ok (.iload 6, 2) := by decide +kernel
theorem dX9_walk_111 : decode cX9_walk 111 = .ok (.iaload, 1) := by decide +kernel
theorem dX9_walk_112 : decode cX9_walk 112 = .ok (.i2l, 1) := by decide +kernel
theorem dX9_walk_113 : decode cX9_walk 113 = .ok (.invokevirtual 226, 3) := by decide +kernel
theorem dX9_walk_116 : decode cX9_walk 116 = .ok (.aload_n 0, 1) := by decide +kernel
theorem dX9_walk_117 : decode cX9_walk 117 = .ok (.bipush 32, 2) := by decide +kernel
theorem dX9_walk_119 : decode cX9_walk 119 = .ok (.invokevirtual 219, 3) := by decide +kernel
theorem dX9_walk_122 : decode cX9_walk 122 = .ok (.aload_n 0, 1) := by decide +kernel
theorem dX9_walk_123 : decode cX9_walk 123 = .ok (.aload_n 0, 1) := by decide +kernel
theorem dX9_walk_124 : decode cX9_walk 124 = .ok (.getfield 25, 3) := by decide +kernel
theorem dX9_walk_127 : decode cX9_walk 127 = .ok (.iload 6, 2) := by decide +kernel
theorem dX9_walk_129 : decode cX9_walk 129 = .ok (.iaload, 1) := by decide +kernel
theorem dX9_walk_130 : decode cX9_walk 130 = .ok (.i2l, 1) := by decide +kernel
theorem dX9_walk_131 : decode cX9_walk 131 = .ok (.invokevirtual 226, 3) := by decide +kernel
theorem dX9_walk_134 : decode cX9_walk 134 = .ok (.aload_n 0, 1) := by decide +kernel
theorem dX9_walk_135 : decode cX9_walk 135 = .ok (.bipush 32, 2) := by decide +kernel
theorem dX9_walk_137 : decode cX9_walk 137 = .ok (.invokevirtual 219, 3) := by decide +kernel
theorem dX9_walk_140 : decode cX9_walk 140 = .ok (.aload_n 0, 1) := by decide +kernel
theorem dX9_walk_141 : decode cX9_walk 141 = .ok (.getfield 96, 3) := by decide +kernel
theorem dX9_walk_144 : decode cX9_walk 144 = .ok (.iload 5, 2) := by decide +kernel
theorem dX9_walk_146 : decode cX9_walk 146 = .ok (.iaload, 1) := by decide +kernel
theorem dX9_walk_147 : decode cX9_walk 147 = .ok (.ifCond .le 12, 3) := by decide +kernel
theorem dX9_walk_150 : decode cX9_walk 150 = .ok (.aload_n 0, 1) := by decide +kernel
theorem dX9_walk_151 : decode cX9_walk 151 = .ok (.bipush 63, 2) := by decide +kernel
theorem dX9_walk_153 : decode cX9_walk 153 = .ok (.invokevirtual 219, 3) := by decide +kernel
theorem dX9_walk_156 : decode cX9_walk 156 = .ok (.goto 14, 3) := by decide +kernel
theorem dX9_walk_159 : decode cX9_walk 159 = .ok (.aload_n 0, 1) := by decide +kernel
theorem dX9_walk_160 : decode cX9_walk 160 = .ok (.aload_n 0, 1) := by decide +kernel
theorem dX9_walk_161 : decode cX9_walk 161 = .ok (.getfield 90, 3) := by decide +kernel
theorem dX9_walk_164 : decode cX9_walk 164 = .ok (.iload 5, 2) := by decide +kernel
theorem dX9_walk_166 : decode cX9_walk 166 = .ok (.laload, 1) := by decide +kernel
theorem dX9_walk_167 : decode cX9_walk 167 = .ok (.invokevirtual 226, 3) := by decide +kernel
theorem dX9_walk_170 : decode cX9_walk 170 = .ok (.aload_n 0, 1) := by decide +kernel
theorem dX9_walk_171 : decode cX9_walk 171 = .ok (.bipush 10, 2) := by decide +kernel
theorem dX9_walk_173 : decode cX9_walk 173 = .ok (.invokevirtual 219, 3) := by decide +kernel
theorem dX9_walk_176 : decode cX9_walk 176 = .ok (.iinc 5 1, 3) := by decide +kernel
theorem dX9_walk_179 : decode cX9_walk 179 = .ok (.goto (-144), 3) := by decide +kernel
theorem dX9_walk_182 : decode cX9_walk 182 = .ok (.aload_n 0, 1) := by decide +kernel
theorem dX9_walk_183 : decode cX9_walk 183 = .ok (.getfield 223, 3) := by decide +kernel
theorem dX9_walk_186 : decode cX9_walk 186 = .ok (.ireturn, 1) := by decide +kernel
theorem dX9_line_0 : decode cX9_line 0 = .ok (.iload_n 1, 1) := by decide +kernel
theorem dX9_line_1 : decode cX9_line 1 = .ok (.ifCond .lt 20, 3) := by decide +kernel
theorem dX9_line_4 : decode cX9_line 4 = .ok (.iload_n 1, 1) := by decide +kernel
theorem dX9_line_5 : decode cX9_line 5 = .ok (.aload_n 0, 1) := by decide +kernel
theorem dX9_line_6 : decode cX9_line 6 = .ok (.getfield 223, 3) := by decide +kernel
theorem dX9_line_9 : decode cX9_line 9 = .ok (.if_icmp .ge 12, 3) := by decide +kernel
theorem dX9_line_12 : decode cX9_line 12 = .ok (.iload_n 2, 1) := by decide +kernel
theorem dX9_line_13 : decode cX9_line 13 = .ok (.ifCond .lt 8, 3) := by decide +kernel
theorem dX9_line_16 : decode cX9_line 16 = .ok (.iload_n 2, 1) := by decide +kernel
theorem dX9_line_17 : decode cX9_line 17 = .ok (.iconst 3, 1) := by decide +kernel
theorem dX9_line_18 : decode cX9_line 18 = .ok (.if_icmp .le 7, 3) := by decide +kernel
theorem dX9_line_21 : decode cX9_line 21 = .ok (.ldc2_w 115, 3) := by decide +kernel
theorem dX9_line_24 : decode cX9_line 24 = .ok (.lreturn, 1) := by decide +kernel
theorem dX9_line_25 : decode cX9_line 25 = .ok (.iload_n 2, 1) := by decide +kernel
theorem dX9_line_26 : decode cX9_line 26 = .ok (.ifCond .ne 13, 3) := by decide +kernel
theorem dX9_line_29 : decode cX9_line 29 = .ok (.aload_n 0, 1) := by decide +kernel
theorem dX9_line_30 : decode cX9_line 30 = .ok (.getfield 99, 3) := by decide +kernel
theorem dX9_line_33 : decode cX9_line 33 = .ok (.iload_n 1, 1) := by decide +kernel
theorem dX9_line_34 : decode cX9_line 34 = .ok (.iaload, 1) := by decide +kernel
theorem dX9_line_35 : decode cX9_line 35 = .ok (.i2l, 1) := by decide +kernel
theorem dX9_line_36 : decode cX9_line 36 = .ok (.goto 39, 3) := by decide +kernel
theorem dX9_line_39 : decode cX9_line 39 = .ok (.iload_n 2, 1) := by decide +kernel
theorem dX9_line_40 : decode cX9_line 40 = .ok (.iconst 1, 1) := by decide +kernel
theorem dX9_line_41 : decode cX9_line 41 = .ok (.if_icmp .ne 12, 3) := by decide +kernel
theorem dX9_line_44 : decode cX9_line 44 = .ok (.aload_n 0, 1) := by decide +kernel
theorem dX9_line_45 : decode cX9_line 45 = .ok (.getfield 102, 3) := by decide +kernel
theorem dX9_line_48 : decode cX9_line 48 = .ok (.iload_n 1, 1) := by decide +kernel
theorem dX9_line_49 : decode cX9_line 49 = .ok (.laload, 1) := by decide +kernel
theorem dX9_line_50 : decode cX9_line 50 = .ok (.goto 25, 3) := by decide +kernel
theorem dX9_line_53 : decode cX9_line 53 = .ok (.iload_n 2, 1) := by decide +kernel
theorem dX9_line_54 : decode cX9_line 54 = .ok (.iconst 2, 1) := by decide +kernel
theorem dX9_line_55 : decode cX9_line 55 = .ok (.if_icmp .ne 13, 3) := by decide +kernel
theorem dX9_line_58 : decode cX9_line 58 = .ok (.aload_n 0, 1) := by decide +kernel
theorem dX9_line_59 : decode cX9_line 59 = .ok (.getfield 105, 3) := by decide +kernel
theorem dX9_line_62 : decode cX9_line 62 = .ok (.iload_n 1, 1) := by decide +kernel
theorem dX9_line_63 : decode cX9_line 63 = .ok (.iaload, 1) := by decide +kernel
theorem dX9_line_64 : decode cX9_line 64 = .ok (.i2l, 1) := by decide +kernel
theorem dX9_line_65 : decode cX9_line 65 = .ok (.goto 10, 3) := by decide +kernel
theorem dX9_line_68 : decode cX9_line 68 = .ok (.aload_n 0, 1) := by decide +kernel
theorem dX9_line_69 : decode cX9_line 69 = .ok (.getfield 108, 3) := by decide +kernel
theorem dX9_line_72 : decode cX9_line 72 = .ok (.iload_n 1, 1) := by decide +kernel
theorem dX9_line_73 : decode cX9_line 73 = .ok (.iaload, 1) := by decide +kernel
theorem dX9_line_74 : decode cX9_line 74 = .ok (.i2l, 1) := by decide +kernel
theorem dX9_line_75 : decode cX9_line 75 = .ok (.lreturn, 1) := by decide +kernel
theorem dX9_open_0 : decode cX9_open 0 = .ok (.iload_n 1, 1) := by decide +kernel
theorem dX9_open_1 : decode cX9_open 1 = .ok (.istore_n 2, 1) := by decide +kernel
theorem dX9_open_2 : decode cX9_open 2 = .ok (.iconst 0, 1) := by decide +kernel
theorem dX9_open_3 : decode cX9_open 3 = .ok (.istore_n 3, 1) := by decide +kernel
theorem dX9_open_4 : decode cX9_open 4 = .ok (.iload_n 3, 1) := by decide +kernel
theorem dX9_open_5 : decode cX9_open 5 = .ok (.aload_n 0, 1) := by decide +kernel
theorem dX9_open_6 : decode cX9_open 6 = .ok (.getfield 223, 3) := by decide +kernel
theorem dX9_open_9 : decode cX9_open 9 = .ok (.if_icmp .ge 39, 3) := by decide +kernel
theorem dX9_open_12 : decode cX9_open 12 = .ok (.iload_n 1, 1) := by decide +kernel
theorem dX9_open_13 : decode cX9_open 13 = .ok (.ifCond .lt 35, 3) := by decide +kernel
theorem dX9_open_16 : decode cX9_open 16 = .ok (.aload_n 0, 1) := by decide +kernel
theorem dX9_open_17 : decode cX9_open 17 = .ok (.getfield 108, 3) := by decide +kernel
theorem dX9_open_20 : decode cX9_open 20 = .ok (.iload_n 3, 1) := by decide +kernel
theorem dX9_open_21 : decode cX9_open 21 = .ok (.iaload, 1) := by decide +kernel
theorem dX9_open_22 : decode cX9_open 22 = .ok (.ifCond .ne 6, 3) := by decide +kernel
theorem dX9_open_25 : decode cX9_open 25 = .ok (.goto 17, 3) := by decide +kernel
theorem dX9_open_28 : decode cX9_open 28 = .ok (.iload_n 2, 1) := by decide +kernel
theorem dX9_open_29 : decode cX9_open 29 = .ok (.ifCond .ne 10, 3) := by decide +kernel
theorem dX9_open_32 : decode cX9_open 32 = .ok (.aload_n 0, 1) := by decide +kernel
theorem dX9_open_33 : decode cX9_open 33 = .ok (.getfield 99, 3) := by decide +kernel
theorem dX9_open_36 : decode cX9_open 36 = .ok (.iload_n 3, 1) := by decide +kernel
theorem dX9_open_37 : decode cX9_open 37 = .ok (.iaload, 1) := by decide +kernel
theorem dX9_open_38 : decode cX9_open 38 = .ok (.ireturn, 1) := by decide +kernel
theorem dX9_open_39 : decode cX9_open 39 = .ok (.iinc 2 (-1), 3) := by decide +kernel
theorem dX9_open_42 : decode cX9_open 42 = .ok (.iinc 3 1, 3) := by decide +kernel
theorem dX9_open_45 : decode cX9_open 45 = .ok (.goto (-41), 3) := by decide +kernel
theorem dX9_open_48 : decode cX9_open 48 = .ok (.iconst (-1), 1) := by decide +kernel
theorem dX9_open_49 : decode cX9_open 49 = .ok (.ireturn, 1) := by decide +kernel
theorem dX9_write_0 : decode cX9_write 0 = .ok (.iload_n 1, 1) := by decide +kernel
theorem dX9_write_1 : decode cX9_write 1 = .ok (.ifCond .lt 11, 3) := by decide +kernel
theorem dX9_write_4 : decode cX9_write 4 = .ok (.iload_n 1, 1) := by decide +kernel
theorem dX9_write_5 : decode cX9_write 5 = .ok (.aload_n 0, 1) := by decide +kernel
theorem dX9_write_6 : decode cX9_write 6 = .ok (.getfield 214, 3) := by decide +kernel
theorem dX9_write_9 : decode cX9_write 9 = .ok (.if_icmp .lt 7, 3) := by decide +kernel
theorem dX9_write_12 : decode cX9_write 12 = .ok (.iconst (-1), 1) := by decide +kernel
theorem dX9_write_13 : decode cX9_write 13 = .ok (.goto 9, 3) := by decide +kernel
theorem dX9_write_16 : decode cX9_write 16 = .ok (.aload_n 0, 1) := by decide +kernel
theorem dX9_write_17 : decode cX9_write 17 = .ok (.getfield 111, 3) := by decide +kernel
theorem dX9_write_20 : decode cX9_write 20 = .ok (.iload_n 1, 1) := by decide +kernel
theorem dX9_write_21 : decode cX9_write 21 = .ok (.baload, 1) := by decide +kernel
theorem dX9_write_22 : decode cX9_write 22 = .ok (.ireturn, 1) := by decide +kernel
set_option maxRecDepth 20000 in
theorem ggX9_flat_X9_isFlat : GoodIn wsX9_flat wsX9_isFlat := goodIn_r _ [8, 2, 9, 10, 11, 7, 12, 13, 73, 74, 75, 76, 77, 78, 79, 80, 81, 82, 83, 84, 85, 86, 87, 88, 89, 90, 91, 92, 93, 94, 95, 96, 97, 98, 99, 100, 101, 102, 103, 104, 105, 106, 107, 108, 109, 110, 111, 112, 113, 114, 115] (by decide +kernel) (by decide +kernel)
set_option maxRecDepth 20000 in
theorem gX9_flat_X9_isFlat : GoodIn wsX9_flat (wsV RX9 186 RX9 yX9_isFlat wsX9_isFlat) := goodIn_app (goodIn_of _ (by decide +kernel)) ggX9_flat_X9_isFlat
set_option maxRecDepth 20000 in
theorem ggX9_flat_X9_bill : GoodIn wsX9_flat wsX9_bill := goodIn_r _ [17, 1, 18, 19, 20, 21, 22, 23, 24, 7, 25, 9, 10, 11, 12, 13, 26, 27, 28, 29, 30, 31, 32, 33, 34, 35, 36, 37, 38, 39, 40, 41, 42, 43, 44, 45, 46, 47, 48, 49, 50, 51, 52, 53, 54, 55, 56, 57, 58, 59, 60, 61, 62, 63, 64, 65, 66, 67, 68, 69, 70, 71, 72, 73, 74, 75, 76, 77, 78, 79, 80, 81, 82, 83, 84, 85, 86, 87, 88, 89, 90, 91, 92, 93, 94, 95, 96, 97, 98, 99, 100, 101, 102, 103, 104, 105, 106, 107, 108, 109, 110, 111, 112, 113, 114, 115] (by decide +kernel) (by decide +kernel)
set_option maxRecDepth 20000 in
theorem gX9_flat_X9_bill : GoodIn wsX9_flat (wsV RX9 230 RX9 yX9_bill wsX9_bill) := goodIn_app (goodIn_of _ (by decide +kernel)) ggX9_flat_X9_bill
theorem dX9_flat_0 : decode cX9_flat 0 = .ok (.aload_n 0, 1) := by decide +kernel
theorem dX9_flat_1 : decode cX9_flat 1 = .ok (.iload_n 1, 1) := by decide +kernel
theorem dX9_flat_2 : decode cX9_flat 2 = .ok (.iload 5, 2) := by decide +kernel
theorem dX9_flat_4 : decode cX9_flat 4 = .ok (.invokevirtual 186, 3) := by decide +kernel
theorem dX9_flat_7 : decode cX9_flat 7 = .ok (.ifCond .ne 7, 3) := by decide +kernel
theorem dX9_flat_10 : decode cX9_flat 10 = .ok (.ldc2_w 208, 3) := by decide +kernel
theorem dX9_flat_13 : decode cX9_flat 13 = .ok (.lreturn, 1) := by decide +kernel
theorem dX9_flat_14 : decode cX9_flat 14 = .ok (.aload_n 0, 1) := by decide +kernel
theorem dX9_flat_15 : decode cX9_flat 15 = .ok (.iload_n 1, 1) := by decide +kernel
theorem dX9_flat_16 : decode cX9_flat 16 = .ok (.iload_n 2, 1) := by decide +kernel
theorem dX9_flat_17 : decode cX9_flat 17 = .ok (.lload_n 3, 1) := by decide +kernel
theorem dX9_flat_18 : decode cX9_flat 18 = .ok (.invokevirtual 230, 3) := by decide +kernel
theorem dX9_flat_21 : decode cX9_flat 21 = .ok (.lstore 6, 2) := by decide +kernel
theorem dX9_flat_23 : decode cX9_flat 23 = .ok (.lconst 0, 1) := by decide +kernel
theorem dX9_flat_24 : decode cX9_flat 24 = .ok (.lstore 8, 2) := by decide +kernel
theorem dX9_flat_26 : decode cX9_flat 26 = .ok (.iconst 0, 1) := by decide +kernel
theorem dX9_flat_27 : decode cX9_flat 27 = .ok (.istore 10, 2) := by decide +kernel
theorem dX9_flat_29 : decode cX9_flat 29 = .ok (.iload 10, 2) := by decide +kernel
theorem dX9_flat_31 : decode cX9_flat 31 = .ok (.aload_n 0, 1) := by decide +kernel
theorem dX9_flat_32 : decode cX9_flat 32 = .ok (.getfield 7, 3) := by decide +kernel
theorem dX9_flat_35 : decode cX9_flat 35 = .ok (.iload_n 1, 1) := by decide +kernel
theorem dX9_flat_36 : decode cX9_flat 36 = .ok (.iaload, 1) := by decide +kernel
theorem dX9_flat_37 : decode cX9_flat 37 = .ok (.if_icmp .ge 27, 3) := by decide +kernel
theorem dX9_flat_40 : decode cX9_flat 40 = .ok (.lload 8, 2) := by decide +kernel
theorem dX9_flat_42 : decode cX9_flat 42 = .ok (.aload_n 0, 1) := by decide +kernel
theorem dX9_flat_43 : decode cX9_flat 43 = .ok (.getfield 13, 3) := by decide +kernel
theorem dX9_flat_46 : decode cX9_flat 46 = .ok (.bipush 6, 2) := by decide +kernel
theorem dX9_flat_48 : decode cX9_flat 48 = .ok (.iload_n 1, 1) := by decide +kernel
theorem dX9_flat_49 : decode cX9_flat 49 = .ok (.imul, 1) := by decide +kernel
theorem dX9_flat_50 : decode cX9_flat 50 = .ok (.iload 10, 2) := by decide +kernel
theorem dX9_flat_52 : decode cX9_flat 52 = .ok (.iadd, 1) := by decide +kernel
theorem dX9_flat_53 : decode cX9_flat 53 = .ok (.iaload, 1) := by decide +kernel
theorem dX9_flat_54 : decode cX9_flat 54 = .ok (.i2l, 1) := by decide +kernel
theorem dX9_flat_55 : decode cX9_flat 55 = .ok (.ladd, 1) := by decide +kernel
theorem dX9_flat_56 : decode cX9_flat 56 = .ok (.lstore 8, 2) := by decide +kernel
theorem dX9_flat_58 : decode cX9_flat 58 = .ok (.iinc 10 1, 3) := by decide +kernel
theorem dX9_flat_61 : decode cX9_flat 61 = .ok (.goto (-32), 3) := by decide +kernel
theorem dX9_flat_64 : decode cX9_flat 64 = .ok (.lload 6, 2) := by decide +kernel
theorem dX9_flat_66 : decode cX9_flat 66 = .ok (.lconst 0, 1) := by decide +kernel
theorem dX9_flat_67 : decode cX9_flat 67 = .ok (.lcmp, 1) := by decide +kernel
theorem dX9_flat_68 : decode cX9_flat 68 = .ok (.ifCond .lt 10, 3) := by decide +kernel
theorem dX9_flat_71 : decode cX9_flat 71 = .ok (.lload 8, 2) := by decide +kernel
theorem dX9_flat_73 : decode cX9_flat 73 = .ok (.lconst 0, 1) := by decide +kernel
theorem dX9_flat_74 : decode cX9_flat 74 = .ok (.lcmp, 1) := by decide +kernel
theorem dX9_flat_75 : decode cX9_flat 75 = .ok (.ifCond .ne 7, 3) := by decide +kernel
theorem dX9_flat_78 : decode cX9_flat 78 = .ok (.ldc2_w 208, 3) := by decide +kernel
theorem dX9_flat_81 : decode cX9_flat 81 = .ok (.lreturn, 1) := by decide +kernel
theorem dX9_flat_82 : decode cX9_flat 82 = .ok (.lload 6, 2) := by decide +kernel
theorem dX9_flat_84 : decode cX9_flat 84 = .ok (.lstore 10, 2) := by decide +kernel
theorem dX9_flat_86 : decode cX9_flat 86 = .ok (.iconst 0, 1) := by decide +kernel
theorem dX9_flat_87 : decode cX9_flat 87 = .ok (.istore 12, 2) := by decide +kernel
theorem dX9_flat_89 : decode cX9_flat 89 = .ok (.iload 12, 2) := by decide +kernel
theorem dX9_flat_91 : decode cX9_flat 91 = .ok (.aload_n 0, 1) := by decide +kernel
theorem dX9_flat_92 : decode cX9_flat 92 = .ok (.getfield 7, 3) := by decide +kernel
theorem dX9_flat_95 : decode cX9_flat 95 = .ok (.iload_n 1, 1) := by decide +kernel
theorem dX9_flat_96 : decode cX9_flat 96 = .ok (.iaload, 1) := by decide +kernel
theorem dX9_flat_97 : decode cX9_flat 97 = .ok (.if_icmp .ge 33, 3) := by decide +kernel
theorem dX9_flat_100 : decode cX9_flat 100 = .ok (.lload 10, 2) := by decide +kernel
theorem dX9_flat_102 : decode cX9_flat 102 = .ok (.lload 6, 2) := by decide +kernel
theorem dX9_flat_104 : decode cX9_flat 104 = .ok (.aload_n 0, 1) := by decide +kernel
theorem dX9_flat_105 : decode cX9_flat 105 = .ok (.getfield 13, 3) := by decide +kernel
theorem dX9_flat_108 : decode cX9_flat 108 = .ok (.bipush 6, 2) := by decide +kernel
theorem dX9_flat_110 : decode cX9_flat 110 = .ok (.iload_n 1, 1) := by decide +kernel
theorem dX9_flat_111 : decode cX9_flat 111 = .ok (.imul, 1) := by decide +kernel
theorem dX9_flat_112 : decode cX9_flat 112 = .ok (.iload 12, 2) := by decide +kernel
theorem dX9_flat_114 : decode cX9_flat 114 = .ok (.iadd, 1) := by decide +kernel
theorem dX9_flat_115 : decode cX9_flat 115 = .ok (.iaload, 1) := by decide +kernel
theorem dX9_flat_116 : decode cX9_flat 116 = .ok (.i2l, 1) := by decide +kernel
theorem dX9_flat_117 : decode cX9_flat 117 = .ok (.lmul, 1) := by decide +kernel
theorem dX9_flat_118 : decode cX9_flat 118 = .ok (.lload 8, 2) := by decide +kernel
theorem dX9_flat_120 : decode cX9_flat 120 = .ok (.ldiv, 1) := by decide +kernel
theorem dX9_flat_121 : decode cX9_flat 121 = .ok (.lsub, 1) := by decide +kernel
theorem dX9_flat_122 : decode cX9_flat 122 = .ok (.lstore 10, 2) := by decide +kernel
theorem dX9_flat_124 : decode cX9_flat 124 = .ok (.iinc 12 1, 3) := by decide +kernel
theorem dX9_flat_127 : decode cX9_flat 127 = .ok (.goto (-38), 3) := by decide +kernel
theorem dX9_flat_130 : decode cX9_flat 130 = .ok (.lload 6, 2) := by decide +kernel
theorem dX9_flat_132 : decode cX9_flat 132 = .ok (.aload_n 0, 1) := by decide +kernel
theorem dX9_flat_133 : decode cX9_flat 133 = .ok (.getfield 13, 3) := by decide +kernel
theorem dX9_flat_136 : decode cX9_flat 136 = .ok (.bipush 6, 2) := by decide +kernel
theorem dX9_flat_138 : decode cX9_flat 138 = .ok (.iload_n 1, 1) := by decide +kernel
theorem dX9_flat_139 : decode cX9_flat 139 = .ok (.imul, 1) := by decide +kernel
theorem dX9_flat_140 : decode cX9_flat 140 = .ok (.iload 5, 2) := by decide +kernel
theorem dX9_flat_142 : decode cX9_flat 142 = .ok (.iadd, 1) := by decide +kernel
theorem dX9_flat_143 : decode cX9_flat 143 = .ok (.iaload, 1) := by decide +kernel
theorem dX9_flat_144 : decode cX9_flat 144 = .ok (.i2l, 1) := by decide +kernel
theorem dX9_flat_145 : decode cX9_flat 145 = .ok (.lmul, 1) := by decide +kernel
theorem dX9_flat_146 : decode cX9_flat 146 = .ok (.lload 8, 2) := by decide +kernel
theorem dX9_flat_148 : decode cX9_flat 148 = .ok (.ldiv, 1) := by decide +kernel
theorem dX9_flat_149 : decode cX9_flat 149 = .ok (.lstore 12, 2) := by decide +kernel
theorem dX9_flat_151 : decode cX9_flat 151 = .ok (.iconst 0, 1) := by decide +kernel
theorem dX9_flat_152 : decode cX9_flat 152 = .ok (.istore 14, 2) := by decide +kernel
theorem dX9_flat_154 : decode cX9_flat 154 = .ok (.iconst 0, 1) := by decide +kernel
theorem dX9_flat_155 : decode cX9_flat 155 = .ok (.istore 15, 2) := by decide +kernel
theorem dX9_flat_157 : decode cX9_flat 157 = .ok (.iload 15, 2) := by decide +kernel
theorem dX9_flat_159 : decode cX9_flat 159 = .ok (.iload 5, 2) := by decide +kernel
theorem dX9_flat_161 : decode cX9_flat 161 = .ok (.if_icmp .ge 35, 3) := by decide +kernel
theorem dX9_flat_164 : decode cX9_flat 164 = .ok (.aload_n 0, 1) := by decide +kernel
theorem dX9_flat_165 : decode cX9_flat 165 = .ok (.getfield 13, 3) := by decide +kernel
theorem dX9_flat_168 : decode cX9_flat 168 = .ok (.bipush 6, 2) := by decide +kernel
theorem dX9_flat_170 : decode cX9_flat 170 = .ok (.iload_n 1, 1) := by decide +kernel
theorem dX9_flat_171 : decode cX9_flat 171 = .ok (.imul, 1) := by decide +kernel
theorem dX9_flat_172 : decode cX9_flat 172 = .ok (.iload 15, 2) := by decide +kernel
theorem dX9_flat_174 : decode cX9_flat 174 = .ok (.iadd, 1) := by decide +kernel
theorem dX9_flat_175 : decode cX9_flat 175 = .ok (.iaload, 1) := by decide +kernel
theorem dX9_flat_176 : decode cX9_flat 176 = .ok (.ifCond .le 10, 3) := by decide +kernel
theorem dX9_flat_179 : decode cX9_flat 179 = .ok (.iload 14, 2) := by decide +kernel
theorem dX9_flat_181 : decode cX9_flat 181 = .ok (.iconst 1, 1) := by decide +kernel
theorem dX9_flat_182 : decode cX9_flat 182 = .ok (.iadd, 1) := by decide +kernel
theorem dX9_flat_183 : decode cX9_flat 183 = .ok (.goto 5, 3) := by decide +kernel
theorem dX9_flat_186 : decode cX9_flat 186 = .ok (.iload 14, 2) := by decide +kernel
theorem dX9_flat_188 : decode cX9_flat 188 = .ok (.istore 14, 2) := by decide +kernel
theorem dX9_flat_190 : decode cX9_flat 190 = .ok (.iinc 15 1, 3) := by decide +kernel
theorem dX9_flat_193 : decode cX9_flat 193 = .ok (.goto (-36), 3) := by decide +kernel
theorem dX9_flat_196 : decode cX9_flat 196 = .ok (.aload_n 0, 1) := by decide +kernel
theorem dX9_flat_197 : decode cX9_flat 197 = .ok (.getfield 13, 3) := by decide +kernel
theorem dX9_flat_200 : decode cX9_flat 200 = .ok (.bipush 6, 2) := by decide +kernel
theorem dX9_flat_202 : decode cX9_flat 202 = .ok (.iload_n 1, 1) := by decide +kernel
theorem dX9_flat_203 : decode cX9_flat 203 = .ok (.imul, 1) := by decide +kernel
theorem dX9_flat_204 : decode cX9_flat 204 = .ok (.iload 5, 2) := by decide +kernel
theorem dX9_flat_206 : decode cX9_flat 206 = .ok (.iadd, 1) := by decide +kernel
theorem dX9_flat_207 : decode cX9_flat 207 = .ok (.iaload, 1) := by decide +kernel
theorem dX9_flat_208 : decode cX9_flat 208 = .ok (.ifCond .le 19, 3) := by decide +kernel
theorem dX9_flat_211 : decode cX9_flat 211 = .ok (.iload 14, 2) := by decide +kernel
theorem dX9_flat_213 : decode cX9_flat 213 = .ok (.i2l, 1) := by decide +kernel
theorem dX9_flat_214 : decode cX9_flat 214 = .ok (.lload 10, 2) := by decide +kernel
theorem dX9_flat_216 : decode cX9_flat 216 = .ok (.lcmp, 1) := by decide +kernel
theorem dX9_flat_217 : decode cX9_flat 217 = .ok (.ifCond .ge 10, 3) := by decide +kernel
theorem dX9_flat_220 : decode cX9_flat 220 = .ok (.lload 12, 2) := by decide +kernel
theorem dX9_flat_222 : decode cX9_flat 222 = .ok (.lconst 1, 1) := by decide +kernel
theorem dX9_flat_223 : decode cX9_flat 223 = .ok (.ladd, 1) := by decide +kernel
theorem dX9_flat_224 : decode cX9_flat 224 = .ok (.goto 5, 3) := by decide +kernel
theorem dX9_flat_227 : decode cX9_flat 227 = .ok (.lload 12, 2) := by decide +kernel
theorem dX9_flat_229 : decode cX9_flat 229 = .ok (.lreturn, 1) := by decide +kernel
set_option maxRecDepth 20000 in
theorem ggX9_issue_X9_bill : GoodIn wsX9_issue wsX9_bill := goodIn_r _ [6, 7, 8, 9, 10, 11, 12, 13, 14, 5, 15, 16, 17, 18, 19, 20, 21, 22, 23, 24, 25, 26, 27, 28, 29, 30, 31, 32, 33, 34, 35, 36, 37, 38, 39, 40, 41, 42, 43, 44, 45, 46, 47, 48, 49, 50, 51, 52, 53, 54, 55, 56, 57, 58, 59, 60, 61, 62, 63, 64, 65, 66, 67, 68, 69, 70, 71, 72, 73, 74, 75, 76, 77, 78, 79, 80, 81, 82, 83, 84, 85, 86, 87, 88, 89, 90, 91, 92, 93, 94, 95, 96, 97, 98, 99, 100, 101, 102, 103, 104, 105, 106, 107, 108, 109, 110] (by decide +kernel) (by decide +kernel)
set_option maxRecDepth 20000 in
theorem gX9_issue_X9_bill : GoodIn wsX9_issue (wsV RX9 230 RX9 yX9_bill wsX9_bill) := goodIn_app (goodIn_of _ (by decide +kernel)) ggX9_issue_X9_bill
theorem dX9_issue_0 : decode cX9_issue 0 = .ok (.aload_n 0, 1) := by decide +kernel
theorem dX9_issue_1 : decode cX9_issue 1 = .ok (.iload_n 1, 1) := by decide +kernel
theorem dX9_issue_2 : decode cX9_issue 2 = .ok (.iload_n 2, 1) := by decide +kernel
theorem dX9_issue_3 : decode cX9_issue 3 = .ok (.lload_n 3, 1) := by decide +kernel
theorem dX9_issue_4 : decode cX9_issue 4 = .ok (.invokevirtual 230, 3) := by decide +kernel
theorem dX9_issue_7 : decode cX9_issue 7 = .ok (.lstore 5, 2) := by decide +kernel
theorem dX9_issue_9 : decode cX9_issue 9 = .ok (.lload 5, 2) := by decide +kernel
theorem dX9_issue_11 : decode cX9_issue 11 = .ok (.lconst 0, 1) := by decide +kernel
theorem dX9_issue_12 : decode cX9_issue 12 = .ok (.lcmp, 1) := by decide +kernel
theorem dX9_issue_13 : decode cX9_issue 13 = .ok (.ifCond .ge 6, 3) := by decide +kernel
theorem dX9_issue_16 : decode cX9_issue 16 = .ok (.lload 5, 2) := by decide +kernel
theorem dX9_issue_18 : decode cX9_issue 18 = .ok (.lreturn, 1) := by decide +kernel
theorem dX9_issue_19 : decode cX9_issue 19 = .ok (.lload 5, 2) := by decide +kernel
theorem dX9_issue_21 : decode cX9_issue 21 = .ok (.aload_n 0, 1) := by decide +kernel
theorem dX9_issue_22 : decode cX9_issue 22 = .ok (.getfield 84, 3) := by decide +kernel
theorem dX9_issue_25 : decode cX9_issue 25 = .ok (.bipush 120, 2) := by decide +kernel
theorem dX9_issue_27 : decode cX9_issue 27 = .ok (.iload_n 1, 1) := by decide +kernel
theorem dX9_issue_28 : decode cX9_issue 28 = .ok (.imul, 1) := by decide +kernel
theorem dX9_issue_29 : decode cX9_issue 29 = .ok (.iload_n 2, 1) := by decide +kernel
theorem dX9_issue_30 : decode cX9_issue 30 = .ok (.iadd, 1) := by decide +kernel
theorem dX9_issue_31 : decode cX9_issue 31 = .ok (.laload, 1) := by decide +kernel
theorem dX9_issue_32 : decode cX9_issue 32 = .ok (.lsub, 1) := by decide +kernel
theorem dX9_issue_33 : decode cX9_issue 33 = .ok (.lstore 7, 2) := by decide +kernel
theorem dX9_issue_35 : decode cX9_issue 35 = .ok (.aload_n 0, 1) := by decide +kernel
theorem dX9_issue_36 : decode cX9_issue 36 = .ok (.getfield 84, 3) := by decide +kernel
theorem dX9_issue_39 : decode cX9_issue 39 = .ok (.bipush 120, 2) := by decide +kernel
theorem dX9_issue_41 : decode cX9_issue 41 = .ok (.iload_n 1, 1) := by decide +kernel
theorem dX9_issue_42 : decode cX9_issue 42 = .ok (.imul, 1) := by decide +kernel
theorem dX9_issue_43 : decode cX9_issue 43 = .ok (.iload_n 2, 1) := by decide +kernel
theorem dX9_issue_44 : decode cX9_issue 44 = .ok (.iadd, 1) := by decide +kernel
theorem dX9_issue_45 : decode cX9_issue 45 = .ok (.lload 5, 2) := by decide +kernel
theorem dX9_issue_47 : decode cX9_issue 47 = .ok (.lastore, 1) := by decide +kernel
theorem dX9_issue_48 : decode cX9_issue 48 = .ok (.lload 7, 2) := by decide +kernel
theorem dX9_issue_50 : decode cX9_issue 50 = .ok (.lreturn, 1) := by decide +kernel
set_option maxRecDepth 20000 in
theorem ggX9_issued_X9_isHouse : GoodIn wsX9_issued wsX9_isHouse := goodIn_r _ [7, 8, 12, 13, 14, 15, 16, 17, 18, 19, 20, 21, 22, 23, 24, 25, 26, 27, 28, 29, 30, 31, 32, 33, 34, 35, 36, 37, 38, 39, 40, 41, 42, 43, 44, 45, 46, 47, 48, 49, 50, 51, 52, 53, 54] (by decide +kernel) (by decide +kernel)
set_option maxRecDepth 20000 in
theorem gX9_issued_X9_isHouse : GoodIn wsX9_issued (wsV RX9 126 RX9 yX9_isHouse wsX9_isHouse) := goodIn_app (goodIn_of _ (by decide +kernel)) ggX9_issued_X9_isHouse
set_option maxRecDepth 20000 in
theorem ggX9_issued_X9_isMonth : GoodIn wsX9_issued wsX9_isMonth := goodIn_r _ [11] (by decide +kernel) (by decide +kernel)
set_option maxRecDepth 20000 in
theorem gX9_issued_X9_isMonth : GoodIn wsX9_issued (va_wsS RX9 178 yX9_isMonth wsX9_isMonth) := goodIn_app (goodIn_of _ (by decide +kernel)) ggX9_issued_X9_isMonth
theorem dX9_issued_0 : decode cX9_issued 0 = .ok (.aload_n 0, 1) := by decide +kernel
theorem dX9_issued_1 : decode cX9_issued 1 = .ok (.iload_n 1, 1) := by decide +kernel
theorem dX9_issued_2 : decode cX9_issued 2 = .ok (.invokevirtual 126, 3) := by decide +kernel
theorem dX9_issued_5 : decode cX9_issued 5 = .ok (.ifCond .eq 24, 3) := by decide +kernel
theorem dX9_issued_8 : decode cX9_issued 8 = .ok (.iload_n 2, 1) := by decide +kernel
theorem dX9_issued_9 : decode cX9_issued 9 = .ok (.invokestatic 178, 3) := by decide +kernel
theorem dX9_issued_12 : decode cX9_issued 12 = .ok (.ifCond .eq 17, 3) := by decide +kernel
theorem dX9_issued_15 : decode cX9_issued 15 = .ok (.aload_n 0, 1) := by decide +kernel
theorem dX9_issued_16 : decode cX9_issued 16 = .ok (.getfield 84, 3) := by decide +kernel
theorem dX9_issued_19 : decode cX9_issued 19 = .ok (.bipush 120, 2) := by decide +kernel
theorem dX9_issued_21 : decode cX9_issued 21 = .ok (.iload_n 1, 1) := by decide +kernel
theorem dX9_issued_22 : decode cX9_issued 22 = .ok (.imul, 1) := by decide +kernel
theorem dX9_issued_23 : decode cX9_issued 23 = .ok (.iload_n 2, 1) := by decide +kernel
theorem dX9_issued_24 : decode cX9_issued 24 = .ok (.iadd, 1) := by decide +kernel
theorem dX9_issued_25 : decode cX9_issued 25 = .ok (.laload, 1) := by decide +kernel
theorem dX9_issued_26 : decode cX9_issued 26 = .ok (.goto 6, 3) := by decide +kernel
theorem dX9_issued_29 : decode cX9_issued 29 = .ok (.ldc2_w 208, 3) := by decide +kernel
theorem dX9_issued_32 : decode cX9_issued 32 = .ok (.lreturn, 1) := by decide +kernel
set_option maxRecDepth 20000 in
theorem ggX9_reverse_X9_isHouse : GoodIn wsX9_reverse wsX9_isHouse := goodIn_r _ [7, 8, 12, 13, 14, 15, 16, 17, 18, 19, 20, 21, 22, 23, 24, 25, 26, 27, 28, 29, 30, 31, 32, 33, 34, 35, 36, 37, 38, 39, 40, 41, 42, 43, 44, 45, 46, 47, 48, 49, 50, 51, 52, 53, 54] (by decide +kernel) (by decide +kernel)
set_option maxRecDepth 20000 in
theorem gX9_reverse_X9_isHouse : GoodIn wsX9_reverse (wsV RX9 126 RX9 yX9_isHouse wsX9_isHouse) := goodIn_app (goodIn_of _ (by decide +kernel)) ggX9_reverse_X9_isHouse
set_option maxRecDepth 20000 in
theorem ggX9_reverse_X9_isMonth : GoodIn wsX9_reverse wsX9_isMonth := goodIn_r _ [11] (by decide +kernel) (by decide +kernel)
set_option maxRecDepth 20000 in
theorem gX9_reverse_X9_isMonth : GoodIn wsX9_reverse (va_wsS RX9 178 yX9_isMonth wsX9_isMonth) := goodIn_app (goodIn_of _ (by decide +kernel)) ggX9_reverse_X9_isMonth
theorem dX9_reverse_0 : decode cX9_reverse 0 = .ok (.aload_n 0, 1) := by decide +kernel
theorem dX9_reverse_1 : decode cX9_reverse 1 = .ok (.iload_n 1, 1) := by decide +kernel
theorem dX9_reverse_2 : decode cX9_reverse 2 = .ok (.invokevirtual 126, 3) := by decide +kernel
theorem dX9_reverse_5 : decode cX9_reverse 5 = .ok (.ifCond .eq 10, 3) := by decide +kernel
theorem dX9_reverse_8 : decode cX9_reverse 8 = .ok (.iload_n 2, 1) := by decide +kernel
theorem dX9_reverse_9 : decode cX9_reverse 9 = .ok (.invokestatic 178, 3) := by decide +kernel
theorem dX9_reverse_12 : decode cX9_reverse 12 = .ok (.ifCond .ne 7, 3) := by decide +kernel
theorem dX9_reverse_15 : decode cX9_reverse 15 = .ok (.ldc2_w 208, 3) := by decide +kernel
theorem dX9_reverse_18 : decode cX9_reverse 18 = .ok (.lreturn, 1) := by decide +kernel
theorem dX9_reverse_19 : decode cX9_reverse 19 = .ok (.aload_n 0, 1) := by decide +kernel
theorem dX9_reverse_20 : decode cX9_reverse 20 = .ok (.getfield 84, 3) := by decide +kernel
theorem dX9_reverse_23 : decode cX9_reverse 23 = .ok (.bipush 120, 2) := by decide +kernel
theorem dX9_reverse_25 : decode cX9_reverse 25 = .ok (.iload_n 1, 1) := by decide +kernel
theorem dX9_reverse_26 : decode cX9_reverse 26 = .ok (.imul, 1) := by decide +kernel
theorem dX9_reverse_27 : decode cX9_reverse 27 = .ok (.iload_n 2, 1) := by decide +kernel
theorem dX9_reverse_28 : decode cX9_reverse 28 = .ok (.iadd, 1) := by decide +kernel
theorem dX9_reverse_29 : decode cX9_reverse 29 = .ok (.laload, 1) := by decide +kernel
theorem dX9_reverse_30 : decode cX9_reverse 30 = .ok (.lstore_n 3, 1) := by decide +kernel
theorem dX9_reverse_31 : decode cX9_reverse 31 = .ok (.aload_n 0, 1) := by decide +kernel
theorem dX9_reverse_32 : decode cX9_reverse 32 = .ok (.getfield 84, 3) := by decide +kernel
theorem dX9_reverse_35 : decode cX9_reverse 35 = .ok (.bipush 120, 2) := by decide +kernel
theorem dX9_reverse_37 : decode cX9_reverse 37 = .ok (.iload_n 1, 1) := by decide +kernel
theorem dX9_reverse_38 : decode cX9_reverse 38 = .ok (.imul, 1) := by decide +kernel
theorem dX9_reverse_39 : decode cX9_reverse 39 = .ok (.iload_n 2, 1) := by decide +kernel
theorem dX9_reverse_40 : decode cX9_reverse 40 = .ok (.iadd, 1) := by decide +kernel
theorem dX9_reverse_41 : decode cX9_reverse 41 = .ok (.lconst 0, 1) := by decide +kernel
theorem dX9_reverse_42 : decode cX9_reverse 42 = .ok (.lastore, 1) := by decide +kernel
theorem dX9_reverse_43 : decode cX9_reverse 43 = .ok (.lload_n 3, 1) := by decide +kernel
theorem dX9_reverse_44 : decode cX9_reverse 44 = .ok (.lneg, 1) := by decide +kernel
theorem dX9_reverse_45 : decode cX9_reverse 45 = .ok (.lreturn, 1) := by decide +kernel
end
section
/-! ===== PART 02: whole numbers behind the machine's words; the goal of a walk over a world that hangs on a state ===== -/
def zI (z : Int) : Int32 := Int32.ofInt z
def zJ (z : Int) : Int64 := Int64.ofInt z
abbrev in32 (z : Int) : Prop := -2147483648 ≤ z ∧ z ≤ 2147483647
abbrev in64 (z : Int) : Prop := -9223372036854775808 ≤ z ∧ z ≤ 9223372036854775807
theorem zI_t {z : Int} (h : in32 z) : (zI z).toInt = z := Int32.toInt_ofInt_of_le (by omega) (by omega)
theorem zJ_t {z : Int} (h : in64 z) : (zJ z).toInt = z := Int64.toInt_ofInt_of_le (by omega) (by omega)
theorem zI_of (x : Int32) : ∃ z : Int, in32 z ∧ x = zI z := ⟨x.toInt, ⟨by have := x.le_toInt; omega, by have := x.toInt_lt; omega⟩, (Int32.ofInt_toInt x).symm⟩
theorem zJ_of (x : Int64) : ∃ z : Int, in64 z ∧ x = zJ z := ⟨x.toInt, ⟨by have := x.le_toInt; omega, by have := x.toInt_lt; omega⟩, (Int64.ofInt_toInt x).symm⟩
theorem zI_add (x y : Int) : zI x + zI y = zI (x + y) := (Int32.ofInt_add x y).symm
theorem zI_sub (x y : Int) : zI x - zI y = zI (x - y) := (Int32.ofInt_sub x y).symm
theorem zI_mul (x y : Int) : zI x * zI y = zI (x * y) := (Int32.ofInt_mul x y).symm
theorem zJ_add (x y : Int) : zJ x + zJ y = zJ (x + y) := (Int64.ofInt_add x y).symm
theorem zJ_sub (x y : Int) : zJ x - zJ y = zJ (x - y) := (Int64.ofInt_sub x y).symm
theorem zJ_mul (x y : Int) : zJ x * zJ y = zJ (x * y) := (Int64.ofInt_mul x y).symm
theorem zJ_neg (x : Int) : -zJ x = zJ (-x) := (Int64.ofInt_neg x).symm
theorem zI_lt {x y : Int} (hx : in32 x) (hy : in32 y) : zI x < zI y ↔ x < y := by rw [Int32.lt_iff_toInt_lt, zI_t hx, zI_t hy]
theorem zI_le {x y : Int} (hx : in32 x) (hy : in32 y) : zI x ≤ zI y ↔ x ≤ y := by rw [Int32.le_iff_toInt_le, zI_t hx, zI_t hy]
theorem zI_eq {x y : Int} (hx : in32 x) (hy : in32 y) : zI x = zI y ↔ x = y := by rw [← Int32.toInt_inj, zI_t hx, zI_t hy]
theorem zJ_lt {x y : Int} (hx : in64 x) (hy : in64 y) : zJ x < zJ y ↔ x < y := by rw [Int64.lt_iff_toInt_lt, zJ_t hx, zJ_t hy]
theorem zJ_le {x y : Int} (hx : in64 x) (hy : in64 y) : zJ x ≤ zJ y ↔ x ≤ y := by rw [Int64.le_iff_toInt_le, zJ_t hx, zJ_t hy]
theorem zJ_eq {x y : Int} (hx : in64 x) (hy : in64 y) : zJ x = zJ y ↔ x = y := by rw [← Int64.toInt_inj, zJ_t hx, zJ_t hy]
theorem zI_div {x y : Int} (hx : 0 ≤ x ∧ x ≤ 2147483647) (hy : 0 < y ∧ y ≤ 2147483647) : zI x / zI y = zI (x / y) := by
  show Int32.ofInt x / Int32.ofInt y = Int32.ofInt (x / y)
  rw [← Int.tdiv_eq_ediv_of_nonneg hx.1]
  exact (Int32.ofInt_tdiv (show (-2147483648 : Int) ≤ x by omega) (show x ≤ (2147483647 : Int) by omega) (show (-2147483648 : Int) ≤ y by omega) (show y ≤ (2147483647 : Int) by omega)).symm
theorem zJ_div {x y : Int} (hx : 0 ≤ x ∧ x ≤ 9223372036854775807) (hy : 0 < y ∧ y ≤ 9223372036854775807) : zJ x / zJ y = zJ (x / y) := by
  show Int64.ofInt x / Int64.ofInt y = Int64.ofInt (x / y)
  rw [← Int.tdiv_eq_ediv_of_nonneg hx.1]
  exact (Int64.ofInt_tdiv (show (-9223372036854775808 : Int) ≤ x by omega) (show x ≤ (9223372036854775807 : Int) by omega) (show (-9223372036854775808 : Int) ≤ y by omega) (show y ≤ (9223372036854775807 : Int) by omega)).symm
theorem zJ_divT {x y : Int} (hx : in64 x) (hy : in64 y) : zJ x / zJ y = zJ (x.tdiv y) :=
  (Int64.ofInt_tdiv (show (-9223372036854775808 : Int) ≤ x by omega) (show x ≤ (9223372036854775807 : Int) by omega) (show (-9223372036854775808 : Int) ≤ y by omega) (show y ≤ (9223372036854775807 : Int) by omega)).symm
theorem zI_l {z : Int} (h : in32 z) : (zI z).toInt64 = zJ z := Int32.toInt64_ofInt (show (-2147483648 : Int) ≤ z by omega) (show z ≤ (2147483647 : Int) by omega)
theorem zJ_i (z : Int) : (zJ z).toInt32 = zI z := Int64.toInt32_ofInt
theorem zI_cl {z : Int} (h0 : 0 ≤ z) (h1 : z ≤ 2147483647) : (zI z).toNatClampNeg = z.toNat := Int32.toNatClampNeg_ofInt_of_le (by omega) (by omega)
theorem zI_in {z : Int} {n : Nat} (h : 0 ≤ z ∧ z < n) (hn : (n : Int) ≤ 2147483648) : vp_in (zI z) n := by
  rw [vp_in_iff, zI_t ⟨by omega, by omega⟩]
  exact h
theorem zI_b {z : Int} (h : -128 ≤ z ∧ z ≤ 127) : (zI z).toInt8.toInt32 = zI z := by
  rw [← Int32.toInt_inj, zI_t ⟨by omega, by omega⟩]
  show ((Int32.ofInt z).toInt8.toInt32).toInt = z
  rw [Int8.toInt_toInt32, Int32.toInt8_ofInt, Int8.toInt_ofInt_of_le (by omega) (by omega)]
theorem zJ_rem {x y : Int} (hx : 0 ≤ x ∧ x ≤ 9223372036854775807) (hy : 0 < y ∧ y ≤ 9223372036854775807) : zJ x - zJ x / zJ y * zJ y = zJ (x % y) := by
  rw [zJ_div hx hy, zJ_mul, zJ_sub]
  congr 1
  have := Int.emod_add_mul_ediv x y
  rw [Int.mul_comm] at this
  omega
/-- the state of the rows: one place changed -/
def f_up {α : Type} (f : Int → α) (k : Int) (v : α) : Int → α := fun j => if j = k then v else f j
theorem f_up_s {α : Type} (f : Int → α) (k : Int) (v : α) : f_up f k v k = v := by simp [f_up]
theorem f_up_n {α : Type} (f : Int → α) {k j : Int} (v : α) (h : j ≠ k) : f_up f k v j = f j := by simp [f_up, h]
theorem f_upI (f : Int → Int) {k v : Int} (h : 0 ≤ k ∧ k ≤ 2147483647) : upd (fun j : Nat => zI (f j)) (zI k).toNatClampNeg (zI v) = fun j : Nat => zI (f_up f k v j) := by
  funext j
  rw [zI_cl h.1 h.2]
  by_cases e : j = k.toNat
  · subst e
    have e2 : ((k.toNat : Nat) : Int) = k := Int.toNat_of_nonneg h.1
    simp [upd, f_up, e2]
  · have e2 : ¬ ((j : Nat) : Int) = k := by omega
    simp [upd, f_up, e, e2]
theorem f_upJ (f : Int → Int) {k v : Int} (h : 0 ≤ k ∧ k ≤ 2147483647) : vp_updL (fun j : Nat => zJ (f j)) (zI k).toNatClampNeg (zJ v) = fun j : Nat => zJ (f_up f k v j) := by
  funext j
  rw [zI_cl h.1 h.2]
  by_cases e : j = k.toNat
  · subst e
    have e2 : ((k.toNat : Nat) : Int) = k := Int.toNat_of_nonneg h.1
    simp [vp_updL, f_up, e2]
  · have e2 : ¬ ((j : Nat) : Int) = k := by omega
    simp [vp_updL, f_up, e, e2]
/-- a local by its place -/
def f_lk : List (Nat × Value) → Nat → Option Value
  | [], _ => none
  | q :: l, i => bif Nat.beq q.1 i then some q.2 else f_lk l i
theorem f_lk_at {ls : Array Slot} {nL : Nat} {lv : List (Nat × Value)} (h : lv_has ls nL lv) {i : Nat} {v : Value} (hk : f_lk lv i = some v) : ls[i]? = some (.val v) := by
  refine h.2.2 (i, v) ?_
  clear h
  induction lv with
  | nil => cases hk
  | cons q l ih =>
    unfold f_lk at hk
    cases e : Nat.beq q.1 i with
    | true =>
      rw [e] at hk
      have e1 : q.1 = i := Nat.eq_of_beq_eq_true e
      have e2 : q.2 = v := Option.some.inj hk
      subst e1; subst e2
      exact List.mem_cons_self
    | false =>
      rw [e] at hk
      exact List.mem_cons_of_mem _ (ih hk)
end
section
/-! ===== PART 03: a walk's goal over a state, its rows ===== -/
/-- what a method takes as given of all that lies outside its own cells, and that stays so -/
def fSt (A : Nat → Prop) (E : State → Prop) : Prop := (∀ s U : State, s.WarmedH U.vm → s.heap.size ≤ U.heap.size → (∀ q : Nat, q < s.heap.size → ¬ A q → U.heap[q]? = s.heap[q]?) → E s → E U) ∧ ∀ (U : State) (g : JFrame) (mk : MethodId) (a : Array Value), E U → E (U.calling g mk a)
theorem fSt_T (A : Nat → Prop) : fSt A (fun _ => True) := ⟨fun _ _ _ _ _ _ => trivial, fun _ _ _ _ _ => trivial⟩
abbrev fC (p : Program) (m : MethodId) (c : Code) (cc : ByteArray) (nL : Nat) (s : State) (args : Array Value) (Ts : List Cond) (own : String) (D : va_G) (tys : List (ClassId × FieldType)) (E : State → Prop) (A : Nat → Prop) : Prop :=
  CallFix p m c cc nL s args Ts own ∧ va_K D vwCl tys s ∧ E s ∧ fSt A E
/-- from every heap that holds the world of the state st, with these locals, the machine at pc with this stack comes to Q -/
def fV {σ : Type} (D : va_G) (Wd : σ → va_W) (Ok : σ → Prop) (A : Nat → Prop) (nL : Nat) (p : Program) (l : Launch) (e : Env) (R : Room) (s : State) (m : MethodId) (args : Array Value) (below : List Frame) (meth : Method) (c : Code) (cells slots : Nat) (Q : State → Prop) (st : σ) (pc : Nat) (lv : List (Nat × Value)) (stk : List Value) : Prop :=
  ∀ (H : Heap) (locs : List Loc) (ls : Array Slot), va_P D vwCl (Wd st) H → Ok st → va_S A s.heap H locs → lv_has ls nL lv → W p l e R s m args below meth c H locs cells slots Q (F0 m pc ls stk)
theorem f_lc_v {x y : Int} (hx : in64 x) (hy : in64 y) : lg_cmp (zJ x) (zJ y) = if y < x then 1 else if x = y then 0 else -1 := by
  unfold lg_cmp
  by_cases h : y < x
  · rw [if_pos h, if_pos (show zJ x > zJ y from (zJ_lt hy hx).mpr h)]
  · rw [if_neg h, if_neg (show ¬ zJ x > zJ y from mt (zJ_lt hy hx).mp h)]
    by_cases h2 : x = y
    · rw [if_pos h2, if_pos ((zJ_eq hx hy).mpr h2)]
    · rw [if_neg h2, if_neg (mt (zJ_eq hx hy).mp h2)]
theorem f_lc_eq {x y : Int} (hx : in64 x) (hy : in64 y) : lg_cmp (zJ x) (zJ y) = 0 ↔ x = y := by
  rw [f_lc_v hx hy]
  by_cases h : y < x
  · rw [if_pos h]; exact ⟨fun q => absurd q (by decide), fun q => by omega⟩
  · rw [if_neg h]
    by_cases h2 : x = y
    · rw [if_pos h2]; exact ⟨fun _ => h2, fun _ => rfl⟩
    · rw [if_neg h2]; exact ⟨fun q => absurd q (by decide), fun q => absurd q h2⟩
theorem f_lc_lt {x y : Int} (hx : in64 x) (hy : in64 y) : lg_cmp (zJ x) (zJ y) < 0 ↔ x < y := by
  rw [f_lc_v hx hy]
  by_cases h : y < x
  · rw [if_pos h]; exact ⟨fun q => absurd q (by decide), fun q => by omega⟩
  · rw [if_neg h]
    by_cases h2 : x = y
    · rw [if_pos h2]; exact ⟨fun q => absurd q (by decide), fun q => by omega⟩
    · rw [if_neg h2]; exact ⟨fun _ => by omega, fun _ => by decide⟩
theorem f_lc_gt {x y : Int} (hx : in64 x) (hy : in64 y) : 0 < lg_cmp (zJ x) (zJ y) ↔ y < x := by
  rw [f_lc_v hx hy]
  by_cases h : y < x
  · rw [if_pos h]; exact ⟨fun _ => h, fun _ => by decide⟩
  · rw [if_neg h]
    by_cases h2 : x = y
    · rw [if_pos h2]; exact ⟨fun q => absurd q (by decide), fun q => by omega⟩
    · rw [if_neg h2]; exact ⟨fun q => absurd q (by decide), fun q => by omega⟩
theorem f_lc_ge {x y : Int} (hx : in64 x) (hy : in64 y) : 0 ≤ lg_cmp (zJ x) (zJ y) ↔ y ≤ x := by
  rw [f_lc_v hx hy]
  by_cases h : y < x
  · rw [if_pos h]; exact ⟨fun _ => by omega, fun _ => by decide⟩
  · rw [if_neg h]
    by_cases h2 : x = y
    · rw [if_pos h2]; exact ⟨fun q => by omega, fun q => by decide⟩
    · rw [if_neg h2]; exact ⟨fun q => absurd q (by decide), fun q => by omega⟩
theorem f_lc_le {x y : Int} (hx : in64 x) (hy : in64 y) : lg_cmp (zJ x) (zJ y) ≤ 0 ↔ x ≤ y := by
  rw [f_lc_v hx hy]
  by_cases h : y < x
  · rw [if_pos h]; exact ⟨fun q => absurd q (by decide), fun q => by omega⟩
  · rw [if_neg h]
    by_cases h2 : x = y
    · rw [if_pos h2]; exact ⟨fun q => by omega, fun q => by decide⟩
    · rw [if_neg h2]; exact ⟨fun _ => by omega, fun _ => by decide⟩
section FV
variable {σ : Type} {D : va_G} {Wd : σ → va_W} {Ok : σ → Prop} {A : Nat → Prop} {nL : Nat} {p : Program} {l : Launch} {e : Env} {R : Room} {s : State} {m : MethodId} {args : Array Value} {below : List Frame} {meth : Method} {c : Code} {cells slots : Nat} {Q : State → Prop}
variable {cc : ByteArray} {Ts : List Cond} {own : String} {tys : List (ClassId × FieldType)} {E : State → Prop} {st : σ} {pc : Nat} {lv : List (Nat × Value)} {rest : List Value}
theorem f_ok (k : Ok st → fV D Wd Ok A nL p l e R s m args below meth c cells slots Q st pc lv rest) : fV D Wd Ok A nL p l e R s m args below meth c cells slots Q st pc lv rest := fun H locs ls hP hO hS hl => k hO H locs ls hP hO hS hl
theorem f_st {u : σ} (h : st = u) (k : fV D Wd Ok A nL p l e R s m args below meth c cells slots Q u pc lv rest) : fV D Wd Ok A nL p l e R s m args below meth c cells slots Q st pc lv rest := by rw [h]; exact k
theorem f_re {lv' : List (Nat × Value)} (ks : List Nat) (h : lv_pick lv ks = lv') (k : fV D Wd Ok A nL p l e R s m args below meth c cells slots Q st pc lv' rest) : fV D Wd Ok A nL p l e R s m args below meth c cells slots Q st pc lv rest := fun H locs ls hP hO hS hl => k H locs ls hP hO hS (lv_sub hl ks h)
theorem f_stk {r2 : List Value} (h : rest = r2) (k : fV D Wd Ok A nL p l e R s m args below meth c cells slots Q st pc lv r2) : fV D Wd Ok A nL p l e R s m args below meth c cells slots Q st pc lv rest := by rw [h]; exact k
theorem f_iconst (C : fC p m c cc nL s args Ts own D tys E A) {n : Int} (hdg : decode cc pc = .ok (.iconst n, 1)) (k : fV D Wd Ok A nL p l e R s m args below meth c cells slots Q st (pc + 1) lv (.int (zI n) :: rest)) : fV D Wd Ok A nL p l e R s m args below meth c cells slots Q st pc lv rest := fun H locs ls hP hO hS hl => lv_iconst C.1.1 C.1.2.1 hdg rfl (k H locs ls hP hO hS hl)
theorem f_bipush (C : fC p m c cc nL s args Ts own D tys E A) {n : Int} (hdg : decode cc pc = .ok (.bipush n, 2)) (hv : (Int8.ofInt n).toInt32 = zI n) (k : fV D Wd Ok A nL p l e R s m args below meth c cells slots Q st (pc + 2) lv (.int (zI n) :: rest)) : fV D Wd Ok A nL p l e R s m args below meth c cells slots Q st pc lv rest := fun H locs ls hP hO hS hl => lv_bipush C.1.1 C.1.2.1 hdg hv (k H locs ls hP hO hS hl)
theorem f_sipush (C : fC p m c cc nL s args Ts own D tys E A) {n : Int} (hdg : decode cc pc = .ok (.sipush n, 3)) (hv : (Int16.ofInt n).toInt32 = zI n) (k : fV D Wd Ok A nL p l e R s m args below meth c cells slots Q st (pc + 3) lv (.int (zI n) :: rest)) : fV D Wd Ok A nL p l e R s m args below meth c cells slots Q st pc lv rest := fun H locs ls hP hO hS hl => lv_sipush C.1.1 C.1.2.1 hdg hv (k H locs ls hP hO hS hl)
theorem f_lconst (C : fC p m c cc nL s args Ts own D tys E A) {n : Fin 2} {z : Int} (hdg : decode cc pc = .ok (.lconst n, 1)) (hv : Int64.ofNat (n : Nat) = zJ z) (k : fV D Wd Ok A nL p l e R s m args below meth c cells slots Q st (pc + 1) lv (.long (zJ z) :: rest)) : fV D Wd Ok A nL p l e R s m args below meth c cells slots Q st pc lv rest := fun H locs ls hP hO hS hl => lv_lconst C.1.1 C.1.2.1 hdg hv (k H locs ls hP hO hS hl)
theorem f_ldc2 (C : fC p m c cc nL s args Ts own D tys E A) {index : Nat} {v : Int64} {z : Int} (hc : Cond.constantLong own index v ∈ Ts) (hv : v = zJ z) (hdg : decode cc pc = .ok (.ldc2_w index, 3)) (k : fV D Wd Ok A nL p l e R s m args below meth c cells slots Q st (pc + 3) lv (.long (zJ z) :: rest)) : fV D Wd Ok A nL p l e R s m args below meth c cells slots Q st pc lv rest := by
  subst hv
  exact fun H locs ls hP hO hS hl => lv_ldc2 C.1.1 C.1.2.1 C.1.2.2.2.1 (C.1.2.2.2.2 _ hc) hdg (k H locs ls hP hO hS hl)
theorem f_ldc (C : fC p m c cc nL s args Ts own D tys E A) {index : Nat} {v : Int32} {z : Int} (hc : Cond.constant own index v ∈ Ts) (hv : v = zI z) (hdg : decode cc pc = .ok (.ldc index, 2)) (k : fV D Wd Ok A nL p l e R s m args below meth c cells slots Q st (pc + 2) lv (.int (zI z) :: rest)) : fV D Wd Ok A nL p l e R s m args below meth c cells slots Q st pc lv rest := by
  subst hv
  exact fun H locs ls hP hO hS hl => lv_ldc C.1.1 C.1.2.1 C.1.2.2.2.1 (C.1.2.2.2.2 _ hc) hdg (k H locs ls hP hO hS hl)
theorem f_iload_n (C : fC p m c cc nL s args Ts own D tys E A) {j : Fin 4} (i : Nat) {x : Int32} (hdg : decode cc pc = .ok (.iload_n j, 1)) (hi : (j : Nat) = i) (hv : f_lk lv i = some (.int x)) (k : fV D Wd Ok A nL p l e R s m args below meth c cells slots Q st (pc + 1) lv (.int x :: rest)) : fV D Wd Ok A nL p l e R s m args below meth c cells slots Q st pc lv rest := fun H locs ls hP hO hS hl => lv_iload_n C.1.1 C.1.2.1 hdg hi (f_lk_at hl hv) (k H locs ls hP hO hS hl)
theorem f_iload (C : fC p m c cc nL s args Ts own D tys E A) (i : Nat) {x : Int32} (hdg : decode cc pc = .ok (.iload i, 2)) (hv : f_lk lv i = some (.int x)) (k : fV D Wd Ok A nL p l e R s m args below meth c cells slots Q st (pc + 2) lv (.int x :: rest)) : fV D Wd Ok A nL p l e R s m args below meth c cells slots Q st pc lv rest := fun H locs ls hP hO hS hl => lv_iload C.1.1 C.1.2.1 hdg (f_lk_at hl hv) (k H locs ls hP hO hS hl)
theorem f_lload_n (C : fC p m c cc nL s args Ts own D tys E A) {j : Fin 4} (i : Nat) {x : Int64} (hdg : decode cc pc = .ok (.lload_n j, 1)) (hi : (j : Nat) = i) (hv : f_lk lv i = some (.long x)) (k : fV D Wd Ok A nL p l e R s m args below meth c cells slots Q st (pc + 1) lv (.long x :: rest)) : fV D Wd Ok A nL p l e R s m args below meth c cells slots Q st pc lv rest := fun H locs ls hP hO hS hl => lv_lload_n C.1.1 C.1.2.1 hdg hi (f_lk_at hl hv) (k H locs ls hP hO hS hl)
theorem f_lload (C : fC p m c cc nL s args Ts own D tys E A) (i : Nat) {x : Int64} (hdg : decode cc pc = .ok (.lload i, 2)) (hv : f_lk lv i = some (.long x)) (k : fV D Wd Ok A nL p l e R s m args below meth c cells slots Q st (pc + 2) lv (.long x :: rest)) : fV D Wd Ok A nL p l e R s m args below meth c cells slots Q st pc lv rest := fun H locs ls hP hO hS hl => lv_lload C.1.1 C.1.2.1 hdg (f_lk_at hl hv) (k H locs ls hP hO hS hl)
theorem f_aload_n (C : fC p m c cc nL s args Ts own D tys E A) {j : Fin 4} (i : Nat) {x : Nat} (hdg : decode cc pc = .ok (.aload_n j, 1)) (hi : (j : Nat) = i) (hv : f_lk lv i = some (.ref x)) (k : fV D Wd Ok A nL p l e R s m args below meth c cells slots Q st (pc + 1) lv (.ref x :: rest)) : fV D Wd Ok A nL p l e R s m args below meth c cells slots Q st pc lv rest := fun H locs ls hP hO hS hl => lv_aload_n C.1.1 C.1.2.1 hdg hi (f_lk_at hl hv) (k H locs ls hP hO hS hl)
theorem f_istore_n (C : fC p m c cc nL s args Ts own D tys E A) {j : Fin 4} (i : Nat) {x : Int32} {lv' : List (Nat × Value)} (hdg : decode cc pc = .ok (.istore_n j, 1)) (hi : (j : Nat) = i) (hn : i < nL) (hl' : (i, Value.int x) :: lv.filter (fun q => !(q.1 == i) && !(q.1 + 1 == i && q.2.category == 2)) = lv') (k : fV D Wd Ok A nL p l e R s m args below meth c cells slots Q st (pc + 1) lv' rest) : fV D Wd Ok A nL p l e R s m args below meth c cells slots Q st pc lv (.int x :: rest) := fun H locs ls hP hO hS hl => lv_istore_n C.1.1 C.1.2.1 hdg hi hl hn hl' (fun ls2 hl2 => k H locs ls2 hP hO hS hl2)
theorem f_istore (C : fC p m c cc nL s args Ts own D tys E A) {i : Nat} {x : Int32} {lv' : List (Nat × Value)} (hdg : decode cc pc = .ok (.istore i, 2)) (hn : i < nL) (hl' : (i, Value.int x) :: lv.filter (fun q => !(q.1 == i) && !(q.1 + 1 == i && q.2.category == 2)) = lv') (k : fV D Wd Ok A nL p l e R s m args below meth c cells slots Q st (pc + 2) lv' rest) : fV D Wd Ok A nL p l e R s m args below meth c cells slots Q st pc lv (.int x :: rest) := fun H locs ls hP hO hS hl => lv_istore C.1.1 C.1.2.1 hdg hl hn hl' (fun ls2 hl2 => k H locs ls2 hP hO hS hl2)
theorem f_lstore_n (C : fC p m c cc nL s args Ts own D tys E A) {j : Fin 4} (i : Nat) {x : Int64} {lv' : List (Nat × Value)} (hdg : decode cc pc = .ok (.lstore_n j, 1)) (hi : (j : Nat) = i) (hn : i + 1 < nL) (hl' : (i, Value.long x) :: lv.filter (fun q => !(q.1 == i) && (!(q.1 == i + 1) && !(q.1 + 1 == i && q.2.category == 2))) = lv') (k : fV D Wd Ok A nL p l e R s m args below meth c cells slots Q st (pc + 1) lv' rest) : fV D Wd Ok A nL p l e R s m args below meth c cells slots Q st pc lv (.long x :: rest) := fun H locs ls hP hO hS hl => lv_lstore_n C.1.1 C.1.2.1 hdg hi hl hn hl' (fun ls2 hl2 => k H locs ls2 hP hO hS hl2)
theorem f_lstore (C : fC p m c cc nL s args Ts own D tys E A) {i : Nat} {x : Int64} {lv' : List (Nat × Value)} (hdg : decode cc pc = .ok (.lstore i, 2)) (hn : i + 1 < nL) (hl' : (i, Value.long x) :: lv.filter (fun q => !(q.1 == i) && (!(q.1 == i + 1) && !(q.1 + 1 == i && q.2.category == 2))) = lv') (k : fV D Wd Ok A nL p l e R s m args below meth c cells slots Q st (pc + 2) lv' rest) : fV D Wd Ok A nL p l e R s m args below meth c cells slots Q st pc lv (.long x :: rest) := fun H locs ls hP hO hS hl => lv_lstore C.1.1 C.1.2.1 hdg hl hn hl' (fun ls2 hl2 => k H locs ls2 hP hO hS hl2)
theorem f_iinc (C : fC p m c cc nL s args Ts own D tys E A) {i : Nat} {n x : Int} {lv' : List (Nat × Value)} (j : Nat) (hdg : decode cc pc = .ok (.iinc i n, 3)) (hk : lv[j]? = some (i, .int (zI x))) (hn : i < nL) (hl' : (i, Value.int (zI (x + n))) :: lv.filter (fun q => !(q.1 == i) && !(q.1 + 1 == i && q.2.category == 2)) = lv') (k : fV D Wd Ok A nL p l e R s m args below meth c cells slots Q st (pc + 3) lv' rest) : fV D Wd Ok A nL p l e R s m args below meth c cells slots Q st pc lv rest := fun H locs ls hP hO hS hl => lv_iinc C.1.1 C.1.2.1 hdg hl hk (zI_add x n) hn hl' (fun ls2 hl2 => k H locs ls2 hP hO hS hl2)
theorem f_iadd (C : fC p m c cc nL s args Ts own D tys E A) {x y : Int} (hdg : decode cc pc = .ok (.iadd, 1)) (k : fV D Wd Ok A nL p l e R s m args below meth c cells slots Q st (pc + 1) lv (.int (zI (x + y)) :: rest)) : fV D Wd Ok A nL p l e R s m args below meth c cells slots Q st pc lv (.int (zI y) :: .int (zI x) :: rest) := fun H locs ls hP hO hS hl => lv_iadd C.1.1 C.1.2.1 hdg (by rw [zI_add]; exact k H locs ls hP hO hS hl)
theorem f_isub (C : fC p m c cc nL s args Ts own D tys E A) {x y : Int} (hdg : decode cc pc = .ok (.isub, 1)) (k : fV D Wd Ok A nL p l e R s m args below meth c cells slots Q st (pc + 1) lv (.int (zI (x - y)) :: rest)) : fV D Wd Ok A nL p l e R s m args below meth c cells slots Q st pc lv (.int (zI y) :: .int (zI x) :: rest) := fun H locs ls hP hO hS hl => lv_isub C.1.1 C.1.2.1 hdg (by rw [zI_sub]; exact k H locs ls hP hO hS hl)
theorem f_imul (C : fC p m c cc nL s args Ts own D tys E A) {x y : Int} (hdg : decode cc pc = .ok (.imul, 1)) (k : fV D Wd Ok A nL p l e R s m args below meth c cells slots Q st (pc + 1) lv (.int (zI (x * y)) :: rest)) : fV D Wd Ok A nL p l e R s m args below meth c cells slots Q st pc lv (.int (zI y) :: .int (zI x) :: rest) := fun H locs ls hP hO hS hl => lv_imul C.1.1 C.1.2.1 hdg (by rw [zI_mul]; exact k H locs ls hP hO hS hl)
theorem f_ladd (C : fC p m c cc nL s args Ts own D tys E A) {x y : Int} (hdg : decode cc pc = .ok (.ladd, 1)) (k : fV D Wd Ok A nL p l e R s m args below meth c cells slots Q st (pc + 1) lv (.long (zJ (x + y)) :: rest)) : fV D Wd Ok A nL p l e R s m args below meth c cells slots Q st pc lv (.long (zJ y) :: .long (zJ x) :: rest) := fun H locs ls hP hO hS hl => lv_ladd C.1.1 C.1.2.1 hdg (by rw [zJ_add]; exact k H locs ls hP hO hS hl)
theorem f_lsub (C : fC p m c cc nL s args Ts own D tys E A) {x y : Int} (hdg : decode cc pc = .ok (.lsub, 1)) (k : fV D Wd Ok A nL p l e R s m args below meth c cells slots Q st (pc + 1) lv (.long (zJ (x - y)) :: rest)) : fV D Wd Ok A nL p l e R s m args below meth c cells slots Q st pc lv (.long (zJ y) :: .long (zJ x) :: rest) := fun H locs ls hP hO hS hl => lv_lsub C.1.1 C.1.2.1 hdg (by rw [zJ_sub]; exact k H locs ls hP hO hS hl)
theorem f_lmul (C : fC p m c cc nL s args Ts own D tys E A) {x y : Int} (hdg : decode cc pc = .ok (.lmul, 1)) (k : fV D Wd Ok A nL p l e R s m args below meth c cells slots Q st (pc + 1) lv (.long (zJ (x * y)) :: rest)) : fV D Wd Ok A nL p l e R s m args below meth c cells slots Q st pc lv (.long (zJ y) :: .long (zJ x) :: rest) := fun H locs ls hP hO hS hl => lv_lmul C.1.1 C.1.2.1 hdg (by rw [zJ_mul]; exact k H locs ls hP hO hS hl)
theorem f_lneg (C : fC p m c cc nL s args Ts own D tys E A) {x : Int} (hdg : decode cc pc = .ok (.lneg, 1)) (k : fV D Wd Ok A nL p l e R s m args below meth c cells slots Q st (pc + 1) lv (.long (zJ (-x)) :: rest)) : fV D Wd Ok A nL p l e R s m args below meth c cells slots Q st pc lv (.long (zJ x) :: rest) := fun H locs ls hP hO hS hl => lv_lneg C.1.1 C.1.2.1 hdg (by rw [zJ_neg]; exact k H locs ls hP hO hS hl)
theorem f_idiv (C : fC p m c cc nL s args Ts own D tys E A) {x y : Int} (hx : 0 ≤ x ∧ x ≤ 2147483647) (hy : 0 < y ∧ y ≤ 2147483647) (hdg : decode cc pc = .ok (.idiv, 1)) (k : fV D Wd Ok A nL p l e R s m args below meth c cells slots Q st (pc + 1) lv (.int (zI (x / y)) :: rest)) : fV D Wd Ok A nL p l e R s m args below meth c cells slots Q st pc lv (.int (zI y) :: .int (zI x) :: rest) := fun H locs ls hP hO hS hl => lv_idiv C.1.1 C.1.2.1 hdg (fun h => by have := (zI_eq (x := y) (y := 0) ⟨by omega, by omega⟩ ⟨by omega, by omega⟩).mp h; omega) (by rw [zI_div hx hy]; exact k H locs ls hP hO hS hl)
theorem f_ldiv (C : fC p m c cc nL s args Ts own D tys E A) {x y : Int} (hx : 0 ≤ x ∧ x ≤ 9223372036854775807) (hy : 0 < y ∧ y ≤ 9223372036854775807) (hdg : decode cc pc = .ok (.ldiv, 1)) (k : fV D Wd Ok A nL p l e R s m args below meth c cells slots Q st (pc + 1) lv (.long (zJ (x / y)) :: rest)) : fV D Wd Ok A nL p l e R s m args below meth c cells slots Q st pc lv (.long (zJ y) :: .long (zJ x) :: rest) := fun H locs ls hP hO hS hl => lv_ldiv C.1.1 C.1.2.1 hdg (fun h => by have := (zJ_eq (x := y) (y := 0) ⟨by omega, by omega⟩ ⟨by omega, by omega⟩).mp h; omega) (by rw [zJ_div hx hy]; exact k H locs ls hP hO hS hl)
theorem f_lrem (C : fC p m c cc nL s args Ts own D tys E A) {x y : Int} (hx : 0 ≤ x ∧ x ≤ 9223372036854775807) (hy : 0 < y ∧ y ≤ 9223372036854775807) (hdg : decode cc pc = .ok (.lrem, 1)) (k : fV D Wd Ok A nL p l e R s m args below meth c cells slots Q st (pc + 1) lv (.long (zJ (x % y)) :: rest)) : fV D Wd Ok A nL p l e R s m args below meth c cells slots Q st pc lv (.long (zJ y) :: .long (zJ x) :: rest) := fun H locs ls hP hO hS hl => lv_lrem C.1.1 C.1.2.1 hdg (fun h => by have := (zJ_eq (x := y) (y := 0) ⟨by omega, by omega⟩ ⟨by omega, by omega⟩).mp h; omega) (by rw [zJ_rem hx hy]; exact k H locs ls hP hO hS hl)
theorem f_ldivT (C : fC p m c cc nL s args Ts own D tys E A) {x y : Int} (hx : in64 x) (hy : in64 y) (h0 : y ≠ 0) (hdg : decode cc pc = .ok (.ldiv, 1)) (k : fV D Wd Ok A nL p l e R s m args below meth c cells slots Q st (pc + 1) lv (.long (zJ (x.tdiv y)) :: rest)) : fV D Wd Ok A nL p l e R s m args below meth c cells slots Q st pc lv (.long (zJ y) :: .long (zJ x) :: rest) := fun H locs ls hP hO hS hl => lv_ldiv C.1.1 C.1.2.1 hdg (fun h => h0 ((zJ_eq (x := y) (y := 0) hy ⟨by omega, by omega⟩).mp h)) (by rw [zJ_divT hx hy]; exact k H locs ls hP hO hS hl)
theorem f_i2l (C : fC p m c cc nL s args Ts own D tys E A) {x : Int} (hx : in32 x) (hdg : decode cc pc = .ok (.i2l, 1)) (k : fV D Wd Ok A nL p l e R s m args below meth c cells slots Q st (pc + 1) lv (.long (zJ x) :: rest)) : fV D Wd Ok A nL p l e R s m args below meth c cells slots Q st pc lv (.int (zI x) :: rest) := fun H locs ls hP hO hS hl => lv_i2l C.1.1 C.1.2.1 hdg (zI_l hx) (k H locs ls hP hO hS hl)
theorem f_l2i (C : fC p m c cc nL s args Ts own D tys E A) {x : Int} (hdg : decode cc pc = .ok (.l2i, 1)) (k : fV D Wd Ok A nL p l e R s m args below meth c cells slots Q st (pc + 1) lv (.int (zI x) :: rest)) : fV D Wd Ok A nL p l e R s m args below meth c cells slots Q st pc lv (.long (zJ x) :: rest) := fun H locs ls hP hO hS hl => lv_l2i C.1.1 C.1.2.1 hdg (zJ_i x) (k H locs ls hP hO hS hl)
theorem f_i2b (C : fC p m c cc nL s args Ts own D tys E A) {x : Int} (hx : -128 ≤ x ∧ x ≤ 127) (hdg : decode cc pc = .ok (.i2b, 1)) (k : fV D Wd Ok A nL p l e R s m args below meth c cells slots Q st (pc + 1) lv (.int (zI x) :: rest)) : fV D Wd Ok A nL p l e R s m args below meth c cells slots Q st pc lv (.int (zI x) :: rest) := fun H locs ls hP hO hS hl => lv_i2b C.1.1 C.1.2.1 hdg (zI_b hx) (k H locs ls hP hO hS hl)
theorem f_dup (C : fC p m c cc nL s args Ts own D tys E A) {v : Value} (hdg : decode cc pc = .ok (.dup, 1)) (hv : v.category = 1) (k : fV D Wd Ok A nL p l e R s m args below meth c cells slots Q st (pc + 1) lv (v :: v :: rest)) : fV D Wd Ok A nL p l e R s m args below meth c cells slots Q st pc lv (v :: rest) := fun H locs ls hP hO hS hl => lv_dup C.1.1 C.1.2.1 hdg hv (k H locs ls hP hO hS hl)
theorem f_dup2 (C : fC p m c cc nL s args Ts own D tys E A) {v w : Value} (hdg : decode cc pc = .ok (.dup2, 1)) (hv : v.category = 1) (hw : w.category = 1) (k : fV D Wd Ok A nL p l e R s m args below meth c cells slots Q st (pc + 1) lv (v :: w :: v :: w :: rest)) : fV D Wd Ok A nL p l e R s m args below meth c cells slots Q st pc lv (v :: w :: rest) := fun H locs ls hP hO hS hl => lv_dup2_11 C.1.1 C.1.2.1 hdg hv hw (k H locs ls hP hO hS hl)
theorem f_goto (C : fC p m c cc nL s args Ts own D tys E A) {off : Int} (tgt : Nat) (hdg : decode cc pc = .ok (.goto off, 3)) (ht : (pc : Int) + off = (tgt : Int)) (k : fV D Wd Ok A nL p l e R s m args below meth c cells slots Q st tgt lv rest) : fV D Wd Ok A nL p l e R s m args below meth c cells slots Q st pc lv rest := fun H locs ls hP hO hS hl => lv_goto C.1.1 C.1.2.1 hdg ht (k H locs ls hP hO hS hl)
theorem f_icmp_eq (C : fC p m c cc nL s args Ts own D tys E A) {x y off : Int} (tgt : Nat) (hx : in32 x) (hy : in32 y) (hdg : decode cc pc = .ok (.if_icmp .eq off, 3)) (ht : (pc : Int) + off = (tgt : Int)) (kt : x = y → fV D Wd Ok A nL p l e R s m args below meth c cells slots Q st tgt lv rest) (kf : ¬ x = y → fV D Wd Ok A nL p l e R s m args below meth c cells slots Q st (pc + 3) lv rest) : fV D Wd Ok A nL p l e R s m args below meth c cells slots Q st pc lv (.int (zI y) :: .int (zI x) :: rest) := fun H locs ls hP hO hS hl => lv_icmp_eq C.1.1 C.1.2.1 hdg ht (fun q => kt ((zI_eq hx hy).mp q) H locs ls hP hO hS hl) (fun q => kf (mt (zI_eq hx hy).mpr q) H locs ls hP hO hS hl)
theorem f_if_eq (C : fC p m c cc nL s args Ts own D tys E A) {x off : Int} (tgt : Nat) (hx : in32 x) (hdg : decode cc pc = .ok (.ifCond .eq off, 3)) (ht : (pc : Int) + off = (tgt : Int)) (kt : x = 0 → fV D Wd Ok A nL p l e R s m args below meth c cells slots Q st tgt lv rest) (kf : ¬ x = 0 → fV D Wd Ok A nL p l e R s m args below meth c cells slots Q st (pc + 3) lv rest) : fV D Wd Ok A nL p l e R s m args below meth c cells slots Q st pc lv (.int (zI x) :: rest) := fun H locs ls hP hO hS hl => lv_if_eq C.1.1 C.1.2.1 hdg ht (fun q => kt ((zI_eq hx ⟨by decide, by decide⟩).mp q) H locs ls hP hO hS hl) (fun q => kf (mt (zI_eq hx ⟨by decide, by decide⟩).mpr q) H locs ls hP hO hS hl)
theorem f_icmp_ne (C : fC p m c cc nL s args Ts own D tys E A) {x y off : Int} (tgt : Nat) (hx : in32 x) (hy : in32 y) (hdg : decode cc pc = .ok (.if_icmp .ne off, 3)) (ht : (pc : Int) + off = (tgt : Int)) (kt : ¬ x = y → fV D Wd Ok A nL p l e R s m args below meth c cells slots Q st tgt lv rest) (kf : x = y → fV D Wd Ok A nL p l e R s m args below meth c cells slots Q st (pc + 3) lv rest) : fV D Wd Ok A nL p l e R s m args below meth c cells slots Q st pc lv (.int (zI y) :: .int (zI x) :: rest) := fun H locs ls hP hO hS hl => lv_icmp_ne C.1.1 C.1.2.1 hdg ht (fun q => kt (mt (zI_eq hx hy).mpr q) H locs ls hP hO hS hl) (fun q => kf ((zI_eq hx hy).mp q) H locs ls hP hO hS hl)
theorem f_if_ne (C : fC p m c cc nL s args Ts own D tys E A) {x off : Int} (tgt : Nat) (hx : in32 x) (hdg : decode cc pc = .ok (.ifCond .ne off, 3)) (ht : (pc : Int) + off = (tgt : Int)) (kt : ¬ x = 0 → fV D Wd Ok A nL p l e R s m args below meth c cells slots Q st tgt lv rest) (kf : x = 0 → fV D Wd Ok A nL p l e R s m args below meth c cells slots Q st (pc + 3) lv rest) : fV D Wd Ok A nL p l e R s m args below meth c cells slots Q st pc lv (.int (zI x) :: rest) := fun H locs ls hP hO hS hl => lv_if_ne C.1.1 C.1.2.1 hdg ht (fun q => kt (mt (zI_eq hx ⟨by decide, by decide⟩).mpr q) H locs ls hP hO hS hl) (fun q => kf ((zI_eq hx ⟨by decide, by decide⟩).mp q) H locs ls hP hO hS hl)
theorem f_icmp_lt (C : fC p m c cc nL s args Ts own D tys E A) {x y off : Int} (tgt : Nat) (hx : in32 x) (hy : in32 y) (hdg : decode cc pc = .ok (.if_icmp .lt off, 3)) (ht : (pc : Int) + off = (tgt : Int)) (kt : x < y → fV D Wd Ok A nL p l e R s m args below meth c cells slots Q st tgt lv rest) (kf : ¬ x < y → fV D Wd Ok A nL p l e R s m args below meth c cells slots Q st (pc + 3) lv rest) : fV D Wd Ok A nL p l e R s m args below meth c cells slots Q st pc lv (.int (zI y) :: .int (zI x) :: rest) := fun H locs ls hP hO hS hl => lv_icmp_lt C.1.1 C.1.2.1 hdg ht (fun q => kt ((zI_lt hx hy).mp q) H locs ls hP hO hS hl) (fun q => kf (mt (zI_lt hx hy).mpr q) H locs ls hP hO hS hl)
theorem f_if_lt (C : fC p m c cc nL s args Ts own D tys E A) {x off : Int} (tgt : Nat) (hx : in32 x) (hdg : decode cc pc = .ok (.ifCond .lt off, 3)) (ht : (pc : Int) + off = (tgt : Int)) (kt : x < 0 → fV D Wd Ok A nL p l e R s m args below meth c cells slots Q st tgt lv rest) (kf : ¬ x < 0 → fV D Wd Ok A nL p l e R s m args below meth c cells slots Q st (pc + 3) lv rest) : fV D Wd Ok A nL p l e R s m args below meth c cells slots Q st pc lv (.int (zI x) :: rest) := fun H locs ls hP hO hS hl => lv_if_lt C.1.1 C.1.2.1 hdg ht (fun q => kt ((zI_lt hx ⟨by decide, by decide⟩).mp q) H locs ls hP hO hS hl) (fun q => kf (mt (zI_lt hx ⟨by decide, by decide⟩).mpr q) H locs ls hP hO hS hl)
theorem f_icmp_ge (C : fC p m c cc nL s args Ts own D tys E A) {x y off : Int} (tgt : Nat) (hx : in32 x) (hy : in32 y) (hdg : decode cc pc = .ok (.if_icmp .ge off, 3)) (ht : (pc : Int) + off = (tgt : Int)) (kt : y ≤ x → fV D Wd Ok A nL p l e R s m args below meth c cells slots Q st tgt lv rest) (kf : ¬ y ≤ x → fV D Wd Ok A nL p l e R s m args below meth c cells slots Q st (pc + 3) lv rest) : fV D Wd Ok A nL p l e R s m args below meth c cells slots Q st pc lv (.int (zI y) :: .int (zI x) :: rest) := fun H locs ls hP hO hS hl => lv_icmp_ge C.1.1 C.1.2.1 hdg ht (fun q => kt ((zI_le hy hx).mp q) H locs ls hP hO hS hl) (fun q => kf (mt (zI_le hy hx).mpr q) H locs ls hP hO hS hl)
theorem f_if_ge (C : fC p m c cc nL s args Ts own D tys E A) {x off : Int} (tgt : Nat) (hx : in32 x) (hdg : decode cc pc = .ok (.ifCond .ge off, 3)) (ht : (pc : Int) + off = (tgt : Int)) (kt : 0 ≤ x → fV D Wd Ok A nL p l e R s m args below meth c cells slots Q st tgt lv rest) (kf : ¬ 0 ≤ x → fV D Wd Ok A nL p l e R s m args below meth c cells slots Q st (pc + 3) lv rest) : fV D Wd Ok A nL p l e R s m args below meth c cells slots Q st pc lv (.int (zI x) :: rest) := fun H locs ls hP hO hS hl => lv_if_ge C.1.1 C.1.2.1 hdg ht (fun q => kt ((zI_le ⟨by decide, by decide⟩ hx).mp q) H locs ls hP hO hS hl) (fun q => kf (mt (zI_le ⟨by decide, by decide⟩ hx).mpr q) H locs ls hP hO hS hl)
theorem f_icmp_gt (C : fC p m c cc nL s args Ts own D tys E A) {x y off : Int} (tgt : Nat) (hx : in32 x) (hy : in32 y) (hdg : decode cc pc = .ok (.if_icmp .gt off, 3)) (ht : (pc : Int) + off = (tgt : Int)) (kt : y < x → fV D Wd Ok A nL p l e R s m args below meth c cells slots Q st tgt lv rest) (kf : ¬ y < x → fV D Wd Ok A nL p l e R s m args below meth c cells slots Q st (pc + 3) lv rest) : fV D Wd Ok A nL p l e R s m args below meth c cells slots Q st pc lv (.int (zI y) :: .int (zI x) :: rest) := fun H locs ls hP hO hS hl => lv_icmp_gt C.1.1 C.1.2.1 hdg ht (fun q => kt ((zI_lt hy hx).mp q) H locs ls hP hO hS hl) (fun q => kf (mt (zI_lt hy hx).mpr q) H locs ls hP hO hS hl)
theorem f_if_gt (C : fC p m c cc nL s args Ts own D tys E A) {x off : Int} (tgt : Nat) (hx : in32 x) (hdg : decode cc pc = .ok (.ifCond .gt off, 3)) (ht : (pc : Int) + off = (tgt : Int)) (kt : 0 < x → fV D Wd Ok A nL p l e R s m args below meth c cells slots Q st tgt lv rest) (kf : ¬ 0 < x → fV D Wd Ok A nL p l e R s m args below meth c cells slots Q st (pc + 3) lv rest) : fV D Wd Ok A nL p l e R s m args below meth c cells slots Q st pc lv (.int (zI x) :: rest) := fun H locs ls hP hO hS hl => lv_if_gt C.1.1 C.1.2.1 hdg ht (fun q => kt ((zI_lt ⟨by decide, by decide⟩ hx).mp q) H locs ls hP hO hS hl) (fun q => kf (mt (zI_lt ⟨by decide, by decide⟩ hx).mpr q) H locs ls hP hO hS hl)
theorem f_icmp_le (C : fC p m c cc nL s args Ts own D tys E A) {x y off : Int} (tgt : Nat) (hx : in32 x) (hy : in32 y) (hdg : decode cc pc = .ok (.if_icmp .le off, 3)) (ht : (pc : Int) + off = (tgt : Int)) (kt : x ≤ y → fV D Wd Ok A nL p l e R s m args below meth c cells slots Q st tgt lv rest) (kf : ¬ x ≤ y → fV D Wd Ok A nL p l e R s m args below meth c cells slots Q st (pc + 3) lv rest) : fV D Wd Ok A nL p l e R s m args below meth c cells slots Q st pc lv (.int (zI y) :: .int (zI x) :: rest) := fun H locs ls hP hO hS hl => lv_icmp_le C.1.1 C.1.2.1 hdg ht (fun q => kt ((zI_le hx hy).mp q) H locs ls hP hO hS hl) (fun q => kf (mt (zI_le hx hy).mpr q) H locs ls hP hO hS hl)
theorem f_if_le (C : fC p m c cc nL s args Ts own D tys E A) {x off : Int} (tgt : Nat) (hx : in32 x) (hdg : decode cc pc = .ok (.ifCond .le off, 3)) (ht : (pc : Int) + off = (tgt : Int)) (kt : x ≤ 0 → fV D Wd Ok A nL p l e R s m args below meth c cells slots Q st tgt lv rest) (kf : ¬ x ≤ 0 → fV D Wd Ok A nL p l e R s m args below meth c cells slots Q st (pc + 3) lv rest) : fV D Wd Ok A nL p l e R s m args below meth c cells slots Q st pc lv (.int (zI x) :: rest) := fun H locs ls hP hO hS hl => lv_if_le C.1.1 C.1.2.1 hdg ht (fun q => kt ((zI_le hx ⟨by decide, by decide⟩).mp q) H locs ls hP hO hS hl) (fun q => kf (mt (zI_le hx ⟨by decide, by decide⟩).mpr q) H locs ls hP hO hS hl)
theorem f_lc_if_eq (C : fC p m c cc nL s args Ts own D tys E A) {x y off : Int} (tgt : Nat) (hx : in64 x) (hy : in64 y) (hd1 : decode cc pc = .ok (.lcmp, 1)) (hdg : decode cc (pc + 1) = .ok (.ifCond .eq off, 3)) (ht : ((pc + 1 : Nat) : Int) + off = (tgt : Int)) (kt : x = y → fV D Wd Ok A nL p l e R s m args below meth c cells slots Q st tgt lv rest) (kf : ¬ x = y → fV D Wd Ok A nL p l e R s m args below meth c cells slots Q st (pc + 4) lv rest) : fV D Wd Ok A nL p l e R s m args below meth c cells slots Q st pc lv (.long (zJ y) :: .long (zJ x) :: rest) := fun H locs ls hP hO hS hl => W.lcmp C.1.1 C.1.2.1 hd1 (lv_if_eq C.1.1 C.1.2.1 hdg ht (fun q => kt ((f_lc_eq hx hy).mp q) H locs ls hP hO hS hl) (fun q => kf (mt (f_lc_eq hx hy).mpr q) H locs ls hP hO hS hl))
theorem f_lc_if_ne (C : fC p m c cc nL s args Ts own D tys E A) {x y off : Int} (tgt : Nat) (hx : in64 x) (hy : in64 y) (hd1 : decode cc pc = .ok (.lcmp, 1)) (hdg : decode cc (pc + 1) = .ok (.ifCond .ne off, 3)) (ht : ((pc + 1 : Nat) : Int) + off = (tgt : Int)) (kt : ¬ x = y → fV D Wd Ok A nL p l e R s m args below meth c cells slots Q st tgt lv rest) (kf : x = y → fV D Wd Ok A nL p l e R s m args below meth c cells slots Q st (pc + 4) lv rest) : fV D Wd Ok A nL p l e R s m args below meth c cells slots Q st pc lv (.long (zJ y) :: .long (zJ x) :: rest) := fun H locs ls hP hO hS hl => W.lcmp C.1.1 C.1.2.1 hd1 (lv_if_ne C.1.1 C.1.2.1 hdg ht (fun q => kt (mt (f_lc_eq hx hy).mpr q) H locs ls hP hO hS hl) (fun q => kf ((f_lc_eq hx hy).mp q) H locs ls hP hO hS hl))
theorem f_lc_if_lt (C : fC p m c cc nL s args Ts own D tys E A) {x y off : Int} (tgt : Nat) (hx : in64 x) (hy : in64 y) (hd1 : decode cc pc = .ok (.lcmp, 1)) (hdg : decode cc (pc + 1) = .ok (.ifCond .lt off, 3)) (ht : ((pc + 1 : Nat) : Int) + off = (tgt : Int)) (kt : x < y → fV D Wd Ok A nL p l e R s m args below meth c cells slots Q st tgt lv rest) (kf : ¬ x < y → fV D Wd Ok A nL p l e R s m args below meth c cells slots Q st (pc + 4) lv rest) : fV D Wd Ok A nL p l e R s m args below meth c cells slots Q st pc lv (.long (zJ y) :: .long (zJ x) :: rest) := fun H locs ls hP hO hS hl => W.lcmp C.1.1 C.1.2.1 hd1 (lv_if_lt C.1.1 C.1.2.1 hdg ht (fun q => kt ((f_lc_lt hx hy).mp q) H locs ls hP hO hS hl) (fun q => kf (mt (f_lc_lt hx hy).mpr q) H locs ls hP hO hS hl))
theorem f_lc_if_ge (C : fC p m c cc nL s args Ts own D tys E A) {x y off : Int} (tgt : Nat) (hx : in64 x) (hy : in64 y) (hd1 : decode cc pc = .ok (.lcmp, 1)) (hdg : decode cc (pc + 1) = .ok (.ifCond .ge off, 3)) (ht : ((pc + 1 : Nat) : Int) + off = (tgt : Int)) (kt : y ≤ x → fV D Wd Ok A nL p l e R s m args below meth c cells slots Q st tgt lv rest) (kf : ¬ y ≤ x → fV D Wd Ok A nL p l e R s m args below meth c cells slots Q st (pc + 4) lv rest) : fV D Wd Ok A nL p l e R s m args below meth c cells slots Q st pc lv (.long (zJ y) :: .long (zJ x) :: rest) := fun H locs ls hP hO hS hl => W.lcmp C.1.1 C.1.2.1 hd1 (lv_if_ge C.1.1 C.1.2.1 hdg ht (fun q => kt ((f_lc_ge hx hy).mp q) H locs ls hP hO hS hl) (fun q => kf (mt (f_lc_ge hx hy).mpr q) H locs ls hP hO hS hl))
theorem f_lc_if_gt (C : fC p m c cc nL s args Ts own D tys E A) {x y off : Int} (tgt : Nat) (hx : in64 x) (hy : in64 y) (hd1 : decode cc pc = .ok (.lcmp, 1)) (hdg : decode cc (pc + 1) = .ok (.ifCond .gt off, 3)) (ht : ((pc + 1 : Nat) : Int) + off = (tgt : Int)) (kt : y < x → fV D Wd Ok A nL p l e R s m args below meth c cells slots Q st tgt lv rest) (kf : ¬ y < x → fV D Wd Ok A nL p l e R s m args below meth c cells slots Q st (pc + 4) lv rest) : fV D Wd Ok A nL p l e R s m args below meth c cells slots Q st pc lv (.long (zJ y) :: .long (zJ x) :: rest) := fun H locs ls hP hO hS hl => W.lcmp C.1.1 C.1.2.1 hd1 (lv_if_gt C.1.1 C.1.2.1 hdg ht (fun q => kt ((f_lc_gt hx hy).mp q) H locs ls hP hO hS hl) (fun q => kf (mt (f_lc_gt hx hy).mpr q) H locs ls hP hO hS hl))
theorem f_lc_if_le (C : fC p m c cc nL s args Ts own D tys E A) {x y off : Int} (tgt : Nat) (hx : in64 x) (hy : in64 y) (hd1 : decode cc pc = .ok (.lcmp, 1)) (hdg : decode cc (pc + 1) = .ok (.ifCond .le off, 3)) (ht : ((pc + 1 : Nat) : Int) + off = (tgt : Int)) (kt : x ≤ y → fV D Wd Ok A nL p l e R s m args below meth c cells slots Q st tgt lv rest) (kf : ¬ x ≤ y → fV D Wd Ok A nL p l e R s m args below meth c cells slots Q st (pc + 4) lv rest) : fV D Wd Ok A nL p l e R s m args below meth c cells slots Q st pc lv (.long (zJ y) :: .long (zJ x) :: rest) := fun H locs ls hP hO hS hl => W.lcmp C.1.1 C.1.2.1 hd1 (lv_if_le C.1.1 C.1.2.1 hdg ht (fun q => kt ((f_lc_le hx hy).mp q) H locs ls hP hO hS hl) (fun q => kf (mt (f_lc_le hx hy).mpr q) H locs ls hP hO hS hl))
end FV
end
section
/-! ===== PART 04: contracts over a state, calls, ends ===== -/
abbrev fPre {σ : Type} (D : va_G) (tys : List (ClassId × FieldType)) (E : State → Prop) (Wd : σ → va_W) (Ok : σ → Prop) (st : σ) : State → Prop := fun U => va_P D vwCl (Wd st) U.heap ∧ va_K D vwCl tys U ∧ E U ∧ Ok st
abbrev fPost {σ : Type} (D : va_G) (Wd : σ → va_W) (Ok : σ → Prop) : σ → State → Prop := fun u t => va_P D vwCl (Wd u) t.heap ∧ Ok u
abbrev fQi {σ : Type} (D : va_G) (Wd : σ → va_W) (Ok : σ → Prop) (A : Nat → Prop) (post : Int → σ → Prop) : Array Value → State → Outcome → State → Prop := va_Qi (fun (r : Int32) (u : σ) => ∃ z : Int, in32 z ∧ r = zI z ∧ post z u) (fPost D Wd Ok) A
abbrev fQl {σ : Type} (D : va_G) (Wd : σ → va_W) (Ok : σ → Prop) (A : Nat → Prop) (post : Int → σ → Prop) : Array Value → State → Outcome → State → Prop := va_Ql (fun (r : Int64) (u : σ) => ∃ z : Int, in64 z ∧ r = zJ z ∧ post z u) (fPost D Wd Ok) A
abbrev fQv {σ : Type} (D : va_G) (Wd : σ → va_W) (Ok : σ → Prop) (A : Nat → Prop) (post : σ → Prop) : Array Value → State → Outcome → State → Prop := va_Qv (fun u : σ => post u) (fPost D Wd Ok) A
def fMi {σ : Type} (l : Launch) (y : MethodName) (ws : List Cond) (rm : Room) (D : va_G) (tys : List (ClassId × FieldType)) (E : State → Prop) (Wd : σ → va_W) (Ok : σ → Prop) (A : Nat → Prop) (av : List Value) (st : σ) (post : Int → σ → Prop) : Prop := Met l y ws rm (va_Pc av (fPre D tys E Wd Ok st)) (fQi D Wd Ok A post) 0 0 A
def fMl {σ : Type} (l : Launch) (y : MethodName) (ws : List Cond) (rm : Room) (D : va_G) (tys : List (ClassId × FieldType)) (E : State → Prop) (Wd : σ → va_W) (Ok : σ → Prop) (A : Nat → Prop) (av : List Value) (st : σ) (post : Int → σ → Prop) : Prop := Met l y ws rm (va_Pc av (fPre D tys E Wd Ok st)) (fQl D Wd Ok A post) 0 0 A
def fMv {σ : Type} (l : Launch) (y : MethodName) (ws : List Cond) (rm : Room) (D : va_G) (tys : List (ClassId × FieldType)) (E : State → Prop) (Wd : σ → va_W) (Ok : σ → Prop) (A : Nat → Prop) (av : List Value) (st : σ) (post : σ → Prop) : Prop := Met l y ws rm (va_Pc av (fPre D tys E Wd Ok st)) (fQv D Wd Ok A post) 0 0 A
abbrev fMQ (below : List Frame) (Qc : Array Value → State → Outcome → State → Prop) (args : Array Value) (s : State) (A : Nat → Prop) : State → Prop := MQ below Qc args s 0 0 A
section FB
variable {σ : Type} {D : va_G} {Wd : σ → va_W} {Ok : σ → Prop} {A : Nat → Prop} {tys : List (ClassId × FieldType)} {E : State → Prop} {l : Launch} {y : MethodName} {ws ws' : List Cond} {rm : Room} {av : List Value} {st : σ} {cc : ByteArray} {maxL : Nat}
theorem fB_open {ret : Option FieldType} {Qc : Array Value → State → Outcome → State → Prop} (hy : plainName y.cls = true) (hw : ws = Cond.code y cc maxL ret :: ws') (hn : (lg_sl av).length ≤ maxL) (hE : fSt A E)
    (body : ∀ (p : Program) (e : Env) (s : State) (m : MethodId) (below : List Frame) (meth : Method) (c : Code), fC p m c cc maxL s av.toArray ws y.cls D tys E A → meth.sig.returnType = ret → meth.locks = false → fV D Wd Ok A maxL p l e rm s m av.toArray below meth c 0 0 (fMQ below Qc av.toArray s A) st 0 (lv_args 0 av) []) :
    Met l y ws rm (va_Pc av (fPre D tys E Wd Ok st)) Qc 0 0 A := by
  refine Met.ofW (cc := cc) (maxL := maxL) (ret := ret) hy hw ?_
  intro p e s m args below meth c s₁ B hml hv
  obtain ⟨rfl, hP, hK, hE1, hO⟩ := hv
  have hts := atoms_spec (ws := ws) B.pre
  have hl := lv_entry av (n := maxL) hn
  rw [lg_entry_eq]
  exact body p e s m below meth c ⟨⟨B.exec, B.bytes, hml, findClass_of_methodNamed B.named, hts⟩, hK, hE1, hE⟩ B.returns B.notSynchronized s.heap [] _ hP hO va_S.rf hl
end FB
section FR
variable {σ : Type} {D : va_G} {Wd : σ → va_W} {Ok : σ → Prop} {A : Nat → Prop} {nL : Nat} {p : Program} {l : Launch} {e : Env} {R : Room} {s : State} {m : MethodId} {args : Array Value} {below : List Frame} {meth : Method} {c : Code}
variable {cc : ByteArray} {Ts : List Cond} {own : String} {tys : List (ClassId × FieldType)} {E : State → Prop} {st : σ} {pc : Nat} {lv : List (Nat × Value)} {rest : List Value}
theorem f_iret {post : Int → σ → Prop} {z : Int} (C : fC p m c cc nL s args Ts own D tys E A) (hr : meth.sig.returnType = some .int) (hlk : meth.locks = false) (hdg : decode cc pc = .ok (.ireturn, 1)) (hz : in32 z) (hp : post z st) : fV D Wd Ok A nL p l e R s m args below meth c 0 0 (fMQ below (fQi D Wd Ok A post) args s A) st pc lv [.int (zI z)] := fun H locs ls hP hO hS hl => W.iret C.1.1 C.1.2.1 hr (fun t ht hW => ⟨⟨zI z, st, rfl, ⟨z, hz, rfl, hp⟩, by rw [ht]; exact hP, hO⟩, hS.F ht⟩) hS.2.2 hdg hlk
theorem f_zret {post : Int → σ → Prop} {z : Int} (C : fC p m c cc nL s args Ts own D tys E A) (hr : meth.sig.returnType = some .boolean) (hlk : meth.locks = false) (hdg : decode cc pc = .ok (.ireturn, 1)) (hz : z = 0 ∨ z = 1) (hp : post z st) : fV D Wd Ok A nL p l e R s m args below meth c 0 0 (fMQ below (fQi D Wd Ok A post) args s A) st pc lv [.int (zI z)] := fun H locs ls hP hO hS hl => W.zret C.1.1 C.1.2.1 hr (by rcases hz with rfl | rfl <;> rfl) (fun t ht hW => ⟨⟨zI z, st, rfl, ⟨z, by rcases hz with rfl | rfl <;> exact ⟨by decide, by decide⟩, rfl, hp⟩, by rw [ht]; exact hP, hO⟩, hS.F ht⟩) hS.2.2 hdg hlk
theorem f_lret {post : Int → σ → Prop} {z : Int} (C : fC p m c cc nL s args Ts own D tys E A) (hr : meth.sig.returnType = some .long) (hlk : meth.locks = false) (hdg : decode cc pc = .ok (.lreturn, 1)) (hz : in64 z) (hp : post z st) : fV D Wd Ok A nL p l e R s m args below meth c 0 0 (fMQ below (fQl D Wd Ok A post) args s A) st pc lv [.long (zJ z)] := fun H locs ls hP hO hS hl => W.lret C.1.1 C.1.2.1 hr (fun t ht hW => ⟨⟨zJ z, st, rfl, ⟨z, hz, rfl, hp⟩, by rw [ht]; exact hP, hO⟩, hS.F ht⟩) hS.2.2 hdg hlk
theorem f_vret {post : σ → Prop} (C : fC p m c cc nL s args Ts own D tys E A) (hr : meth.sig.returnType = none) (hlk : meth.locks = false) (hdg : decode cc pc = .ok (.return_, 1)) (hp : post st) : fV D Wd Ok A nL p l e R s m args below meth c 0 0 (fMQ below (fQv D Wd Ok A post) args s A) st pc lv [] := fun H locs ls hP hO hS hl => W.vret C.1.1 C.1.2.1 hr (fun t ht hW => ⟨⟨st, rfl, hp, by rw [ht]; exact hP, hO⟩, hS.F ht⟩) hS.2.2 hdg hlk
end FR
section FG
variable {σ : Type} {D : va_G} {Wd : σ → va_W} {Ok : σ → Prop} {A : Nat → Prop} {nL : Nat} {p : Program} {l : Launch} {e : Env} {R : Room} {s : State} {m : MethodId} {args : Array Value} {below : List Frame} {meth : Method} {c : Code} {cells slots : Nat} {Q : State → Prop}
variable {cc : ByteArray} {Ts : List Cond} {own : String} {tys : List (ClassId × FieldType)} {E : State → Prop} {st : σ} {pc : Nat} {lv : List (Nat × Value)} {rest : List Value}
/-- a field is read -/
theorem f_get (C : fC p m c cc nL s args Ts own D tys E A) {C0 ref : String} {T : u_T} {N ci index b : Nat} {fs : List Value} {v : Value} (hin : ∀ w ∈ u_ws C0 T N, w ∈ Ts) (q0 k : Nat) (he : (Wd st)[q0]? = some (b, .inr (ci, fs))) (hc : vwCl[ci]? = some (C0, T, N)) (hk : k < N) (hl : Cond.fieldLink own index ref (T k).2.1 (T k).2.2.1 ∈ Ts) (hs : (T k).1 = ref) (hv : fs[k]? = some v) (hdg : decode cc pc = .ok (.getfield index, 3))
    (kk : fV D Wd Ok A nL p l e R s m args below meth c cells slots Q st (pc + 3) lv (v :: rest)) : fV D Wd Ok A nL p l e R s m args below meth c cells slots Q st pc lv (.ref b :: rest) := fun H locs ls hP hO hS h => va_get C.1.1 C.1.2.1 C.1.2.2.2.2 hin C.1.2.2.2.1 C.2.1 hP q0 he hc k hk (C.1.2.2.2.2 _ hl) (fun x h9 => by rw [← hs]; exact h9) hv hdg (kk H locs ls hP hO hS h)
/-- a field is written -/
theorem f_put (C : fC p m c cc nL s args Ts own D tys E A) {C0 ref : String} {T : u_T} {N ci index b : Nat} {fs : List Value} {v : Value} {ty : FieldType} {u : σ} (hDs : ∀ x : σ, va_D A (Wd x)) (hin : ∀ w ∈ u_ws C0 T N, w ∈ Ts) (ty0 : Nat → FieldType) (hty : ∀ k, k < N → parseFieldDescriptor (T k).2.2.1 = some (ty0 k)) (hnm : ∀ a, a < N → ∀ b, b < N → a ≠ b → (T a).2.1 ≠ (T b).2.1) (q0 k : Nat) (he : (Wd st)[q0]? = some (b, .inr (ci, fs))) (hc : vwCl[ci]? = some (C0, T, N)) (hk : k < N) (hl : Cond.fieldLink own index ref (T k).2.1 (T k).2.2.1 ∈ Ts) (hs : (T k).1 = ref) (hfin : (T k).2.2.2 = false) (hd : parseFieldDescriptor (T k).2.2.1 = some ty) (hn : narrow ty v = v) (hfit : fits ty v = true) (hlen : k < fs.length) (hu : (Wd st).set q0 (b, .inr (ci, fs.set k v)) = Wd u) (hok : Ok st → Ok u) (hdg : decode cc pc = .ok (.putfield index, 3))
    (kk : fV D Wd Ok A nL p l e R s m args below meth c cells slots Q u (pc + 3) lv rest) : fV D Wd Ok A nL p l e R s m args below meth c cells slots Q st pc lv (v :: .ref b :: rest) := fun H locs ls hP hO hS h => va_put C.1.1 C.1.2.1 C.1.2.2.2.2 hin ty0 hty hnm C.1.2.2.2.1 C.2.1 hP (hDs st) hS q0 he hc k hk (C.1.2.2.2.2 _ hl) (fun x h9 => by rw [← hs]; exact h9) hfin hd hn hfit hlen hdg (fun H1 locs1 hP1 _ hS1 => kk H1 locs1 ls (hu ▸ hP1) (hok hO) hS1 h)
variable {y : MethodName} {bytes : ByteArray} {maxL n index : Nat} {ws : List Cond} {rm : Room} {Cn : String} {b : Addr} {As : List Value} {u0 : σ}
theorem fPre_blind (D : va_G) (tys : List (ClassId × FieldType)) (E : State → Prop) (Wd : σ → va_W) (Ok : σ → Prop) (st : σ) (av : List Value) (A : Nat → Prop) (hE : fSt A E) : FrameBlind (va_Pc av (fPre D tys E Wd Ok st)) := by
  intro a U g mk q
  obtain ⟨q0, q1, q2, q3, q4⟩ := q
  exact ⟨q0, q1, va_K.moved (u := U) (U := U.calling g mk a) (Vm.Alike.refl U.vm) q2, hE.2 U g mk a q3, q4⟩
theorem f_room {pc : Nat} {ls : Array Slot} {m : MethodId} {st0 rest : List Value} (h : (rest.map fun v => v.category).sum ≤ 8) : 2 * (F0 m pc ls st0).monitorRoom + (rest.map fun v => v.category).sum ≤ 8 := lv_room (rest := st0) (pc := pc) (ls := ls) (m := m) h
theorem f_calli {post : Int → σ → Prop} {ret : Option FieldType} {q : vw_C} {ci : Nat} {fs : List Value} (C : fC p m c cc nL s args Ts own D tys E A) (hM : fMi l y ws rm D tys E Wd Ok A (.ref b :: As) st post) (cw : CallW R s args own Cn index y bytes maxL ret ws rm 0 0 n) (q0 : Nat) (hr : (Wd st)[q0]? = some (b, .inr (ci, fs))) (hq : vwCl[ci]? = some q) (hqn : q.1 = Cn) (hn : As.length = n) {stk : List Value} (hstk : stk = As.reverse ++ .ref b :: rest) (hrm : (rest.map fun v => v.category).sum ≤ 8) (hf : cells ≤ R.cells ∧ slots ≤ R.slots) (hdg : decode cc pc = .ok (.invokevirtual index, 3))
    (kk : ∀ (z : Int) (u : σ), in32 z → post z u → fV D Wd Ok A nL p l e R s m args below meth c cells slots Q u (pc + 3) lv (.int (zI z) :: rest)) : fV D Wd Ok A nL p l e R s m args below meth c cells slots Q st pc lv stk := by
  intro H locs ls hP hO hS hl
  refine va_calli (A1 := A) (va_runV C.1 hM cw ⟨fPre_blind D tys E Wd Ok st _ A C.2.2.2, by rw [← hqn]; exact va_recv C.2.1 hP hq hr, fun U hU hW => ⟨rfl, by rw [hU]; exact hP, va_K.moved hW.alike C.2.1, C.2.2.2.1 s U hW (by rw [hU]; exact hS.1) (by rw [hU]; exact hS.2.1) C.2.2.1, hO⟩⟩ rfl hn hl.1 hstk (f_room hrm) hdg hf) hS (fun _ _ h => h) (fun _ h => h) ?_
  intro r u t H1 locs1 ht hvm hp hB hz hk hS1
  obtain ⟨z, hz1, rfl, hp⟩ := hp
  exact kk z u hz1 hp H1 locs1 ls (by rw [← ht]; exact hB.1) hB.2 hS1 hl
theorem f_calll {post : Int → σ → Prop} {ret : Option FieldType} {q : vw_C} {ci : Nat} {fs : List Value} (C : fC p m c cc nL s args Ts own D tys E A) (hM : fMl l y ws rm D tys E Wd Ok A (.ref b :: As) st post) (cw : CallW R s args own Cn index y bytes maxL ret ws rm 0 0 n) (q0 : Nat) (hr : (Wd st)[q0]? = some (b, .inr (ci, fs))) (hq : vwCl[ci]? = some q) (hqn : q.1 = Cn) (hn : As.length = n) {stk : List Value} (hstk : stk = As.reverse ++ .ref b :: rest) (hrm : (rest.map fun v => v.category).sum ≤ 8) (hf : cells ≤ R.cells ∧ slots ≤ R.slots) (hdg : decode cc pc = .ok (.invokevirtual index, 3))
    (kk : ∀ (z : Int) (u : σ), in64 z → post z u → fV D Wd Ok A nL p l e R s m args below meth c cells slots Q u (pc + 3) lv (.long (zJ z) :: rest)) : fV D Wd Ok A nL p l e R s m args below meth c cells slots Q st pc lv stk := by
  intro H locs ls hP hO hS hl
  refine va_calll (A1 := A) (va_runV C.1 hM cw ⟨fPre_blind D tys E Wd Ok st _ A C.2.2.2, by rw [← hqn]; exact va_recv C.2.1 hP hq hr, fun U hU hW => ⟨rfl, by rw [hU]; exact hP, va_K.moved hW.alike C.2.1, C.2.2.2.1 s U hW (by rw [hU]; exact hS.1) (by rw [hU]; exact hS.2.1) C.2.2.1, hO⟩⟩ rfl hn hl.1 hstk (f_room hrm) hdg hf) hS (fun _ _ h => h) (fun _ h => h) ?_
  intro r u t H1 locs1 ht hvm hp hB hz hk hS1
  obtain ⟨z, hz1, rfl, hp⟩ := hp
  exact kk z u hz1 hp H1 locs1 ls (by rw [← ht]; exact hB.1) hB.2 hS1 hl
theorem f_callv {post : σ → Prop} {ret : Option FieldType} {q : vw_C} {ci : Nat} {fs : List Value} (C : fC p m c cc nL s args Ts own D tys E A) (hM : fMv l y ws rm D tys E Wd Ok A (.ref b :: As) st post) (cw : CallW R s args own Cn index y bytes maxL ret ws rm 0 0 n) (q0 : Nat) (hr : (Wd st)[q0]? = some (b, .inr (ci, fs))) (hq : vwCl[ci]? = some q) (hqn : q.1 = Cn) (hn : As.length = n) {stk : List Value} (hstk : stk = As.reverse ++ .ref b :: rest) (hrm : (rest.map fun v => v.category).sum ≤ 8) (hf : cells ≤ R.cells ∧ slots ≤ R.slots) (hdg : decode cc pc = .ok (.invokevirtual index, 3))
    (kk : ∀ u : σ, post u → fV D Wd Ok A nL p l e R s m args below meth c cells slots Q u (pc + 3) lv rest) : fV D Wd Ok A nL p l e R s m args below meth c cells slots Q st pc lv stk := by
  intro H locs ls hP hO hS hl
  refine va_callv (A1 := A) (va_runV C.1 hM cw ⟨fPre_blind D tys E Wd Ok st _ A C.2.2.2, by rw [← hqn]; exact va_recv C.2.1 hP hq hr, fun U hU hW => ⟨rfl, by rw [hU]; exact hP, va_K.moved hW.alike C.2.1, C.2.2.2.1 s U hW (by rw [hU]; exact hS.1) (by rw [hU]; exact hS.2.1) C.2.2.1, hO⟩⟩ rfl hn hl.1 hstk (f_room hrm) hdg hf) hS (fun _ _ h => h) (fun _ h => h) ?_
  intro u t H1 locs1 ht hvm hp hB hz hk hS1
  exact kk u hp H1 locs1 ls (by rw [← ht]; exact hB.1) hB.2 hS1 hl
/-- a static call that answers an int -/
theorem f_callsi {post : Int → σ → Prop} {ret : Option FieldType} (C : fC p m c cc nL s args Ts own D tys E A) (hM : fMi l y ws rm D tys E Wd Ok A As st post) (cw : CallB R s args own index y bytes maxL ret ws rm 0 0 n ∧ (Cond.static y).before args s = true) (hn : As.length = n) {stk : List Value} (hstk : stk = As.reverse ++ rest) (hrm : (rest.map fun v => v.category).sum ≤ 8) (hf : cells ≤ R.cells ∧ slots ≤ R.slots) (hdg : decode cc pc = .ok (.invokestatic index, 3))
    (kk : ∀ (z : Int) (u : σ), in32 z → post z u → fV D Wd Ok A nL p l e R s m args below meth c cells slots Q u (pc + 3) lv (.int (zI z) :: rest)) : fV D Wd Ok A nL p l e R s m args below meth c cells slots Q st pc lv stk := by
  intro H locs ls hP hO hS hl
  refine va_calli (A1 := A) (va_runS C.1 hM cw ⟨fPre_blind D tys E Wd Ok st _ A C.2.2.2, fun U hU hW => ⟨rfl, by rw [hU]; exact hP, va_K.moved hW.alike C.2.1, C.2.2.2.1 s U hW (by rw [hU]; exact hS.1) (by rw [hU]; exact hS.2.1) C.2.2.1, hO⟩⟩ rfl hn hl.1 hstk (f_room hrm) hdg hf) hS (fun _ _ h => h) (fun _ h => h) ?_
  intro r u t H1 locs1 ht hvm hp hB hz hk hS1
  obtain ⟨z, hz1, rfl, hp⟩ := hp
  exact kk z u hz1 hp H1 locs1 ls (by rw [← ht]; exact hB.1) hB.2 hS1 hl
end FG
end
section
/-! ===== PART 20: a state is a row of ints and rows of rows of ints; the class's world and the reference's ===== -/
abbrev fS : Type := (Nat → Int) × (Nat → Int → Int)
def sN (st : fS) (k : Nat) (v : Int) : fS := (fun j => bif Nat.beq j k then v else st.1 j, st.2)
def sR (st : fS) (k : Nat) (f : Int → Int) : fS := (st.1, fun j => bif Nat.beq j k then f else st.2 j)
theorem sN_1s (st : fS) (k : Nat) (v : Int) : (sN st k v).1 k = v := by simp [sN]
theorem sN_1n (st : fS) {k j : Nat} (v : Int) (h : j ≠ k) : (sN st k v).1 j = st.1 j := by
  have : Nat.beq j k = false := by
    cases e : Nat.beq j k with
    | true => exact absurd (Nat.eq_of_beq_eq_true e) h
    | false => rfl
  simp [sN, this]
theorem sN_2 (st : fS) (k : Nat) (v : Int) : (sN st k v).2 = st.2 := rfl
theorem sR_1 (st : fS) (k : Nat) (f : Int → Int) : (sR st k f).1 = st.1 := rfl
theorem sR_2s (st : fS) (k : Nat) (f : Int → Int) : (sR st k f).2 k = f := by simp [sR]
theorem sR_2n (st : fS) {k j : Nat} (f : Int → Int) (h : j ≠ k) : (sR st k f).2 j = st.2 j := by
  have : Nat.beq j k = false := by
    cases e : Nat.beq j k with
    | true => exact absurd (Nat.eq_of_beq_eq_true e) h
    | false => rfl
  simp [sR, this]
theorem sN_N (st : fS) (k : Nat) (v w : Int) : sN (sN st k v) k w = sN st k w := by
  refine Prod.ext ?_ rfl
  funext j
  show (bif Nat.beq j k then w else bif Nat.beq j k then v else st.1 j) = bif Nat.beq j k then w else st.1 j
  cases Nat.beq j k <;> rfl
theorem sR_R (st : fS) (k : Nat) (v w : Int → Int) : sR (sR st k v) k w = sR st k w := by
  refine Prod.ext rfl ?_
  funext j
  show (bif Nat.beq j k then w else bif Nat.beq j k then v else st.2 j) = bif Nat.beq j k then w else st.2 j
  cases Nat.beq j k <;> rfl
theorem sR_id (st : fS) (k : Nat) : sR st k (st.2 k) = st := by
  unfold sR
  refine Prod.ext rfl ?_
  funext j
  show (bif Nat.beq j k then st.2 k else st.2 j) = st.2 j
  cases h : Nat.beq j k with
  | true => rw [Nat.eq_of_beq_eq_true h]; rfl
  | false => rfl
/-- a row's place, 0 beyond its ends -/
def rget (n : Int) (f : Int → Int) (i : Int) : Int := if 0 ≤ i ∧ i < n then f i else 0
theorem rget_in {n : Int} {f : Int → Int} {i : Int} (h : 0 ≤ i ∧ i < n) : rget n f i = f i := if_pos h
theorem rget_out {n : Int} {f : Int → Int} {i : Int} (h : ¬ (0 ≤ i ∧ i < n)) : rget n f i = 0 := if_neg h
/-- the class's rows: how many places each has -/
def xLen : Nat → Nat
  | 0 => 4 | 1 => 24 | 2 => 480 | 3 => 24 | 4 => 24 | 5 => 24 | 6 => 24 | 7 => 24 | 8 => 600 | 9 => 6 | 10 => 6 | 11 => 6
  | 12 => 36 | 13 => 36 | 14 => 36 | 15 => 36 | 16 => 36 | 17 => 396 | 18 => 396 | 19 => 8 | 20 => 8 | 21 => 8 | 22 => 8 | 23 => 120
  | 24 => 24 | 25 => 24 | 26 => 24 | 27 => 24 | 28 => 552 | _ => 0
theorem xLen_le (r : Nat) : (xLen r : Int) ≤ 600 := by
  match r with
  | 0 | 1 | 2 | 3 | 4 | 5 | 6 | 7 | 8 | 9 | 10 | 11 | 12 | 13 | 14 | 15 | 16 | 17 | 18 | 19 | 20 | 21 | 22 | 23 | 24 | 25 | 26 | 27 | 28 => decide
  | n + 29 =>
    show (0 : Int) ≤ 600
    decide
def rput (n : Int) (f : Int → Int) (i v : Int) : Int → Int := if 0 ≤ i ∧ i < n then f_up f i v else f
theorem rput_in {n : Int} {f : Int → Int} {i : Int} (v : Int) (h : 0 ≤ i ∧ i < n) : rput n f i v = f_up f i v := if_pos h
theorem rput_out {n : Int} {f : Int → Int} {i : Int} (v : Int) (h : ¬ (0 ≤ i ∧ i < n)) : rput n f i v = f := if_neg h
def rset (st : fS) (r : Nat) (i v : Int) : fS := sR st r (rput (xLen r) (st.2 r) i v)
abbrev xRows (a : Nat → Nat) : va_W := (List.range 29).map (fun r => (a (8 + r), .inr (5, [.ref (a (37 + r))])))
abbrev xArrs (cJ : ClassId) (a : Nat → Nat) (st : fS) : va_W := (List.range 29).map (fun r => (a (37 + r), .inl (cJ, xLen r, .inr (.inl (fun j : Nat => zJ (st.2 r j))))))
def wX (cJ : ClassId) (a : Nat → Nat) (st : fS) : va_W :=
  [(a 0, .inr (8, [.ref (a 1), .ref (a 2), .ref (a 3), .ref (a 4), .ref (a 5), .ref (a 6), .ref (a 31), .ref (a 7)])),
   (a 1, .inr (3, [.ref (a 8), .ref (a 9), .ref (a 10), .int (zI (st.1 0))])),
   (a 2, .inr (1, [.ref (a 11), .ref (a 12), .ref (a 13), .ref (a 14), .ref (a 15), .int (zI (st.1 1))])),
   (a 3, .inr (7, [.ref (a 16), .int (zI (st.1 2)), .int (zI (st.1 3)), .int (zI (st.1 4)), .int (zI (st.1 5))])),
   (a 4, .inr (0, [.ref (a 17), .ref (a 18), .ref (a 19), .ref (a 20), .ref (a 21), .ref (a 22), .ref (a 23), .ref (a 24), .ref (a 25), .ref (a 26), .int (zI (st.1 6)), .int (zI (st.1 7))])),
   (a 5, .inr (6, [.ref (a 3), .ref (a 4)])),
   (a 6, .inr (4, [.ref (a 27), .ref (a 28), .ref (a 29), .ref (a 30), .int (zI (st.1 8))])),
   (a 7, .inr (2, [.ref (a 32), .ref (a 33), .ref (a 34), .ref (a 35), .ref (a 36), .int (zI (st.1 9)), .int (zI (st.1 10))]))]
  ++ (xRows a ++ xArrs cJ a st)
theorem xRows_len (a : Nat → Nat) : (xRows a).length = 29 := by simp [xRows]
theorem xArrs_len (cJ : ClassId) (a : Nat → Nat) (st : fS) : (xArrs cJ a st).length = 29 := by simp [xArrs]
theorem wX_row (cJ : ClassId) (a : Nat → Nat) (st : fS) {r : Nat} (hr : r < 29) : (wX cJ a st)[8 + r]? = some (a (8 + r), .inr (5, [.ref (a (37 + r))])) := by
  unfold wX
  rw [List.getElem?_append_right (by simp), List.getElem?_append_left (by simp; omega)]
  simp only [xRows, List.length_cons, List.length_nil, List.getElem?_map]
  rw [show 8 + r - (0 + 1 + 1 + 1 + 1 + 1 + 1 + 1 + 1) = r by omega, List.getElem?_range hr]
  rfl
theorem wX_arr (cJ : ClassId) (a : Nat → Nat) (st : fS) {r : Nat} (hr : r < 29) : (wX cJ a st)[37 + r]? = some (a (37 + r), .inl (cJ, xLen r, .inr (.inl (fun j : Nat => zJ (st.2 r j))))) := by
  unfold wX
  rw [List.getElem?_append_right (by simp; omega), List.getElem?_append_right (by simp; omega)]
  simp only [xArrs, List.length_cons, List.length_nil, xRows_len, List.getElem?_map]
  rw [show 37 + r - (0 + 1 + 1 + 1 + 1 + 1 + 1 + 1 + 1) - 29 = r by omega, List.getElem?_range hr]
  rfl
theorem xArrs_set (cJ : ClassId) (a : Nat → Nat) (st : fS) {r : Nat} (hr : r < 29) (f : Int → Int) : (xArrs cJ a st).set r (a (37 + r), .inl (cJ, xLen r, .inr (.inl (fun j : Nat => zJ (f j))))) = xArrs cJ a (sR st r f) := by
  refine List.ext_getElem? fun i => ?_
  rw [List.getElem?_set]
  by_cases e : r = i
  · subst e
    simp only [if_true, xArrs_len, hr]
    simp only [xArrs, List.getElem?_map, List.getElem?_range hr, Option.map_some, sR_2s]
  · simp only [e, if_false]
    simp only [xArrs, List.getElem?_map]
    by_cases h : i < 29
    · simp only [List.getElem?_range h, Option.map_some, sR_2n st f (Ne.symm e)]
    · rw [List.getElem?_eq_none (by simpa using h)]
      rfl
theorem wX_set (cJ : ClassId) (a : Nat → Nat) (st : fS) {r : Nat} (hr : r < 29) (f : Int → Int) : (wX cJ a st).set (37 + r) (a (37 + r), .inl (cJ, xLen r, .inr (.inl (fun j : Nat => zJ (f j))))) = wX cJ a (sR st r f) := by
  unfold wX
  rw [List.set_append_right _ _ (by simp; omega), List.set_append_right _ _ (by simp; omega)]
  simp only [List.length_cons, List.length_nil, xRows_len]
  rw [show 37 + r - (0 + 1 + 1 + 1 + 1 + 1 + 1 + 1 + 1) - 29 = r by omega, xArrs_set cJ a st hr f]
  rfl
theorem wX_fst (cJ : ClassId) (a : Nat → Nat) (st : fS) : (wX cJ a st).map Prod.fst = (List.range 66).map a := by
  unfold wX
  simp only [List.map_append, List.map_map, xRows, xArrs]
  rfl
def xA (a : Nat → Nat) : Nat → Prop := fun q => ∃ i : Nat, i < 66 ∧ q = a i
abbrev xInj (a : Nat → Nat) : Prop := ∀ i j : Nat, i < 66 → j < 66 → a i = a j → i = j
theorem xD {a : Nat → Nat} (h : xInj a) (cJ : ClassId) (st : fS) : va_D (xA a) (wX cJ a st) := by
  have g : ∀ (i : Nat) (q : Nat × va_E), (wX cJ a st)[i]? = some q → i < 66 ∧ q.1 = a i := by
    intro i q hq
    have h1 : ((wX cJ a st).map Prod.fst)[i]? = some q.1 := by rw [List.getElem?_map, hq]; rfl
    rw [wX_fst, List.getElem?_map] at h1
    by_cases hi : i < 66
    · rw [List.getElem?_range hi] at h1
      exact ⟨hi, (Option.some.inj h1).symm⟩
    · rw [List.getElem?_eq_none (by simpa using hi)] at h1
      cases h1
  refine ⟨fun i j p q hp hq e => ?_, fun k q hq => ?_⟩
  · obtain ⟨i1, e1⟩ := g i p hp
    obtain ⟨j1, e2⟩ := g j q hq
    exact h i j i1 j1 (by rw [← e1, ← e2]; exact e)
  · obtain ⟨i1, e1⟩ := g k q hq
    exact ⟨k, i1, e1⟩
/-- what the class's numbers keep to -/
def xRg : Nat → Int × Int
  | 0 => (0, 6) | 1 => (0, 1000) | 2 => (0, 100000000000000) | 3 => (0, 3) | 4 => (0, 5) | 5 => (0, 3599) | 6 => (0, 1000000) | 7 => (0, 3599) | 8 => (0, 255)
  | 9 => (0, 3599) | 10 => (0, 3599) | 11 => (0, 1000000) | 12 => (-1, 999999) | 13 => (0, 999999) | 14 => (-1, 999999) | 15 => (0, 1000000) | 16 => (0, 1000000) | 17 => (0, 999999) | 18 => (0, 999999)
  | 19 => (0, 3) | 20 => (0, 5) | 21 => (0, 3599) | 22 => (0, 3599) | 23 => (-1, 1000000000000) | 24 => (0, 23) | 25 => (-1, 1000000000000) | 26 => (-1, 5) | 27 => (0, 2) | _ => (0, 255)
def xNg : Nat → Int × Int
  | 0 => (0, 4) | 1 => (0, 24) | 2 => (0, 600) | 3 => (0, 600) | 4 => (0, 600) | 6 => (0, 6) | 8 => (0, 8) | 9 => (0, 24) | _ => (-1000000000, 1000000000)
def fOk (N R : Nat → Int × Int) (st : fS) : Prop := (∀ k, (N k).1 ≤ st.1 k ∧ st.1 k ≤ (N k).2) ∧ ∀ r i, (R r).1 ≤ st.2 r i ∧ st.2 r i ≤ (R r).2
theorem fOk_N {N R : Nat → Int × Int} {st : fS} (h : fOk N R st) {k : Nat} {v : Int} (hv : (N k).1 ≤ v ∧ v ≤ (N k).2) : fOk N R (sN st k v) := by
  refine ⟨fun j => ?_, h.2⟩
  by_cases e : j = k
  · subst e; rw [sN_1s]; exact hv
  · rw [sN_1n st v e]; exact h.1 j
theorem fOk_R {N R : Nat → Int × Int} {st : fS} (h : fOk N R st) {r : Nat} {f : Int → Int} (hf : ∀ i, (R r).1 ≤ f i ∧ f i ≤ (R r).2) : fOk N R (sR st r f) := by
  refine ⟨h.1, fun j i => ?_⟩
  by_cases e : j = r
  · subst e; rw [sR_2s]; exact hf i
  · rw [sR_2n st f e]; exact h.2 j i
theorem fOk_up {N R : Nat → Int × Int} {st : fS} (h : fOk N R st) {r : Nat} {i v : Int} (hv : (R r).1 ≤ v ∧ v ≤ (R r).2) : fOk N R (sR st r (f_up (st.2 r) i v)) := fOk_R h fun j => by
  by_cases e : j = i
  · subst e; rw [f_up_s]; exact hv
  · rw [f_up_n _ _ e]; exact h.2 r j
abbrev xOk : fS → Prop := fOk xNg xRg
theorem fOk_set {st : fS} (h : xOk st) {r : Nat} {i v : Int} (hv : (xRg r).1 ≤ v ∧ v ≤ (xRg r).2) : xOk (rset st r i v) := by
  unfold rset rput
  by_cases e : 0 ≤ i ∧ i < xLen r
  · rw [if_pos e]; exact fOk_up h hv
  · rw [if_neg e, sR_id]; exact h
theorem xRg_0 : ∀ r, (xRg r).1 ≤ 0 ∧ 0 ≤ (xRg r).2 ∧ -9223372036854775808 ≤ (xRg r).1 ∧ (xRg r).2 ≤ 9223372036854775807 := by
  intro r
  match r with
  | 0 | 1 | 2 | 3 | 4 | 5 | 6 | 7 | 8 | 9 | 10 | 11 | 12 | 13 | 14 | 15 | 16 | 17 | 18 | 19 | 20 | 21 | 22 | 23 | 24 | 25 | 26 | 27 => decide
  | n + 28 =>
    show (0 : Int) ≤ 0 ∧ (0 : Int) ≤ 255 ∧ (-9223372036854775808 : Int) ≤ 0 ∧ (255 : Int) ≤ 9223372036854775807
    decide
theorem xget_ok {st : fS} (h : xOk st) (r : Nat) (n i : Int) : (xRg r).1 ≤ rget n (st.2 r) i ∧ rget n (st.2 r) i ≤ (xRg r).2 := by
  unfold rget
  by_cases e : 0 ≤ i ∧ i < n
  · rw [if_pos e]; exact h.2 r i
  · rw [if_neg e]; exact ⟨(xRg_0 r).1, (xRg_0 r).2.1⟩
end
section
/-! ===== PART 21: arrays under a walk's goal; Row.get and Row.set ===== -/
section FA
variable {σ : Type} {D : va_G} {Wd : σ → va_W} {Ok : σ → Prop} {A : Nat → Prop} {nL : Nat} {p : Program} {l : Launch} {e : Env} {R : Room} {s : State} {m : MethodId} {args : Array Value} {below : List Frame} {meth : Method} {c : Code} {cells slots : Nat} {Q : State → Prop}
variable {cc : ByteArray} {Ts : List Cond} {own : String} {tys : List (ClassId × FieldType)} {E : State → Prop} {st : σ} {pc : Nat} {lv : List (Nat × Value)} {rest : List Value} {b n : Nat} {cA : ClassId} {f : Int → Int} {i v : Int}
theorem f_toNat {i : Int} {n : Nat} (h : 0 ≤ i ∧ i < n) (hn : n ≤ 2147483648) : ((zI i).toNatClampNeg : Int) = i := by rw [zI_cl h.1 (by omega)]; exact Int.toNat_of_nonneg h.1
theorem f_lald (C : fC p m c cc nL s args Ts own D tys E A) (q0 t0 : Nat) (ha : (Wd st)[q0]? = some (b, .inl (cA, n, .inr (.inl (fun j : Nat => zJ (f j)))))) (ht : tys[t0]? = some (cA, .long)) (hi : 0 ≤ i ∧ i < n) (hn : n ≤ 2147483648) (hdg : decode cc pc = .ok (.laload, 1)) (k : fV D Wd Ok A nL p l e R s m args below meth c cells slots Q st (pc + 1) lv (.long (zJ (f i)) :: rest)) : fV D Wd Ok A nL p l e R s m args below meth c cells slots Q st pc lv (.int (zI i) :: .ref b :: rest) := by
  intro H locs ls hP hO hS hl
  refine va_lald C.1.1 C.1.2.1 C.2.1 hP q0 t0 ha ht (zI_in hi (by omega)) hdg ?_
  rw [f_toNat hi hn]
  exact k H locs ls hP hO hS hl
theorem f_iald (C : fC p m c cc nL s args Ts own D tys E A) (q0 t0 : Nat) (ha : (Wd st)[q0]? = some (b, .inl (cA, n, .inl (fun j : Nat => zI (f j))))) (ht : tys[t0]? = some (cA, .int)) (hi : 0 ≤ i ∧ i < n) (hn : n ≤ 2147483648) (hdg : decode cc pc = .ok (.iaload, 1)) (k : fV D Wd Ok A nL p l e R s m args below meth c cells slots Q st (pc + 1) lv (.int (zI (f i)) :: rest)) : fV D Wd Ok A nL p l e R s m args below meth c cells slots Q st pc lv (.int (zI i) :: .ref b :: rest) := by
  intro H locs ls hP hO hS hl
  refine va_iald C.1.1 C.1.2.1 C.2.1 hP q0 t0 ha ht (zI_in hi (by omega)) hdg ?_
  rw [f_toNat hi hn]
  exact k H locs ls hP hO hS hl
theorem f_zald (C : fC p m c cc nL s args Ts own D tys E A) (q0 t0 : Nat) (ha : (Wd st)[q0]? = some (b, .inl (cA, n, .inl (fun j : Nat => zI (f j))))) (ht : tys[t0]? = some (cA, .boolean)) (hi : 0 ≤ i ∧ i < n) (hn : n ≤ 2147483648) (hdg : decode cc pc = .ok (.baload, 1)) (k : fV D Wd Ok A nL p l e R s m args below meth c cells slots Q st (pc + 1) lv (.int (zI (f i)) :: rest)) : fV D Wd Ok A nL p l e R s m args below meth c cells slots Q st pc lv (.int (zI i) :: .ref b :: rest) := by
  intro H locs ls hP hO hS hl
  refine va_zald C.1.1 C.1.2.1 C.2.1 hP q0 t0 ha ht (zI_in hi (by omega)) hdg ?_
  rw [f_toNat hi hn]
  exact k H locs ls hP hO hS hl
theorem f_bald (C : fC p m c cc nL s args Ts own D tys E A) (q0 t0 : Nat) (ha : (Wd st)[q0]? = some (b, .inl (cA, n, .inl (fun j : Nat => zI (f j))))) (ht : tys[t0]? = some (cA, .byte)) (hi : 0 ≤ i ∧ i < n) (hn : n ≤ 2147483648) (hdg : decode cc pc = .ok (.baload, 1)) (k : fV D Wd Ok A nL p l e R s m args below meth c cells slots Q st (pc + 1) lv (.int (zI (f i)) :: rest)) : fV D Wd Ok A nL p l e R s m args below meth c cells slots Q st pc lv (.int (zI i) :: .ref b :: rest) := by
  intro H locs ls hP hO hS hl
  refine va_bald C.1.1 C.1.2.1 C.2.1 hP q0 t0 ha ht (zI_in hi (by omega)) hdg ?_
  rw [f_toNat hi hn]
  exact k H locs ls hP hO hS hl
theorem f_alen (C : fC p m c cc nL s args Ts own D tys E A) (q0 t0 : Nat) {x : vp_A} {ty : FieldType} (ha : (Wd st)[q0]? = some (b, .inl (cA, x))) (ht : tys[t0]? = some (cA, ty)) (hdg : decode cc pc = .ok (.arraylength, 1)) (k : fV D Wd Ok A nL p l e R s m args below meth c cells slots Q st (pc + 1) lv (.int (zI (x.1 : Int)) :: rest)) : fV D Wd Ok A nL p l e R s m args below meth c cells slots Q st pc lv (.ref b :: rest) := fun H locs ls hP hO hS hl => va_alen C.1.1 C.1.2.1 C.2.1 hP q0 t0 ha ht (v := zI (x.1 : Int)) (Int32.ofInt_eq_ofNat).symm hdg (k H locs ls hP hO hS hl)
theorem f_last (C : fC p m c cc nL s args Ts own D tys E A) (hDs : ∀ x : σ, va_D A (Wd x)) {u : σ} (q0 t0 : Nat) (ha : (Wd st)[q0]? = some (b, .inl (cA, n, .inr (.inl (fun j : Nat => zJ (f j)))))) (ht : tys[t0]? = some (cA, .long)) (hi : 0 ≤ i ∧ i < n) (hn : n ≤ 2147483648) (hu : (Wd st).set q0 (b, .inl (cA, n, .inr (.inl (fun j : Nat => zJ (f_up f i v j))))) = Wd u) (hok : Ok st → Ok u) (hdg : decode cc pc = .ok (.lastore, 1)) (k : fV D Wd Ok A nL p l e R s m args below meth c cells slots Q u (pc + 1) lv rest) : fV D Wd Ok A nL p l e R s m args below meth c cells slots Q st pc lv (.long (zJ v) :: .int (zI i) :: .ref b :: rest) := by
  intro H locs ls hP hO hS hl
  refine va_last C.1.1 C.1.2.1 C.2.1 hP (hDs st) hS q0 t0 ha ht (zI_in hi (by omega)) hdg (fun H1 locs1 hP1 _ hS1 => ?_)
  rw [f_upJ f ⟨hi.1, by omega⟩, hu] at hP1
  exact k H1 locs1 ls hP1 (hok hO) hS1 hl
theorem f_iast (C : fC p m c cc nL s args Ts own D tys E A) (hDs : ∀ x : σ, va_D A (Wd x)) {u : σ} (q0 t0 : Nat) (ha : (Wd st)[q0]? = some (b, .inl (cA, n, .inl (fun j : Nat => zI (f j))))) (ht : tys[t0]? = some (cA, .int)) (hi : 0 ≤ i ∧ i < n) (hn : n ≤ 2147483648) (hu : (Wd st).set q0 (b, .inl (cA, n, .inl (fun j : Nat => zI (f_up f i v j)))) = Wd u) (hok : Ok st → Ok u) (hdg : decode cc pc = .ok (.iastore, 1)) (k : fV D Wd Ok A nL p l e R s m args below meth c cells slots Q u (pc + 1) lv rest) : fV D Wd Ok A nL p l e R s m args below meth c cells slots Q st pc lv (.int (zI v) :: .int (zI i) :: .ref b :: rest) := by
  intro H locs ls hP hO hS hl
  refine va_iast C.1.1 C.1.2.1 C.2.1 hP (hDs st) hS q0 t0 ha ht (zI_in hi (by omega)) hdg (fun H1 locs1 hP1 _ hS1 => ?_)
  rw [f_upI f ⟨hi.1, by omega⟩, hu] at hP1
  exact k H1 locs1 ls hP1 (hok hO) hS1 hl
theorem f_bast (C : fC p m c cc nL s args Ts own D tys E A) (hDs : ∀ x : σ, va_D A (Wd x)) {u : σ} (q0 t0 : Nat) (ha : (Wd st)[q0]? = some (b, .inl (cA, n, .inl (fun j : Nat => zI (f j))))) (ht : tys[t0]? = some (cA, .byte)) (hi : 0 ≤ i ∧ i < n) (hn : n ≤ 2147483648) (hv : -128 ≤ v ∧ v ≤ 127) (hu : (Wd st).set q0 (b, .inl (cA, n, .inl (fun j : Nat => zI (f_up f i v j)))) = Wd u) (hok : Ok st → Ok u) (hdg : decode cc pc = .ok (.bastore, 1)) (k : fV D Wd Ok A nL p l e R s m args below meth c cells slots Q u (pc + 1) lv rest) : fV D Wd Ok A nL p l e R s m args below meth c cells slots Q st pc lv (.int (zI v) :: .int (zI i) :: .ref b :: rest) := by
  intro H locs ls hP hO hS hl
  refine va_bast C.1.1 C.1.2.1 C.2.1 hP (hDs st) hS q0 t0 ha ht (zI_in hi (by omega)) hdg (fun H1 locs1 hP1 _ hS1 => ?_)
  rw [show vp_nar .byte (zI v) = zI v from zI_b hv, f_upI f ⟨hi.1, by omega⟩, hu] at hP1
  exact k H1 locs1 ls hP1 (hok hO) hS1 hl
theorem f_zast (C : fC p m c cc nL s args Ts own D tys E A) (hDs : ∀ x : σ, va_D A (Wd x)) {u : σ} (q0 t0 : Nat) (ha : (Wd st)[q0]? = some (b, .inl (cA, n, .inl (fun j : Nat => zI (f j))))) (ht : tys[t0]? = some (cA, .boolean)) (hi : 0 ≤ i ∧ i < n) (hn : n ≤ 2147483648) (hv : v = 0 ∨ v = 1) (hu : (Wd st).set q0 (b, .inl (cA, n, .inl (fun j : Nat => zI (f_up f i v j)))) = Wd u) (hok : Ok st → Ok u) (hdg : decode cc pc = .ok (.bastore, 1)) (k : fV D Wd Ok A nL p l e R s m args below meth c cells slots Q u (pc + 1) lv rest) : fV D Wd Ok A nL p l e R s m args below meth c cells slots Q st pc lv (.int (zI v) :: .int (zI i) :: .ref b :: rest) := by
  intro H locs ls hP hO hS hl
  refine va_zast C.1.1 C.1.2.1 C.2.1 hP (hDs st) hS q0 t0 ha ht (zI_in hi (by omega)) hdg (fun H1 locs1 hP1 _ hS1 => ?_)
  rw [show vp_nar .boolean (zI v) = zI v by rcases hv with rfl | rfl <;> rfl, f_upI f ⟨hi.1, by omega⟩, hu] at hP1
  exact k H1 locs1 ls hP1 (hok hO) hS1 hl
theorem f_tabIn (C : fC p m c cc nL s args Ts own D tys E A) {d lo hi off : Int} {offs : Array Int} {len : Nat} {x : Int} (tgt : Nat) (w : Int) (hx : x = w) (hw : in32 w) (h1 : lo ≤ w) (h2 : w ≤ hi) (ho : offs[(w - lo).toNat]? = some off) (ht : (pc : Int) + off = (tgt : Int)) (hdg : decode cc pc = .ok (.tableswitch d lo hi offs, len)) (k : fV D Wd Ok A nL p l e R s m args below meth c cells slots Q st tgt lv rest) : fV D Wd Ok A nL p l e R s m args below meth c cells slots Q st pc lv (.int (zI x) :: rest) := by
  subst hx
  intro H locs ls hP hO hS hl
  exact lv_tableIn C.1.1 C.1.2.1 hdg (by rw [zI_t hw]; omega) (by rw [zI_t hw]; omega) (by rw [zI_t hw]; exact ho) ht (k H locs ls hP hO hS hl)
theorem f_tabOut (C : fC p m c cc nL s args Ts own D tys E A) {d lo hi : Int} {offs : Array Int} {len : Nat} {x : Int} (tgt : Nat) (hw : in32 x) (h : x < lo ∨ hi < x) (ht : (pc : Int) + d = (tgt : Int)) (hdg : decode cc pc = .ok (.tableswitch d lo hi offs, len)) (k : fV D Wd Ok A nL p l e R s m args below meth c cells slots Q st tgt lv rest) : fV D Wd Ok A nL p l e R s m args below meth c cells slots Q st pc lv (.int (zI x) :: rest) := by
  intro H locs ls hP hO hS hl
  exact lv_tableOut C.1.1 C.1.2.1 hdg (by rw [zI_t hw]; exact h) ht (k H locs ls hP hO hS hl)
end FA
abbrev fTys (cI cJ cZ cB : ClassId) : List (ClassId × FieldType) := [(cI, .int), (cJ, .long), (cZ, .boolean), (cB, .byte)]
section XM
variable (l : Launch) (D : va_G) (cI cJ cZ cB : ClassId) (a : Nat → Nat) (E : State → Prop)
abbrev xMi (y : MethodName) (ws : List Cond) (rm : Room) (av : List Value) (st : fS) (post : Int → fS → Prop) : Prop := fMi l y ws rm D (fTys cI cJ cZ cB) E (wX cJ a) xOk (xA a) av st post
abbrev xMl (y : MethodName) (ws : List Cond) (rm : Room) (av : List Value) (st : fS) (post : Int → fS → Prop) : Prop := fMl l y ws rm D (fTys cI cJ cZ cB) E (wX cJ a) xOk (xA a) av st post
abbrev xMv (y : MethodName) (ws : List Cond) (rm : Room) (av : List Value) (st : fS) (post : fS → Prop) : Prop := fMv l y ws rm D (fTys cI cJ cZ cB) E (wX cJ a) xOk (xA a) av st post
end XM
/-- the class's addresses are apart, what is given of the rest stays -/
abbrev xHyp (a : Nat → Nat) (E : State → Prop) : Prop := xInj a ∧ fSt (xA a) E
abbrev fr0 : Room := { frames := 0, cells := 0, slots := 0, locals := 0 }
set_option maxRecDepth 100000 in
set_option maxHeartbeats 4000000 in
theorem c_Row_get {l : Launch} {D : va_G} {cI cJ cZ cB : ClassId} {a : Nat → Nat} {E : State → Prop} (hX : xHyp a E) (r : Nat) (hr : r < 29) (i : Int) (hi : in32 i) (st : fS) : xMl l D cI cJ cZ cB a E yX5_get wsX5_get fr0 [.ref (a (8 + r)), .int (zI i)] st (fun z u => z = rget (xLen r) (st.2 r) i ∧ u = st) := by
  refine fB_open (cc := cX5_get) (maxL := 2) (ret := some .long) (by decide) rfl (Nat.le_of_ble_eq_true rfl) hX.2 ?_
  intro p e s m below meth c C hret hlk
  have hin : ∀ w ∈ u_ws RX5 TX5 1, w ∈ wsX5_get := by decide +kernel
  have hxl := xLen_le r
  refine f_ok (fun hO => ?_)
  refine f_iload_n C 1 dX5_get_0 rfl rfl ?_
  refine f_if_lt C 22 hi dX5_get_1 (by decide) (fun c1 => ?_) (fun c1 => ?_)
  · refine f_lconst C (z := 0) dX5_get_22 rfl ?_
    exact f_lret C hret hlk dX5_get_23 ⟨by decide, by decide⟩ ⟨(rget_out (by omega)).symm, rfl⟩
  refine f_iload_n C 1 dX5_get_4 rfl rfl ?_
  refine f_aload_n C 0 dX5_get_5 rfl rfl ?_
  refine f_get C hin (8 + r) 0 (wX_row cJ a st hr) rfl (by decide) (by decide +kernel) rfl rfl dX5_get_6 ?_
  refine f_alen C (37 + r) 1 (wX_arr cJ a st hr) rfl dX5_get_9 ?_
  refine f_icmp_ge C 22 hi ⟨by simp only; omega, by simp only; omega⟩ dX5_get_10 (by decide) (fun c2 => ?_) (fun c2 => ?_)
  · refine f_lconst C (z := 0) dX5_get_22 rfl ?_
    exact f_lret C hret hlk dX5_get_23 ⟨by decide, by decide⟩ ⟨(rget_out (by simp only at c2; omega)).symm, rfl⟩
  refine f_aload_n C 0 dX5_get_13 rfl rfl ?_
  refine f_get C hin (8 + r) 0 (wX_row cJ a st hr) rfl (by decide) (by decide +kernel) rfl rfl dX5_get_14 ?_
  refine f_iload_n C 1 dX5_get_17 rfl rfl ?_
  refine f_lald C (37 + r) 1 (wX_arr cJ a st hr) rfl (by simp only at c2; omega) (by omega) dX5_get_18 ?_
  refine f_goto C 23 dX5_get_19 (by decide) ?_
  refine f_lret C hret hlk dX5_get_23 ?_ ⟨(rget_in (by simp only at c2; omega)).symm, rfl⟩
  have h1 := hO.2 r i
  have h2 := xRg_0 r
  exact ⟨by omega, by omega⟩
set_option maxRecDepth 100000 in
set_option maxHeartbeats 4000000 in
theorem c_Row_set {l : Launch} {D : va_G} {cI cJ cZ cB : ClassId} {a : Nat → Nat} {E : State → Prop} (hX : xHyp a E) (r : Nat) (hr : r < 29) (i v : Int) (hi : in32 i) (hv : (xRg r).1 ≤ v ∧ v ≤ (xRg r).2) (st : fS) : xMv l D cI cJ cZ cB a E yX5_set wsX5_set fr0 [.ref (a (8 + r)), .int (zI i), .long (zJ v)] st (fun u => u = rset st r i v) := by
  refine fB_open (cc := cX5_set) (maxL := 4) (ret := none) (by decide) rfl (Nat.le_of_ble_eq_true rfl) hX.2 ?_
  intro p e s m below meth c C hret hlk
  have hin : ∀ w ∈ u_ws RX5 TX5 1, w ∈ wsX5_set := by decide +kernel
  have hxl := xLen_le r
  refine f_iload_n C 1 dX5_set_0 rfl rfl ?_
  refine f_if_lt C 20 hi dX5_set_1 (by decide) (fun c1 => ?_) (fun c1 => ?_)
  · exact f_vret C hret hlk dX5_set_20 (by unfold rset; rw [rput_out v (by omega), sR_id])
  refine f_iload_n C 1 dX5_set_4 rfl rfl ?_
  refine f_aload_n C 0 dX5_set_5 rfl rfl ?_
  refine f_get C hin (8 + r) 0 (wX_row cJ a st hr) rfl (by decide) (by decide +kernel) rfl rfl dX5_set_6 ?_
  refine f_alen C (37 + r) 1 (wX_arr cJ a st hr) rfl dX5_set_9 ?_
  refine f_icmp_ge C 20 hi ⟨by simp only; omega, by simp only; omega⟩ dX5_set_10 (by decide) (fun c2 => ?_) (fun c2 => ?_)
  · exact f_vret C hret hlk dX5_set_20 (by unfold rset; rw [rput_out v (by simp only at c2; omega), sR_id])
  refine f_aload_n C 0 dX5_set_13 rfl rfl ?_
  refine f_get C hin (8 + r) 0 (wX_row cJ a st hr) rfl (by decide) (by decide +kernel) rfl rfl dX5_set_14 ?_
  refine f_iload_n C 1 dX5_set_17 rfl rfl ?_
  refine f_lload_n C 2 dX5_set_18 rfl rfl ?_
  refine f_last C (xD hX.1 cJ) (u := rset st r i v) (37 + r) 1 (wX_arr cJ a st hr) rfl (by simp only at c2; omega) (by omega) (by rw [wX_set cJ a st hr]; unfold rset; rw [rput_in v (by simp only at c2; omega)]) (fun h => fOk_set h hv) dX5_set_19 ?_
  exact f_vret C hret hlk dX5_set_20 rfl
end
section
/-! ===== PART 22: leaves (laid by program) ===== -/
def F_X8_isKind (p0 : Int) (st : fS) : Int := if p0 < 0 then 0 else (if 6 ≤ p0 then 0 else 1)
abbrev rm_X8_isKind : Room := { frames := 0, cells := 0, slots := 0, locals := 0 }
set_option maxRecDepth 100000 in
set_option maxHeartbeats 8000000 in
theorem c_X8_isKind {l : Launch} {D : va_G} {cI cJ cZ cB : ClassId} {a : Nat → Nat} {E : State → Prop} (hX : xHyp a E) (p0 : Int) (h0 : in32 p0) (st : fS)  : xMi l D cI cJ cZ cB a E yX8_isKind wsX8_isKind rm_X8_isKind [.int (zI p0)] st (fun z u => z = F_X8_isKind p0 st ∧ u = st) := by
  refine fB_open (cc := cX8_isKind) (maxL := 1) (ret := (some .boolean)) (by decide) rfl (Nat.le_of_ble_eq_true rfl) hX.2 ?_
  intro p e s m below meth c C hret hlk
  have hp : ∀ z : Int, z = F_X8_isKind p0 st → z = F_X8_isKind p0 st ∧ st = st := fun z h => ⟨h, rfl⟩
  refine f_iload_n C 0 dX8_isKind_0 rfl rfl ?_
  refine f_if_lt C 14 ⟨by omega, by omega⟩ dX8_isKind_1 (by decide) (fun c1 => ?_) (fun c1 => ?_)
  · refine f_iconst C dX8_isKind_14 ?_
    exact f_zret C hret hlk dX8_isKind_15 (by decide) (hp _ (by rw [F_X8_isKind, if_pos c1]))
  refine f_iload_n C 0 dX8_isKind_4 rfl rfl ?_
  refine f_bipush C dX8_isKind_5 (by decide) ?_
  refine f_icmp_ge C 14 ⟨by omega, by omega⟩ ⟨by decide, by decide⟩ dX8_isKind_7 (by decide) (fun c2 => ?_) (fun c2 => ?_)
  · refine f_iconst C dX8_isKind_14 ?_
    exact f_zret C hret hlk dX8_isKind_15 (by decide) (hp _ (by rw [F_X8_isKind, if_neg c1, if_pos c2]))
  refine f_iconst C dX8_isKind_10 ?_
  refine f_goto C 15 dX8_isKind_11 (by decide) ?_
  exact f_zret C hret hlk dX8_isKind_15 (by decide) (hp _ (by rw [F_X8_isKind, if_neg c1, if_neg c2]))

def F_X8_isDay (p0 : Int) (st : fS) : Int := if p0 < 0 then 0 else (if 3600 ≤ p0 then 0 else 1)
abbrev rm_X8_isDay : Room := { frames := 0, cells := 0, slots := 0, locals := 0 }
set_option maxRecDepth 100000 in
set_option maxHeartbeats 8000000 in
theorem c_X8_isDay {l : Launch} {D : va_G} {cI cJ cZ cB : ClassId} {a : Nat → Nat} {E : State → Prop} (hX : xHyp a E) (p0 : Int) (h0 : in64 p0) (st : fS)  : xMi l D cI cJ cZ cB a E yX8_isDay wsX8_isDay rm_X8_isDay [.long (zJ p0)] st (fun z u => z = F_X8_isDay p0 st ∧ u = st) := by
  refine fB_open (cc := cX8_isDay) (maxL := 2) (ret := (some .boolean)) (by decide) rfl (Nat.le_of_ble_eq_true rfl) hX.2 ?_
  intro p e s m below meth c C hret hlk
  have hp : ∀ z : Int, z = F_X8_isDay p0 st → z = F_X8_isDay p0 st ∧ st = st := fun z h => ⟨h, rfl⟩
  refine f_lload_n C 0 dX8_isDay_0 rfl rfl ?_
  refine f_lconst C (z := 0) dX8_isDay_1 rfl ?_
  refine f_lc_if_lt C 18 ⟨by omega, by omega⟩ ⟨by decide, by decide⟩ dX8_isDay_2 dX8_isDay_3 (by decide) (fun c1 => ?_) (fun c1 => ?_)
  · refine f_iconst C dX8_isDay_18 ?_
    exact f_zret C hret hlk dX8_isDay_19 (by decide) (hp _ (by rw [F_X8_isDay, if_pos c1]))
  refine f_lload_n C 0 dX8_isDay_6 rfl rfl ?_
  refine f_ldc2 C (z := 3600) (by decide +kernel) (by decide) dX8_isDay_7 ?_
  refine f_lc_if_ge C 18 ⟨by omega, by omega⟩ ⟨by decide, by decide⟩ dX8_isDay_10 dX8_isDay_11 (by decide) (fun c2 => ?_) (fun c2 => ?_)
  · refine f_iconst C dX8_isDay_18 ?_
    exact f_zret C hret hlk dX8_isDay_19 (by decide) (hp _ (by rw [F_X8_isDay, if_neg c1, if_pos c2]))
  refine f_iconst C dX8_isDay_14 ?_
  refine f_goto C 19 dX8_isDay_15 (by decide) ?_
  exact f_zret C hret hlk dX8_isDay_19 (by decide) (hp _ (by rw [F_X8_isDay, if_neg c1, if_neg c2]))

def F_X8_isMonth (p0 : Int) (st : fS) : Int := if p0 < 0 then 0 else (if 120 ≤ p0 then 0 else 1)
abbrev rm_X8_isMonth : Room := { frames := 0, cells := 0, slots := 0, locals := 0 }
set_option maxRecDepth 100000 in
set_option maxHeartbeats 8000000 in
theorem c_X8_isMonth {l : Launch} {D : va_G} {cI cJ cZ cB : ClassId} {a : Nat → Nat} {E : State → Prop} (hX : xHyp a E) (p0 : Int) (h0 : in32 p0) (st : fS)  : xMi l D cI cJ cZ cB a E yX8_isMonth wsX8_isMonth rm_X8_isMonth [.int (zI p0)] st (fun z u => z = F_X8_isMonth p0 st ∧ u = st) := by
  refine fB_open (cc := cX8_isMonth) (maxL := 1) (ret := (some .boolean)) (by decide) rfl (Nat.le_of_ble_eq_true rfl) hX.2 ?_
  intro p e s m below meth c C hret hlk
  have hp : ∀ z : Int, z = F_X8_isMonth p0 st → z = F_X8_isMonth p0 st ∧ st = st := fun z h => ⟨h, rfl⟩
  refine f_iload_n C 0 dX8_isMonth_0 rfl rfl ?_
  refine f_if_lt C 14 ⟨by omega, by omega⟩ dX8_isMonth_1 (by decide) (fun c1 => ?_) (fun c1 => ?_)
  · refine f_iconst C dX8_isMonth_14 ?_
    exact f_zret C hret hlk dX8_isMonth_15 (by decide) (hp _ (by rw [F_X8_isMonth, if_pos c1]))
  refine f_iload_n C 0 dX8_isMonth_4 rfl rfl ?_
  refine f_bipush C dX8_isMonth_5 (by decide) ?_
  refine f_icmp_ge C 14 ⟨by omega, by omega⟩ ⟨by decide, by decide⟩ dX8_isMonth_7 (by decide) (fun c2 => ?_) (fun c2 => ?_)
  · refine f_iconst C dX8_isMonth_14 ?_
    exact f_zret C hret hlk dX8_isMonth_15 (by decide) (hp _ (by rw [F_X8_isMonth, if_neg c1, if_pos c2]))
  refine f_iconst C dX8_isMonth_10 ?_
  refine f_goto C 15 dX8_isMonth_11 (by decide) ?_
  exact f_zret C hret hlk dX8_isMonth_15 (by decide) (hp _ (by rw [F_X8_isMonth, if_neg c1, if_neg c2]))

def F_X0_isFull (st : fS) : Int := if (st.1 6) < 6 then 0 else 1
abbrev rm_X0_isFull : Room := { frames := 0, cells := 0, slots := 0, locals := 0 }
set_option maxRecDepth 100000 in
set_option maxHeartbeats 8000000 in
theorem c_X0_isFull {l : Launch} {D : va_G} {cI cJ cZ cB : ClassId} {a : Nat → Nat} {E : State → Prop} (hX : xHyp a E)   (st : fS)  : xMi l D cI cJ cZ cB a E yX0_isFull wsX0_isFull rm_X0_isFull [.ref (a 4)] st (fun z u => z = F_X0_isFull st ∧ u = st) := by
  refine fB_open (cc := cX0_isFull) (maxL := 1) (ret := (some .boolean)) (by decide) rfl (Nat.le_of_ble_eq_true rfl) hX.2 ?_
  intro p e s m below meth c C hret hlk
  have hin0 : ∀ w ∈ u_ws RX0 TX0 12, w ∈ wsX0_isFull := by decide +kernel
  have hp : ∀ z : Int, z = F_X0_isFull st → z = F_X0_isFull st ∧ st = st := fun z h => ⟨h, rfl⟩
  refine f_aload_n C 0 dX0_isFull_0 rfl rfl ?_
  refine f_ok (fun hO1 => ?_)
  have k2 : 0 ≤ st.1 6 ∧ st.1 6 ≤ 6 := hO1.1 6
  refine f_get C (v := .int (zI (st.1 6))) hin0 4 10 rfl rfl (Nat.le_of_ble_eq_true rfl) (by decide +kernel) rfl rfl dX0_isFull_1 ?_
  refine f_bipush C dX0_isFull_4 (by decide) ?_
  refine f_icmp_lt C 13 ⟨by omega, by omega⟩ ⟨by decide, by decide⟩ dX0_isFull_6 (by decide) (fun c3 => ?_) (fun c3 => ?_)
  · refine f_iconst C dX0_isFull_13 ?_
    exact f_zret C hret hlk dX0_isFull_14 (by decide) (hp _ (by rw [F_X0_isFull, if_pos c3]))
  refine f_iconst C dX0_isFull_9 ?_
  refine f_goto C 14 dX0_isFull_10 (by decide) ?_
  exact f_zret C hret hlk dX0_isFull_14 (by decide) (hp _ (by rw [F_X0_isFull, if_neg c3]))

def F_X0_has (p1 : Int) (st : fS) : Int := if p1 < 0 then 0 else (if (st.1 6) ≤ p1 then 0 else 1)
abbrev rm_X0_has : Room := { frames := 0, cells := 0, slots := 0, locals := 0 }
set_option maxRecDepth 100000 in
set_option maxHeartbeats 8000000 in
theorem c_X0_has {l : Launch} {D : va_G} {cI cJ cZ cB : ClassId} {a : Nat → Nat} {E : State → Prop} (hX : xHyp a E) (p1 : Int) (h1 : in32 p1) (st : fS)  : xMi l D cI cJ cZ cB a E yX0_has wsX0_has rm_X0_has [.ref (a 4), .int (zI p1)] st (fun z u => z = F_X0_has p1 st ∧ u = st) := by
  refine fB_open (cc := cX0_has) (maxL := 2) (ret := (some .boolean)) (by decide) rfl (Nat.le_of_ble_eq_true rfl) hX.2 ?_
  intro p e s m below meth c C hret hlk
  have hin0 : ∀ w ∈ u_ws RX0 TX0 12, w ∈ wsX0_has := by decide +kernel
  have hp : ∀ z : Int, z = F_X0_has p1 st → z = F_X0_has p1 st ∧ st = st := fun z h => ⟨h, rfl⟩
  refine f_iload_n C 1 dX0_has_0 rfl rfl ?_
  refine f_if_lt C 16 ⟨by omega, by omega⟩ dX0_has_1 (by decide) (fun c1 => ?_) (fun c1 => ?_)
  · refine f_iconst C dX0_has_16 ?_
    exact f_zret C hret hlk dX0_has_17 (by decide) (hp _ (by rw [F_X0_has, if_pos c1]))
  refine f_iload_n C 1 dX0_has_4 rfl rfl ?_
  refine f_aload_n C 0 dX0_has_5 rfl rfl ?_
  refine f_ok (fun hO2 => ?_)
  have k3 : 0 ≤ st.1 6 ∧ st.1 6 ≤ 6 := hO2.1 6
  refine f_get C (v := .int (zI (st.1 6))) hin0 4 10 rfl rfl (Nat.le_of_ble_eq_true rfl) (by decide +kernel) rfl rfl dX0_has_6 ?_
  refine f_icmp_ge C 16 ⟨by omega, by omega⟩ ⟨by omega, by omega⟩ dX0_has_9 (by decide) (fun c4 => ?_) (fun c4 => ?_)
  · refine f_iconst C dX0_has_16 ?_
    exact f_zret C hret hlk dX0_has_17 (by decide) (hp _ (by rw [F_X0_has, if_neg c1, if_pos c4]))
  refine f_iconst C dX0_has_12 ?_
  refine f_goto C 17 dX0_has_13 (by decide) ?_
  exact f_zret C hret hlk dX0_has_17 (by decide) (hp _ (by rw [F_X0_has, if_neg c1, if_neg c4]))

def F_X0_actsFrom (p1 : Int) (st : fS) : Int := rget 6 (st.2 9) p1
abbrev rm_X0_actsFrom : Room := { frames := 1, cells := 0, slots := 0, locals := 21 }
set_option maxRecDepth 100000 in
set_option maxHeartbeats 8000000 in
theorem c_X0_actsFrom {l : Launch} {D : va_G} {cI cJ cZ cB : ClassId} {a : Nat → Nat} {E : State → Prop} (hX : xHyp a E) (p1 : Int) (h1 : in32 p1) (st : fS)  : xMl l D cI cJ cZ cB a E yX0_actsFrom wsX0_actsFrom rm_X0_actsFrom [.ref (a 4), .int (zI p1)] st (fun z u => z = F_X0_actsFrom p1 st ∧ u = st) := by
  refine fB_open (cc := cX0_actsFrom) (maxL := 2) (ret := (some .long)) (by decide) rfl (Nat.le_of_ble_eq_true rfl) hX.2 ?_
  intro p e s m below meth c C hret hlk
  have hin0 : ∀ w ∈ u_ws RX0 TX0 12, w ∈ wsX0_actsFrom := by decide +kernel
  have hp : ∀ z : Int, z = F_X0_actsFrom p1 st → z = F_X0_actsFrom p1 st ∧ st = st := fun z h => ⟨h, rfl⟩
  refine f_aload_n C 0 dX0_actsFrom_0 rfl rfl ?_
  refine f_get C hin0 4 0 rfl rfl (Nat.le_of_ble_eq_true rfl) (by decide +kernel) rfl rfl dX0_actsFrom_1 ?_
  refine f_iload_n C 1 dX0_actsFrom_4 rfl rfl ?_
  refine f_ok (fun hO1 => ?_)
  refine f_calll C (c_Row_get hX 9 (Nat.le_of_ble_eq_true rfl) p1 ⟨by omega, by omega⟩ st) (cwV 1 C.1.2.2.2.2 gX0_actsFrom_X5_get rfl rfl rfl (by decide +kernel) ⟨Nat.le_of_ble_eq_true rfl, Nat.le_of_ble_eq_true rfl⟩) 17 (wX_row cJ a st (r := 9) (Nat.le_of_ble_eq_true rfl)) rfl rfl rfl rfl (Nat.le_of_ble_eq_true rfl) ⟨Nat.zero_le _, Nat.zero_le _⟩ dX0_actsFrom_5 (fun z u hz2 hu => ?_)
  obtain ⟨qz2, rfl⟩ : z = rget 6 (st.2 9) p1 ∧ u = st := hu
  subst qz2
  have k3 : 0 ≤ rget 6 (st.2 9) p1 ∧ rget 6 (st.2 9) p1 ≤ 3599 := xget_ok hO1 9 6 p1
  exact f_lret C hret hlk dX0_actsFrom_8 ⟨by omega, by omega⟩ (hp _ (by rw [F_X0_actsFrom]))

def F_X0_knownFrom (p1 : Int) (st : fS) : Int := rget 6 (st.2 10) p1
abbrev rm_X0_knownFrom : Room := { frames := 1, cells := 0, slots := 0, locals := 21 }
set_option maxRecDepth 100000 in
set_option maxHeartbeats 8000000 in
theorem c_X0_knownFrom {l : Launch} {D : va_G} {cI cJ cZ cB : ClassId} {a : Nat → Nat} {E : State → Prop} (hX : xHyp a E) (p1 : Int) (h1 : in32 p1) (st : fS)  : xMl l D cI cJ cZ cB a E yX0_knownFrom wsX0_knownFrom rm_X0_knownFrom [.ref (a 4), .int (zI p1)] st (fun z u => z = F_X0_knownFrom p1 st ∧ u = st) := by
  refine fB_open (cc := cX0_knownFrom) (maxL := 2) (ret := (some .long)) (by decide) rfl (Nat.le_of_ble_eq_true rfl) hX.2 ?_
  intro p e s m below meth c C hret hlk
  have hin0 : ∀ w ∈ u_ws RX0 TX0 12, w ∈ wsX0_knownFrom := by decide +kernel
  have hp : ∀ z : Int, z = F_X0_knownFrom p1 st → z = F_X0_knownFrom p1 st ∧ st = st := fun z h => ⟨h, rfl⟩
  refine f_aload_n C 0 dX0_knownFrom_0 rfl rfl ?_
  refine f_get C hin0 4 1 rfl rfl (Nat.le_of_ble_eq_true rfl) (by decide +kernel) rfl rfl dX0_knownFrom_1 ?_
  refine f_iload_n C 1 dX0_knownFrom_4 rfl rfl ?_
  refine f_ok (fun hO1 => ?_)
  refine f_calll C (c_Row_get hX 10 (Nat.le_of_ble_eq_true rfl) p1 ⟨by omega, by omega⟩ st) (cwV 1 C.1.2.2.2.2 gX0_knownFrom_X5_get rfl rfl rfl (by decide +kernel) ⟨Nat.le_of_ble_eq_true rfl, Nat.le_of_ble_eq_true rfl⟩) 18 (wX_row cJ a st (r := 10) (Nat.le_of_ble_eq_true rfl)) rfl rfl rfl rfl (Nat.le_of_ble_eq_true rfl) ⟨Nat.zero_le _, Nat.zero_le _⟩ dX0_knownFrom_5 (fun z u hz2 hu => ?_)
  obtain ⟨qz2, rfl⟩ : z = rget 6 (st.2 10) p1 ∧ u = st := hu
  subst qz2
  have k3 : 0 ≤ rget 6 (st.2 10) p1 ∧ rget 6 (st.2 10) p1 ≤ 3599 := xget_ok hO1 10 6 p1
  exact f_lret C hret hlk dX0_knownFrom_8 ⟨by omega, by omega⟩ (hp _ (by rw [F_X0_knownFrom]))

def F_X0_ruleCount (p1 : Int) (st : fS) : Int := rget 6 (st.2 11) p1
abbrev rm_X0_ruleCount : Room := { frames := 1, cells := 0, slots := 0, locals := 21 }
set_option maxRecDepth 100000 in
set_option maxHeartbeats 8000000 in
theorem c_X0_ruleCount {l : Launch} {D : va_G} {cI cJ cZ cB : ClassId} {a : Nat → Nat} {E : State → Prop} (hX : xHyp a E) (p1 : Int) (h1 : in32 p1) (st : fS)  : xMl l D cI cJ cZ cB a E yX0_ruleCount wsX0_ruleCount rm_X0_ruleCount [.ref (a 4), .int (zI p1)] st (fun z u => z = F_X0_ruleCount p1 st ∧ u = st) := by
  refine fB_open (cc := cX0_ruleCount) (maxL := 2) (ret := (some .long)) (by decide) rfl (Nat.le_of_ble_eq_true rfl) hX.2 ?_
  intro p e s m below meth c C hret hlk
  have hin0 : ∀ w ∈ u_ws RX0 TX0 12, w ∈ wsX0_ruleCount := by decide +kernel
  have hp : ∀ z : Int, z = F_X0_ruleCount p1 st → z = F_X0_ruleCount p1 st ∧ st = st := fun z h => ⟨h, rfl⟩
  refine f_aload_n C 0 dX0_ruleCount_0 rfl rfl ?_
  refine f_get C hin0 4 2 rfl rfl (Nat.le_of_ble_eq_true rfl) (by decide +kernel) rfl rfl dX0_ruleCount_1 ?_
  refine f_iload_n C 1 dX0_ruleCount_4 rfl rfl ?_
  refine f_ok (fun hO1 => ?_)
  refine f_calll C (c_Row_get hX 11 (Nat.le_of_ble_eq_true rfl) p1 ⟨by omega, by omega⟩ st) (cwV 1 C.1.2.2.2.2 gX0_ruleCount_X5_get rfl rfl rfl (by decide +kernel) ⟨Nat.le_of_ble_eq_true rfl, Nat.le_of_ble_eq_true rfl⟩) 19 (wX_row cJ a st (r := 11) (Nat.le_of_ble_eq_true rfl)) rfl rfl rfl rfl (Nat.le_of_ble_eq_true rfl) ⟨Nat.zero_le _, Nat.zero_le _⟩ dX0_ruleCount_5 (fun z u hz2 hu => ?_)
  obtain ⟨qz2, rfl⟩ : z = rget 6 (st.2 11) p1 ∧ u = st := hu
  subst qz2
  have k3 : 0 ≤ rget 6 (st.2 11) p1 ∧ rget 6 (st.2 11) p1 ≤ 1000000 := xget_ok hO1 11 6 p1
  exact f_lret C hret hlk dX0_ruleCount_8 ⟨by omega, by omega⟩ (hp _ (by rw [F_X0_ruleCount]))

def F_X0_cellOf (p0 p1 : Int) (st : fS) : Int := (p0 * 6) + p1
abbrev rm_X0_cellOf : Room := { frames := 0, cells := 0, slots := 0, locals := 0 }
set_option maxRecDepth 100000 in
set_option maxHeartbeats 8000000 in
theorem c_X0_cellOf {l : Launch} {D : va_G} {cI cJ cZ cB : ClassId} {a : Nat → Nat} {E : State → Prop} (hX : xHyp a E) (p0 p1 : Int) (h0 : in32 p0) (h1 : in32 p1) (st : fS)  : xMi l D cI cJ cZ cB a E yX0_cellOf wsX0_cellOf rm_X0_cellOf [.int (zI p0), .int (zI p1)] st (fun z u => z = F_X0_cellOf p0 p1 st ∧ u = st) := by
  refine fB_open (cc := cX0_cellOf) (maxL := 2) (ret := (some .int)) (by decide) rfl (Nat.le_of_ble_eq_true rfl) hX.2 ?_
  intro p e s m below meth c C hret hlk
  have hp : ∀ z : Int, z = F_X0_cellOf p0 p1 st → z = F_X0_cellOf p0 p1 st ∧ st = st := fun z h => ⟨h, rfl⟩
  refine f_iload_n C 0 dX0_cellOf_0 rfl rfl ?_
  refine f_bipush C dX0_cellOf_1 (by decide) ?_
  refine f_imul C dX0_cellOf_3 ?_
  refine f_iload_n C 1 dX0_cellOf_4 rfl rfl ?_
  refine f_iadd C dX0_cellOf_5 ?_
  exact f_iret C hret hlk dX0_cellOf_6 ⟨by omega, by omega⟩ (hp _ (by rw [F_X0_cellOf]))

def F_X1_count (st : fS) : Int := st.1 1
abbrev rm_X1_count : Room := { frames := 0, cells := 0, slots := 0, locals := 0 }
set_option maxRecDepth 100000 in
set_option maxHeartbeats 8000000 in
theorem c_X1_count {l : Launch} {D : va_G} {cI cJ cZ cB : ClassId} {a : Nat → Nat} {E : State → Prop} (hX : xHyp a E)   (st : fS)  : xMi l D cI cJ cZ cB a E yX1_count wsX1_count rm_X1_count [.ref (a 2)] st (fun z u => z = F_X1_count st ∧ u = st) := by
  refine fB_open (cc := cX1_count) (maxL := 1) (ret := (some .int)) (by decide) rfl (Nat.le_of_ble_eq_true rfl) hX.2 ?_
  intro p e s m below meth c C hret hlk
  have hin1 : ∀ w ∈ u_ws RX1 TX1 6, w ∈ wsX1_count := by decide +kernel
  have hp : ∀ z : Int, z = F_X1_count st → z = F_X1_count st ∧ st = st := fun z h => ⟨h, rfl⟩
  refine f_aload_n C 0 dX1_count_0 rfl rfl ?_
  refine f_ok (fun hO1 => ?_)
  have k2 : 0 ≤ st.1 1 ∧ st.1 1 ≤ 24 := hO1.1 1
  refine f_get C (v := .int (zI (st.1 1))) hin1 2 5 rfl rfl (Nat.le_of_ble_eq_true rfl) (by decide +kernel) rfl rfl dX1_count_1 ?_
  exact f_iret C hret hlk dX1_count_4 ⟨by omega, by omega⟩ (hp _ (by rw [F_X1_count]))

def F_X1_houseOf (p1 : Int) (st : fS) : Int := rget 24 (st.2 3) p1
abbrev rm_X1_houseOf : Room := { frames := 1, cells := 0, slots := 0, locals := 21 }
set_option maxRecDepth 100000 in
set_option maxHeartbeats 8000000 in
theorem c_X1_houseOf {l : Launch} {D : va_G} {cI cJ cZ cB : ClassId} {a : Nat → Nat} {E : State → Prop} (hX : xHyp a E) (p1 : Int) (h1 : in32 p1) (st : fS)  : xMi l D cI cJ cZ cB a E yX1_houseOf wsX1_houseOf rm_X1_houseOf [.ref (a 2), .int (zI p1)] st (fun z u => z = F_X1_houseOf p1 st ∧ u = st) := by
  refine fB_open (cc := cX1_houseOf) (maxL := 2) (ret := (some .int)) (by decide) rfl (Nat.le_of_ble_eq_true rfl) hX.2 ?_
  intro p e s m below meth c C hret hlk
  have hin1 : ∀ w ∈ u_ws RX1 TX1 6, w ∈ wsX1_houseOf := by decide +kernel
  have hp : ∀ z : Int, z = F_X1_houseOf p1 st → z = F_X1_houseOf p1 st ∧ st = st := fun z h => ⟨h, rfl⟩
  refine f_aload_n C 0 dX1_houseOf_0 rfl rfl ?_
  refine f_get C hin1 2 0 rfl rfl (Nat.le_of_ble_eq_true rfl) (by decide +kernel) rfl rfl dX1_houseOf_1 ?_
  refine f_iload_n C 1 dX1_houseOf_4 rfl rfl ?_
  refine f_ok (fun hO1 => ?_)
  refine f_calll C (c_Row_get hX 3 (Nat.le_of_ble_eq_true rfl) p1 ⟨by omega, by omega⟩ st) (cwV 1 C.1.2.2.2.2 gX1_houseOf_X5_get rfl rfl rfl (by decide +kernel) ⟨Nat.le_of_ble_eq_true rfl, Nat.le_of_ble_eq_true rfl⟩) 11 (wX_row cJ a st (r := 3) (Nat.le_of_ble_eq_true rfl)) rfl rfl rfl rfl (Nat.le_of_ble_eq_true rfl) ⟨Nat.zero_le _, Nat.zero_le _⟩ dX1_houseOf_5 (fun z u hz2 hu => ?_)
  obtain ⟨qz2, rfl⟩ : z = rget 24 (st.2 3) p1 ∧ u = st := hu
  subst qz2
  have k3 : 0 ≤ rget 24 (st.2 3) p1 ∧ rget 24 (st.2 3) p1 ≤ 3 := xget_ok hO1 3 24 p1
  refine f_l2i C dX1_houseOf_8 ?_
  exact f_iret C hret hlk dX1_houseOf_9 ⟨by omega, by omega⟩ (hp _ (by rw [F_X1_houseOf]))

def F_X1_kindOf (p1 : Int) (st : fS) : Int := rget 24 (st.2 4) p1
abbrev rm_X1_kindOf : Room := { frames := 1, cells := 0, slots := 0, locals := 21 }
set_option maxRecDepth 100000 in
set_option maxHeartbeats 8000000 in
theorem c_X1_kindOf {l : Launch} {D : va_G} {cI cJ cZ cB : ClassId} {a : Nat → Nat} {E : State → Prop} (hX : xHyp a E) (p1 : Int) (h1 : in32 p1) (st : fS)  : xMi l D cI cJ cZ cB a E yX1_kindOf wsX1_kindOf rm_X1_kindOf [.ref (a 2), .int (zI p1)] st (fun z u => z = F_X1_kindOf p1 st ∧ u = st) := by
  refine fB_open (cc := cX1_kindOf) (maxL := 2) (ret := (some .int)) (by decide) rfl (Nat.le_of_ble_eq_true rfl) hX.2 ?_
  intro p e s m below meth c C hret hlk
  have hin1 : ∀ w ∈ u_ws RX1 TX1 6, w ∈ wsX1_kindOf := by decide +kernel
  have hp : ∀ z : Int, z = F_X1_kindOf p1 st → z = F_X1_kindOf p1 st ∧ st = st := fun z h => ⟨h, rfl⟩
  refine f_aload_n C 0 dX1_kindOf_0 rfl rfl ?_
  refine f_get C hin1 2 1 rfl rfl (Nat.le_of_ble_eq_true rfl) (by decide +kernel) rfl rfl dX1_kindOf_1 ?_
  refine f_iload_n C 1 dX1_kindOf_4 rfl rfl ?_
  refine f_ok (fun hO1 => ?_)
  refine f_calll C (c_Row_get hX 4 (Nat.le_of_ble_eq_true rfl) p1 ⟨by omega, by omega⟩ st) (cwV 1 C.1.2.2.2.2 gX1_kindOf_X5_get rfl rfl rfl (by decide +kernel) ⟨Nat.le_of_ble_eq_true rfl, Nat.le_of_ble_eq_true rfl⟩) 12 (wX_row cJ a st (r := 4) (Nat.le_of_ble_eq_true rfl)) rfl rfl rfl rfl (Nat.le_of_ble_eq_true rfl) ⟨Nat.zero_le _, Nat.zero_le _⟩ dX1_kindOf_5 (fun z u hz2 hu => ?_)
  obtain ⟨qz2, rfl⟩ : z = rget 24 (st.2 4) p1 ∧ u = st := hu
  subst qz2
  have k3 : 0 ≤ rget 24 (st.2 4) p1 ∧ rget 24 (st.2 4) p1 ≤ 5 := xget_ok hO1 4 24 p1
  refine f_l2i C dX1_kindOf_8 ?_
  exact f_iret C hret hlk dX1_kindOf_9 ⟨by omega, by omega⟩ (hp _ (by rw [F_X1_kindOf]))

def F_X1_dayOf (p1 : Int) (st : fS) : Int := rget 24 (st.2 5) p1
abbrev rm_X1_dayOf : Room := { frames := 1, cells := 0, slots := 0, locals := 21 }
set_option maxRecDepth 100000 in
set_option maxHeartbeats 8000000 in
theorem c_X1_dayOf {l : Launch} {D : va_G} {cI cJ cZ cB : ClassId} {a : Nat → Nat} {E : State → Prop} (hX : xHyp a E) (p1 : Int) (h1 : in32 p1) (st : fS)  : xMl l D cI cJ cZ cB a E yX1_dayOf wsX1_dayOf rm_X1_dayOf [.ref (a 2), .int (zI p1)] st (fun z u => z = F_X1_dayOf p1 st ∧ u = st) := by
  refine fB_open (cc := cX1_dayOf) (maxL := 2) (ret := (some .long)) (by decide) rfl (Nat.le_of_ble_eq_true rfl) hX.2 ?_
  intro p e s m below meth c C hret hlk
  have hin1 : ∀ w ∈ u_ws RX1 TX1 6, w ∈ wsX1_dayOf := by decide +kernel
  have hp : ∀ z : Int, z = F_X1_dayOf p1 st → z = F_X1_dayOf p1 st ∧ st = st := fun z h => ⟨h, rfl⟩
  refine f_aload_n C 0 dX1_dayOf_0 rfl rfl ?_
  refine f_get C hin1 2 2 rfl rfl (Nat.le_of_ble_eq_true rfl) (by decide +kernel) rfl rfl dX1_dayOf_1 ?_
  refine f_iload_n C 1 dX1_dayOf_4 rfl rfl ?_
  refine f_ok (fun hO1 => ?_)
  refine f_calll C (c_Row_get hX 5 (Nat.le_of_ble_eq_true rfl) p1 ⟨by omega, by omega⟩ st) (cwV 1 C.1.2.2.2.2 gX1_dayOf_X5_get rfl rfl rfl (by decide +kernel) ⟨Nat.le_of_ble_eq_true rfl, Nat.le_of_ble_eq_true rfl⟩) 13 (wX_row cJ a st (r := 5) (Nat.le_of_ble_eq_true rfl)) rfl rfl rfl rfl (Nat.le_of_ble_eq_true rfl) ⟨Nat.zero_le _, Nat.zero_le _⟩ dX1_dayOf_5 (fun z u hz2 hu => ?_)
  obtain ⟨qz2, rfl⟩ : z = rget 24 (st.2 5) p1 ∧ u = st := hu
  subst qz2
  have k3 : 0 ≤ rget 24 (st.2 5) p1 ∧ rget 24 (st.2 5) p1 ≤ 3599 := xget_ok hO1 5 24 p1
  exact f_lret C hret hlk dX1_dayOf_8 ⟨by omega, by omega⟩ (hp _ (by rw [F_X1_dayOf]))

def F_X1_measureOf (p1 : Int) (st : fS) : Int := rget 24 (st.2 6) p1
abbrev rm_X1_measureOf : Room := { frames := 1, cells := 0, slots := 0, locals := 21 }
set_option maxRecDepth 100000 in
set_option maxHeartbeats 8000000 in
theorem c_X1_measureOf {l : Launch} {D : va_G} {cI cJ cZ cB : ClassId} {a : Nat → Nat} {E : State → Prop} (hX : xHyp a E) (p1 : Int) (h1 : in32 p1) (st : fS)  : xMl l D cI cJ cZ cB a E yX1_measureOf wsX1_measureOf rm_X1_measureOf [.ref (a 2), .int (zI p1)] st (fun z u => z = F_X1_measureOf p1 st ∧ u = st) := by
  refine fB_open (cc := cX1_measureOf) (maxL := 2) (ret := (some .long)) (by decide) rfl (Nat.le_of_ble_eq_true rfl) hX.2 ?_
  intro p e s m below meth c C hret hlk
  have hin1 : ∀ w ∈ u_ws RX1 TX1 6, w ∈ wsX1_measureOf := by decide +kernel
  have hp : ∀ z : Int, z = F_X1_measureOf p1 st → z = F_X1_measureOf p1 st ∧ st = st := fun z h => ⟨h, rfl⟩
  refine f_aload_n C 0 dX1_measureOf_0 rfl rfl ?_
  refine f_get C hin1 2 3 rfl rfl (Nat.le_of_ble_eq_true rfl) (by decide +kernel) rfl rfl dX1_measureOf_1 ?_
  refine f_iload_n C 1 dX1_measureOf_4 rfl rfl ?_
  refine f_ok (fun hO1 => ?_)
  refine f_calll C (c_Row_get hX 6 (Nat.le_of_ble_eq_true rfl) p1 ⟨by omega, by omega⟩ st) (cwV 1 C.1.2.2.2.2 gX1_measureOf_X5_get rfl rfl rfl (by decide +kernel) ⟨Nat.le_of_ble_eq_true rfl, Nat.le_of_ble_eq_true rfl⟩) 14 (wX_row cJ a st (r := 6) (Nat.le_of_ble_eq_true rfl)) rfl rfl rfl rfl (Nat.le_of_ble_eq_true rfl) ⟨Nat.zero_le _, Nat.zero_le _⟩ dX1_measureOf_5 (fun z u hz2 hu => ?_)
  obtain ⟨qz2, rfl⟩ : z = rget 24 (st.2 6) p1 ∧ u = st := hu
  subst qz2
  have k3 : 0 ≤ rget 24 (st.2 6) p1 ∧ rget 24 (st.2 6) p1 ≤ 1000000 := xget_ok hO1 6 24 p1
  exact f_lret C hret hlk dX1_measureOf_8 ⟨by omega, by omega⟩ (hp _ (by rw [F_X1_measureOf]))

def F_X2_count (st : fS) : Int := st.1 9
abbrev rm_X2_count : Room := { frames := 0, cells := 0, slots := 0, locals := 0 }
set_option maxRecDepth 100000 in
set_option maxHeartbeats 8000000 in
theorem c_X2_count {l : Launch} {D : va_G} {cI cJ cZ cB : ClassId} {a : Nat → Nat} {E : State → Prop} (hX : xHyp a E)   (st : fS)  : xMi l D cI cJ cZ cB a E yX2_count wsX2_count rm_X2_count [.ref (a 7)] st (fun z u => z = F_X2_count st ∧ u = st) := by
  refine fB_open (cc := cX2_count) (maxL := 1) (ret := (some .int)) (by decide) rfl (Nat.le_of_ble_eq_true rfl) hX.2 ?_
  intro p e s m below meth c C hret hlk
  have hin2 : ∀ w ∈ u_ws RX2 TX2 7, w ∈ wsX2_count := by decide +kernel
  have hp : ∀ z : Int, z = F_X2_count st → z = F_X2_count st ∧ st = st := fun z h => ⟨h, rfl⟩
  refine f_aload_n C 0 dX2_count_0 rfl rfl ?_
  refine f_ok (fun hO1 => ?_)
  have k2 : 0 ≤ st.1 9 ∧ st.1 9 ≤ 24 := hO1.1 9
  refine f_get C (v := .int (zI (st.1 9))) hin2 7 5 rfl rfl (Nat.le_of_ble_eq_true rfl) (by decide +kernel) rfl rfl dX2_count_1 ?_
  exact f_iret C hret hlk dX2_count_4 ⟨by omega, by omega⟩ (hp _ (by rw [F_X2_count]))

def F_X2_has (p1 : Int) (st : fS) : Int := if p1 < 0 then 0 else (if (st.1 9) ≤ p1 then 0 else 1)
abbrev rm_X2_has : Room := { frames := 0, cells := 0, slots := 0, locals := 0 }
set_option maxRecDepth 100000 in
set_option maxHeartbeats 8000000 in
theorem c_X2_has {l : Launch} {D : va_G} {cI cJ cZ cB : ClassId} {a : Nat → Nat} {E : State → Prop} (hX : xHyp a E) (p1 : Int) (h1 : in32 p1) (st : fS)  : xMi l D cI cJ cZ cB a E yX2_has wsX2_has rm_X2_has [.ref (a 7), .int (zI p1)] st (fun z u => z = F_X2_has p1 st ∧ u = st) := by
  refine fB_open (cc := cX2_has) (maxL := 2) (ret := (some .boolean)) (by decide) rfl (Nat.le_of_ble_eq_true rfl) hX.2 ?_
  intro p e s m below meth c C hret hlk
  have hin2 : ∀ w ∈ u_ws RX2 TX2 7, w ∈ wsX2_has := by decide +kernel
  have hp : ∀ z : Int, z = F_X2_has p1 st → z = F_X2_has p1 st ∧ st = st := fun z h => ⟨h, rfl⟩
  refine f_iload_n C 1 dX2_has_0 rfl rfl ?_
  refine f_if_lt C 16 ⟨by omega, by omega⟩ dX2_has_1 (by decide) (fun c1 => ?_) (fun c1 => ?_)
  · refine f_iconst C dX2_has_16 ?_
    exact f_zret C hret hlk dX2_has_17 (by decide) (hp _ (by rw [F_X2_has, if_pos c1]))
  refine f_iload_n C 1 dX2_has_4 rfl rfl ?_
  refine f_aload_n C 0 dX2_has_5 rfl rfl ?_
  refine f_ok (fun hO2 => ?_)
  have k3 : 0 ≤ st.1 9 ∧ st.1 9 ≤ 24 := hO2.1 9
  refine f_get C (v := .int (zI (st.1 9))) hin2 7 5 rfl rfl (Nat.le_of_ble_eq_true rfl) (by decide +kernel) rfl rfl dX2_has_6 ?_
  refine f_icmp_ge C 16 ⟨by omega, by omega⟩ ⟨by omega, by omega⟩ dX2_has_9 (by decide) (fun c4 => ?_) (fun c4 => ?_)
  · refine f_iconst C dX2_has_16 ?_
    exact f_zret C hret hlk dX2_has_17 (by decide) (hp _ (by rw [F_X2_has, if_neg c1, if_pos c4]))
  refine f_iconst C dX2_has_12 ?_
  refine f_goto C 17 dX2_has_13 (by decide) ?_
  exact f_zret C hret hlk dX2_has_17 (by decide) (hp _ (by rw [F_X2_has, if_neg c1, if_neg c4]))

def F_X2_factOf (p1 : Int) (st : fS) : Int := rget 24 (st.2 24) p1
abbrev rm_X2_factOf : Room := { frames := 1, cells := 0, slots := 0, locals := 21 }
set_option maxRecDepth 100000 in
set_option maxHeartbeats 8000000 in
theorem c_X2_factOf {l : Launch} {D : va_G} {cI cJ cZ cB : ClassId} {a : Nat → Nat} {E : State → Prop} (hX : xHyp a E) (p1 : Int) (h1 : in32 p1) (st : fS)  : xMl l D cI cJ cZ cB a E yX2_factOf wsX2_factOf rm_X2_factOf [.ref (a 7), .int (zI p1)] st (fun z u => z = F_X2_factOf p1 st ∧ u = st) := by
  refine fB_open (cc := cX2_factOf) (maxL := 2) (ret := (some .long)) (by decide) rfl (Nat.le_of_ble_eq_true rfl) hX.2 ?_
  intro p e s m below meth c C hret hlk
  have hin2 : ∀ w ∈ u_ws RX2 TX2 7, w ∈ wsX2_factOf := by decide +kernel
  have hp : ∀ z : Int, z = F_X2_factOf p1 st → z = F_X2_factOf p1 st ∧ st = st := fun z h => ⟨h, rfl⟩
  refine f_aload_n C 0 dX2_factOf_0 rfl rfl ?_
  refine f_get C hin2 7 0 rfl rfl (Nat.le_of_ble_eq_true rfl) (by decide +kernel) rfl rfl dX2_factOf_1 ?_
  refine f_iload_n C 1 dX2_factOf_4 rfl rfl ?_
  refine f_ok (fun hO1 => ?_)
  refine f_calll C (c_Row_get hX 24 (Nat.le_of_ble_eq_true rfl) p1 ⟨by omega, by omega⟩ st) (cwV 1 C.1.2.2.2.2 gX2_factOf_X5_get rfl rfl rfl (by decide +kernel) ⟨Nat.le_of_ble_eq_true rfl, Nat.le_of_ble_eq_true rfl⟩) 32 (wX_row cJ a st (r := 24) (Nat.le_of_ble_eq_true rfl)) rfl rfl rfl rfl (Nat.le_of_ble_eq_true rfl) ⟨Nat.zero_le _, Nat.zero_le _⟩ dX2_factOf_5 (fun z u hz2 hu => ?_)
  obtain ⟨qz2, rfl⟩ : z = rget 24 (st.2 24) p1 ∧ u = st := hu
  subst qz2
  have k3 : 0 ≤ rget 24 (st.2 24) p1 ∧ rget 24 (st.2 24) p1 ≤ 23 := xget_ok hO1 24 24 p1
  exact f_lret C hret hlk dX2_factOf_8 ⟨by omega, by omega⟩ (hp _ (by rw [F_X2_factOf]))

def F_X2_centsOf (p1 : Int) (st : fS) : Int := rget 24 (st.2 25) p1
abbrev rm_X2_centsOf : Room := { frames := 1, cells := 0, slots := 0, locals := 21 }
set_option maxRecDepth 100000 in
set_option maxHeartbeats 8000000 in
theorem c_X2_centsOf {l : Launch} {D : va_G} {cI cJ cZ cB : ClassId} {a : Nat → Nat} {E : State → Prop} (hX : xHyp a E) (p1 : Int) (h1 : in32 p1) (st : fS)  : xMl l D cI cJ cZ cB a E yX2_centsOf wsX2_centsOf rm_X2_centsOf [.ref (a 7), .int (zI p1)] st (fun z u => z = F_X2_centsOf p1 st ∧ u = st) := by
  refine fB_open (cc := cX2_centsOf) (maxL := 2) (ret := (some .long)) (by decide) rfl (Nat.le_of_ble_eq_true rfl) hX.2 ?_
  intro p e s m below meth c C hret hlk
  have hin2 : ∀ w ∈ u_ws RX2 TX2 7, w ∈ wsX2_centsOf := by decide +kernel
  have hp : ∀ z : Int, z = F_X2_centsOf p1 st → z = F_X2_centsOf p1 st ∧ st = st := fun z h => ⟨h, rfl⟩
  refine f_aload_n C 0 dX2_centsOf_0 rfl rfl ?_
  refine f_get C hin2 7 1 rfl rfl (Nat.le_of_ble_eq_true rfl) (by decide +kernel) rfl rfl dX2_centsOf_1 ?_
  refine f_iload_n C 1 dX2_centsOf_4 rfl rfl ?_
  refine f_ok (fun hO1 => ?_)
  refine f_calll C (c_Row_get hX 25 (Nat.le_of_ble_eq_true rfl) p1 ⟨by omega, by omega⟩ st) (cwV 1 C.1.2.2.2.2 gX2_centsOf_X5_get rfl rfl rfl (by decide +kernel) ⟨Nat.le_of_ble_eq_true rfl, Nat.le_of_ble_eq_true rfl⟩) 33 (wX_row cJ a st (r := 25) (Nat.le_of_ble_eq_true rfl)) rfl rfl rfl rfl (Nat.le_of_ble_eq_true rfl) ⟨Nat.zero_le _, Nat.zero_le _⟩ dX2_centsOf_5 (fun z u hz2 hu => ?_)
  obtain ⟨qz2, rfl⟩ : z = rget 24 (st.2 25) p1 ∧ u = st := hu
  subst qz2
  have k3 : (-1) ≤ rget 24 (st.2 25) p1 ∧ rget 24 (st.2 25) p1 ≤ 1000000000000 := xget_ok hO1 25 24 p1
  exact f_lret C hret hlk dX2_centsOf_8 ⟨by omega, by omega⟩ (hp _ (by rw [F_X2_centsOf]))

def F_X2_editionOf (p1 : Int) (st : fS) : Int := rget 24 (st.2 26) p1
abbrev rm_X2_editionOf : Room := { frames := 1, cells := 0, slots := 0, locals := 21 }
set_option maxRecDepth 100000 in
set_option maxHeartbeats 8000000 in
theorem c_X2_editionOf {l : Launch} {D : va_G} {cI cJ cZ cB : ClassId} {a : Nat → Nat} {E : State → Prop} (hX : xHyp a E) (p1 : Int) (h1 : in32 p1) (st : fS)  : xMl l D cI cJ cZ cB a E yX2_editionOf wsX2_editionOf rm_X2_editionOf [.ref (a 7), .int (zI p1)] st (fun z u => z = F_X2_editionOf p1 st ∧ u = st) := by
  refine fB_open (cc := cX2_editionOf) (maxL := 2) (ret := (some .long)) (by decide) rfl (Nat.le_of_ble_eq_true rfl) hX.2 ?_
  intro p e s m below meth c C hret hlk
  have hin2 : ∀ w ∈ u_ws RX2 TX2 7, w ∈ wsX2_editionOf := by decide +kernel
  have hp : ∀ z : Int, z = F_X2_editionOf p1 st → z = F_X2_editionOf p1 st ∧ st = st := fun z h => ⟨h, rfl⟩
  refine f_aload_n C 0 dX2_editionOf_0 rfl rfl ?_
  refine f_get C hin2 7 2 rfl rfl (Nat.le_of_ble_eq_true rfl) (by decide +kernel) rfl rfl dX2_editionOf_1 ?_
  refine f_iload_n C 1 dX2_editionOf_4 rfl rfl ?_
  refine f_ok (fun hO1 => ?_)
  refine f_calll C (c_Row_get hX 26 (Nat.le_of_ble_eq_true rfl) p1 ⟨by omega, by omega⟩ st) (cwV 1 C.1.2.2.2.2 gX2_editionOf_X5_get rfl rfl rfl (by decide +kernel) ⟨Nat.le_of_ble_eq_true rfl, Nat.le_of_ble_eq_true rfl⟩) 34 (wX_row cJ a st (r := 26) (Nat.le_of_ble_eq_true rfl)) rfl rfl rfl rfl (Nat.le_of_ble_eq_true rfl) ⟨Nat.zero_le _, Nat.zero_le _⟩ dX2_editionOf_5 (fun z u hz2 hu => ?_)
  obtain ⟨qz2, rfl⟩ : z = rget 24 (st.2 26) p1 ∧ u = st := hu
  subst qz2
  have k3 : (-1) ≤ rget 24 (st.2 26) p1 ∧ rget 24 (st.2 26) p1 ≤ 5 := xget_ok hO1 26 24 p1
  exact f_lret C hret hlk dX2_editionOf_8 ⟨by omega, by omega⟩ (hp _ (by rw [F_X2_editionOf]))

def F_X2_lackOf (p1 : Int) (st : fS) : Int := rget 24 (st.2 27) p1
abbrev rm_X2_lackOf : Room := { frames := 1, cells := 0, slots := 0, locals := 21 }
set_option maxRecDepth 100000 in
set_option maxHeartbeats 8000000 in
theorem c_X2_lackOf {l : Launch} {D : va_G} {cI cJ cZ cB : ClassId} {a : Nat → Nat} {E : State → Prop} (hX : xHyp a E) (p1 : Int) (h1 : in32 p1) (st : fS)  : xMl l D cI cJ cZ cB a E yX2_lackOf wsX2_lackOf rm_X2_lackOf [.ref (a 7), .int (zI p1)] st (fun z u => z = F_X2_lackOf p1 st ∧ u = st) := by
  refine fB_open (cc := cX2_lackOf) (maxL := 2) (ret := (some .long)) (by decide) rfl (Nat.le_of_ble_eq_true rfl) hX.2 ?_
  intro p e s m below meth c C hret hlk
  have hin2 : ∀ w ∈ u_ws RX2 TX2 7, w ∈ wsX2_lackOf := by decide +kernel
  have hp : ∀ z : Int, z = F_X2_lackOf p1 st → z = F_X2_lackOf p1 st ∧ st = st := fun z h => ⟨h, rfl⟩
  refine f_aload_n C 0 dX2_lackOf_0 rfl rfl ?_
  refine f_get C hin2 7 3 rfl rfl (Nat.le_of_ble_eq_true rfl) (by decide +kernel) rfl rfl dX2_lackOf_1 ?_
  refine f_iload_n C 1 dX2_lackOf_4 rfl rfl ?_
  refine f_ok (fun hO1 => ?_)
  refine f_calll C (c_Row_get hX 27 (Nat.le_of_ble_eq_true rfl) p1 ⟨by omega, by omega⟩ st) (cwV 1 C.1.2.2.2.2 gX2_lackOf_X5_get rfl rfl rfl (by decide +kernel) ⟨Nat.le_of_ble_eq_true rfl, Nat.le_of_ble_eq_true rfl⟩) 35 (wX_row cJ a st (r := 27) (Nat.le_of_ble_eq_true rfl)) rfl rfl rfl rfl (Nat.le_of_ble_eq_true rfl) ⟨Nat.zero_le _, Nat.zero_le _⟩ dX2_lackOf_5 (fun z u hz2 hu => ?_)
  obtain ⟨qz2, rfl⟩ : z = rget 24 (st.2 27) p1 ∧ u = st := hu
  subst qz2
  have k3 : 0 ≤ rget 24 (st.2 27) p1 ∧ rget 24 (st.2 27) p1 ≤ 2 := xget_ok hO1 27 24 p1
  exact f_lret C hret hlk dX2_lackOf_8 ⟨by omega, by omega⟩ (hp _ (by rw [F_X2_lackOf]))

def F_X2_printedByte (p1 : Int) (st : fS) : Int := if p1 < 0 then (-1) else (if (st.1 10) ≤ p1 then (-1) else rget 552 (st.2 28) p1)
abbrev rm_X2_printedByte : Room := { frames := 1, cells := 0, slots := 0, locals := 21 }
set_option maxRecDepth 100000 in
set_option maxHeartbeats 8000000 in
theorem c_X2_printedByte {l : Launch} {D : va_G} {cI cJ cZ cB : ClassId} {a : Nat → Nat} {E : State → Prop} (hX : xHyp a E) (p1 : Int) (h1 : in32 p1) (st : fS)  : xMi l D cI cJ cZ cB a E yX2_printedByte wsX2_printedByte rm_X2_printedByte [.ref (a 7), .int (zI p1)] st (fun z u => z = F_X2_printedByte p1 st ∧ u = st) := by
  refine fB_open (cc := cX2_printedByte) (maxL := 2) (ret := (some .int)) (by decide) rfl (Nat.le_of_ble_eq_true rfl) hX.2 ?_
  intro p e s m below meth c C hret hlk
  have hin2 : ∀ w ∈ u_ws RX2 TX2 7, w ∈ wsX2_printedByte := by decide +kernel
  have hp : ∀ z : Int, z = F_X2_printedByte p1 st → z = F_X2_printedByte p1 st ∧ st = st := fun z h => ⟨h, rfl⟩
  refine f_iload_n C 1 dX2_printedByte_0 rfl rfl ?_
  refine f_if_lt C 24 ⟨by omega, by omega⟩ dX2_printedByte_1 (by decide) (fun c1 => ?_) (fun c1 => ?_)
  · refine f_iconst C dX2_printedByte_24 ?_
    exact f_iret C hret hlk dX2_printedByte_25 ⟨by decide, by decide⟩ (hp _ (by rw [F_X2_printedByte, if_pos c1]))
  refine f_iload_n C 1 dX2_printedByte_4 rfl rfl ?_
  refine f_aload_n C 0 dX2_printedByte_5 rfl rfl ?_
  refine f_ok (fun hO2 => ?_)
  have k3 : (-1000000000) ≤ st.1 10 ∧ st.1 10 ≤ 1000000000 := hO2.1 10
  refine f_get C (v := .int (zI (st.1 10))) hin2 7 6 rfl rfl (Nat.le_of_ble_eq_true rfl) (by decide +kernel) rfl rfl dX2_printedByte_6 ?_
  refine f_icmp_ge C 24 ⟨by omega, by omega⟩ ⟨by omega, by omega⟩ dX2_printedByte_9 (by decide) (fun c4 => ?_) (fun c4 => ?_)
  · refine f_iconst C dX2_printedByte_24 ?_
    exact f_iret C hret hlk dX2_printedByte_25 ⟨by decide, by decide⟩ (hp _ (by rw [F_X2_printedByte, if_neg c1, if_pos c4]))
  refine f_aload_n C 0 dX2_printedByte_12 rfl rfl ?_
  refine f_get C hin2 7 4 rfl rfl (Nat.le_of_ble_eq_true rfl) (by decide +kernel) rfl rfl dX2_printedByte_13 ?_
  refine f_iload_n C 1 dX2_printedByte_16 rfl rfl ?_
  refine f_calll C (c_Row_get hX 28 (Nat.le_of_ble_eq_true rfl) p1 ⟨by omega, by omega⟩ st) (cwV 1 C.1.2.2.2.2 gX2_printedByte_X5_get rfl rfl rfl (by decide +kernel) ⟨Nat.le_of_ble_eq_true rfl, Nat.le_of_ble_eq_true rfl⟩) 36 (wX_row cJ a st (r := 28) (Nat.le_of_ble_eq_true rfl)) rfl rfl rfl rfl (Nat.le_of_ble_eq_true rfl) ⟨Nat.zero_le _, Nat.zero_le _⟩ dX2_printedByte_17 (fun z u hz5 hu => ?_)
  obtain ⟨qz5, rfl⟩ : z = rget 552 (st.2 28) p1 ∧ u = st := hu
  subst qz5
  have k6 : 0 ≤ rget 552 (st.2 28) p1 ∧ rget 552 (st.2 28) p1 ≤ 255 := xget_ok hO2 28 552 p1
  refine f_l2i C dX2_printedByte_20 ?_
  refine f_goto C 25 dX2_printedByte_21 (by decide) ?_
  exact f_iret C hret hlk dX2_printedByte_25 ⟨by omega, by omega⟩ (hp _ (by rw [F_X2_printedByte, if_neg c1, if_neg c4]))

def F_X3_has (p1 : Int) (st : fS) : Int := if p1 < 0 then 0 else (if (st.1 0) ≤ p1 then 0 else 1)
abbrev rm_X3_has : Room := { frames := 0, cells := 0, slots := 0, locals := 0 }
set_option maxRecDepth 100000 in
set_option maxHeartbeats 8000000 in
theorem c_X3_has {l : Launch} {D : va_G} {cI cJ cZ cB : ClassId} {a : Nat → Nat} {E : State → Prop} (hX : xHyp a E) (p1 : Int) (h1 : in32 p1) (st : fS)  : xMi l D cI cJ cZ cB a E yX3_has wsX3_has rm_X3_has [.ref (a 1), .int (zI p1)] st (fun z u => z = F_X3_has p1 st ∧ u = st) := by
  refine fB_open (cc := cX3_has) (maxL := 2) (ret := (some .boolean)) (by decide) rfl (Nat.le_of_ble_eq_true rfl) hX.2 ?_
  intro p e s m below meth c C hret hlk
  have hin3 : ∀ w ∈ u_ws RX3 TX3 4, w ∈ wsX3_has := by decide +kernel
  have hp : ∀ z : Int, z = F_X3_has p1 st → z = F_X3_has p1 st ∧ st = st := fun z h => ⟨h, rfl⟩
  refine f_iload_n C 1 dX3_has_0 rfl rfl ?_
  refine f_if_lt C 16 ⟨by omega, by omega⟩ dX3_has_1 (by decide) (fun c1 => ?_) (fun c1 => ?_)
  · refine f_iconst C dX3_has_16 ?_
    exact f_zret C hret hlk dX3_has_17 (by decide) (hp _ (by rw [F_X3_has, if_pos c1]))
  refine f_iload_n C 1 dX3_has_4 rfl rfl ?_
  refine f_aload_n C 0 dX3_has_5 rfl rfl ?_
  refine f_ok (fun hO2 => ?_)
  have k3 : 0 ≤ st.1 0 ∧ st.1 0 ≤ 4 := hO2.1 0
  refine f_get C (v := .int (zI (st.1 0))) hin3 1 3 rfl rfl (Nat.le_of_ble_eq_true rfl) (by decide +kernel) rfl rfl dX3_has_6 ?_
  refine f_icmp_ge C 16 ⟨by omega, by omega⟩ ⟨by omega, by omega⟩ dX3_has_9 (by decide) (fun c4 => ?_) (fun c4 => ?_)
  · refine f_iconst C dX3_has_16 ?_
    exact f_zret C hret hlk dX3_has_17 (by decide) (hp _ (by rw [F_X3_has, if_neg c1, if_pos c4]))
  refine f_iconst C dX3_has_12 ?_
  refine f_goto C 17 dX3_has_13 (by decide) ?_
  exact f_zret C hret hlk dX3_has_17 (by decide) (hp _ (by rw [F_X3_has, if_neg c1, if_neg c4]))

def F_X3_hasFlat (p1 p2 : Int) (st : fS) : Int := if (F_X3_has p1 st) = 0 then 0 else (if p2 < 0 then 0 else (if (rget 4 (st.2 0) p1) ≤ p2 then 0 else 1))
abbrev rm_X3_hasFlat : Room := { frames := 1, cells := 0, slots := 0, locals := 21 }
set_option maxRecDepth 100000 in
set_option maxHeartbeats 8000000 in
theorem c_X3_hasFlat {l : Launch} {D : va_G} {cI cJ cZ cB : ClassId} {a : Nat → Nat} {E : State → Prop} (hX : xHyp a E) (p1 p2 : Int) (h1 : in32 p1) (h2 : in32 p2) (st : fS)  : xMi l D cI cJ cZ cB a E yX3_hasFlat wsX3_hasFlat rm_X3_hasFlat [.ref (a 1), .int (zI p1), .int (zI p2)] st (fun z u => z = F_X3_hasFlat p1 p2 st ∧ u = st) := by
  refine fB_open (cc := cX3_hasFlat) (maxL := 3) (ret := (some .boolean)) (by decide) rfl (Nat.le_of_ble_eq_true rfl) hX.2 ?_
  intro p e s m below meth c C hret hlk
  have hin3 : ∀ w ∈ u_ws RX3 TX3 4, w ∈ wsX3_hasFlat := by decide +kernel
  have hp : ∀ z : Int, z = F_X3_hasFlat p1 p2 st → z = F_X3_hasFlat p1 p2 st ∧ st = st := fun z h => ⟨h, rfl⟩
  refine f_aload_n C 0 dX3_hasFlat_0 rfl rfl ?_
  refine f_iload_n C 1 dX3_hasFlat_1 rfl rfl ?_
  refine f_calli C (c_X3_has hX p1 ⟨by omega, by omega⟩ st) (cwV 1 C.1.2.2.2.2 gX3_hasFlat_X3_has rfl rfl rfl (by decide +kernel) ⟨Nat.le_of_ble_eq_true rfl, Nat.le_of_ble_eq_true rfl⟩) 1 rfl rfl rfl rfl rfl (Nat.le_of_ble_eq_true rfl) ⟨Nat.zero_le _, Nat.zero_le _⟩ dX3_hasFlat_2 (fun z u hz1 hu => ?_)
  obtain ⟨rfl, rfl⟩ := hu
  refine f_if_eq C 30 ⟨by omega, by omega⟩ dX3_hasFlat_5 (by decide) (fun c2 => ?_) (fun c2 => ?_)
  · refine f_iconst C dX3_hasFlat_30 ?_
    exact f_zret C hret hlk dX3_hasFlat_31 (by decide) (hp _ (by rw [F_X3_hasFlat, if_pos c2]))
  refine f_iload_n C 2 dX3_hasFlat_8 rfl rfl ?_
  refine f_if_lt C 30 ⟨by omega, by omega⟩ dX3_hasFlat_9 (by decide) (fun c3 => ?_) (fun c3 => ?_)
  · refine f_iconst C dX3_hasFlat_30 ?_
    exact f_zret C hret hlk dX3_hasFlat_31 (by decide) (hp _ (by rw [F_X3_hasFlat, if_neg c2, if_pos c3]))
  refine f_iload_n C 2 dX3_hasFlat_12 rfl rfl ?_
  refine f_i2l C ⟨by omega, by omega⟩ dX3_hasFlat_13 ?_
  refine f_aload_n C 0 dX3_hasFlat_14 rfl rfl ?_
  refine f_get C hin3 1 0 rfl rfl (Nat.le_of_ble_eq_true rfl) (by decide +kernel) rfl rfl dX3_hasFlat_15 ?_
  refine f_iload_n C 1 dX3_hasFlat_18 rfl rfl ?_
  refine f_ok (fun hO4 => ?_)
  refine f_calll C (c_Row_get hX 0 (Nat.le_of_ble_eq_true rfl) p1 ⟨by omega, by omega⟩ st) (cwV 1 C.1.2.2.2.2 gX3_hasFlat_X5_get rfl rfl rfl (by decide +kernel) ⟨Nat.le_of_ble_eq_true rfl, Nat.le_of_ble_eq_true rfl⟩) 8 (wX_row cJ a st (r := 0) (Nat.le_of_ble_eq_true rfl)) rfl rfl rfl rfl (Nat.le_of_ble_eq_true rfl) ⟨Nat.zero_le _, Nat.zero_le _⟩ dX3_hasFlat_19 (fun z u hz5 hu => ?_)
  obtain ⟨qz5, rfl⟩ : z = rget 4 (st.2 0) p1 ∧ u = st := hu
  subst qz5
  have k6 : 0 ≤ rget 4 (st.2 0) p1 ∧ rget 4 (st.2 0) p1 ≤ 6 := xget_ok hO4 0 4 p1
  refine f_lc_if_ge C 30 ⟨by omega, by omega⟩ ⟨by omega, by omega⟩ dX3_hasFlat_22 dX3_hasFlat_23 (by decide) (fun c7 => ?_) (fun c7 => ?_)
  · refine f_iconst C dX3_hasFlat_30 ?_
    exact f_zret C hret hlk dX3_hasFlat_31 (by decide) (hp _ (by rw [F_X3_hasFlat, if_neg c2, if_neg c3, if_pos c7]))
  refine f_iconst C dX3_hasFlat_26 ?_
  refine f_goto C 31 dX3_hasFlat_27 (by decide) ?_
  exact f_zret C hret hlk dX3_hasFlat_31 (by decide) (hp _ (by rw [F_X3_hasFlat, if_neg c2, if_neg c3, if_neg c7]))

def F_X3_weightOf (p1 p2 : Int) (st : fS) : Int := rget 24 (st.2 1) ((p1 * 6) + p2)
abbrev rm_X3_weightOf : Room := { frames := 1, cells := 0, slots := 0, locals := 21 }
set_option maxRecDepth 100000 in
set_option maxHeartbeats 8000000 in
theorem c_X3_weightOf {l : Launch} {D : va_G} {cI cJ cZ cB : ClassId} {a : Nat → Nat} {E : State → Prop} (hX : xHyp a E) (p1 p2 : Int) (h1 : in32 p1) (h2 : in32 p2) (st : fS)  : xMl l D cI cJ cZ cB a E yX3_weightOf wsX3_weightOf rm_X3_weightOf [.ref (a 1), .int (zI p1), .int (zI p2)] st (fun z u => z = F_X3_weightOf p1 p2 st ∧ u = st) := by
  refine fB_open (cc := cX3_weightOf) (maxL := 3) (ret := (some .long)) (by decide) rfl (Nat.le_of_ble_eq_true rfl) hX.2 ?_
  intro p e s m below meth c C hret hlk
  have hin3 : ∀ w ∈ u_ws RX3 TX3 4, w ∈ wsX3_weightOf := by decide +kernel
  have hp : ∀ z : Int, z = F_X3_weightOf p1 p2 st → z = F_X3_weightOf p1 p2 st ∧ st = st := fun z h => ⟨h, rfl⟩
  refine f_aload_n C 0 dX3_weightOf_0 rfl rfl ?_
  refine f_get C hin3 1 1 rfl rfl (Nat.le_of_ble_eq_true rfl) (by decide +kernel) rfl rfl dX3_weightOf_1 ?_
  refine f_iload_n C 1 dX3_weightOf_4 rfl rfl ?_
  refine f_bipush C dX3_weightOf_5 (by decide) ?_
  refine f_imul C dX3_weightOf_7 ?_
  refine f_iload_n C 2 dX3_weightOf_8 rfl rfl ?_
  refine f_iadd C dX3_weightOf_9 ?_
  refine f_ok (fun hO1 => ?_)
  refine f_calll C (c_Row_get hX 1 (Nat.le_of_ble_eq_true rfl) ((p1 * 6) + p2) ⟨by omega, by omega⟩ st) (cwV 1 C.1.2.2.2.2 gX3_weightOf_X5_get rfl rfl rfl (by decide +kernel) ⟨Nat.le_of_ble_eq_true rfl, Nat.le_of_ble_eq_true rfl⟩) 9 (wX_row cJ a st (r := 1) (Nat.le_of_ble_eq_true rfl)) rfl rfl rfl rfl (Nat.le_of_ble_eq_true rfl) ⟨Nat.zero_le _, Nat.zero_le _⟩ dX3_weightOf_10 (fun z u hz2 hu => ?_)
  obtain ⟨qz2, rfl⟩ : z = rget 24 (st.2 1) ((p1 * 6) + p2) ∧ u = st := hu
  subst qz2
  have k3 : 0 ≤ rget 24 (st.2 1) ((p1 * 6) + p2) ∧ rget 24 (st.2 1) ((p1 * 6) + p2) ≤ 1000 := xget_ok hO1 1 24 ((p1 * 6) + p2)
  exact f_lret C hret hlk dX3_weightOf_13 ⟨by omega, by omega⟩ (hp _ (by rw [F_X3_weightOf]))

def F_X3_issuedOf (p1 p2 : Int) (st : fS) : Int := rget 480 (st.2 2) ((p1 * 120) + p2)
abbrev rm_X3_issuedOf : Room := { frames := 1, cells := 0, slots := 0, locals := 21 }
set_option maxRecDepth 100000 in
set_option maxHeartbeats 8000000 in
theorem c_X3_issuedOf {l : Launch} {D : va_G} {cI cJ cZ cB : ClassId} {a : Nat → Nat} {E : State → Prop} (hX : xHyp a E) (p1 p2 : Int) (h1 : in32 p1) (h2 : in32 p2) (st : fS)  : xMl l D cI cJ cZ cB a E yX3_issuedOf wsX3_issuedOf rm_X3_issuedOf [.ref (a 1), .int (zI p1), .int (zI p2)] st (fun z u => z = F_X3_issuedOf p1 p2 st ∧ u = st) := by
  refine fB_open (cc := cX3_issuedOf) (maxL := 3) (ret := (some .long)) (by decide) rfl (Nat.le_of_ble_eq_true rfl) hX.2 ?_
  intro p e s m below meth c C hret hlk
  have hin3 : ∀ w ∈ u_ws RX3 TX3 4, w ∈ wsX3_issuedOf := by decide +kernel
  have hp : ∀ z : Int, z = F_X3_issuedOf p1 p2 st → z = F_X3_issuedOf p1 p2 st ∧ st = st := fun z h => ⟨h, rfl⟩
  refine f_aload_n C 0 dX3_issuedOf_0 rfl rfl ?_
  refine f_get C hin3 1 2 rfl rfl (Nat.le_of_ble_eq_true rfl) (by decide +kernel) rfl rfl dX3_issuedOf_1 ?_
  refine f_iload_n C 1 dX3_issuedOf_4 rfl rfl ?_
  refine f_bipush C dX3_issuedOf_5 (by decide) ?_
  refine f_imul C dX3_issuedOf_7 ?_
  refine f_iload_n C 2 dX3_issuedOf_8 rfl rfl ?_
  refine f_iadd C dX3_issuedOf_9 ?_
  refine f_ok (fun hO1 => ?_)
  refine f_calll C (c_Row_get hX 2 (Nat.le_of_ble_eq_true rfl) ((p1 * 120) + p2) ⟨by omega, by omega⟩ st) (cwV 1 C.1.2.2.2.2 gX3_issuedOf_X5_get rfl rfl rfl (by decide +kernel) ⟨Nat.le_of_ble_eq_true rfl, Nat.le_of_ble_eq_true rfl⟩) 10 (wX_row cJ a st (r := 2) (Nat.le_of_ble_eq_true rfl)) rfl rfl rfl rfl (Nat.le_of_ble_eq_true rfl) ⟨Nat.zero_le _, Nat.zero_le _⟩ dX3_issuedOf_10 (fun z u hz2 hu => ?_)
  obtain ⟨qz2, rfl⟩ : z = rget 480 (st.2 2) ((p1 * 120) + p2) ∧ u = st := hu
  subst qz2
  have k3 : 0 ≤ rget 480 (st.2 2) ((p1 * 120) + p2) ∧ rget 480 (st.2 2) ((p1 * 120) + p2) ≤ 100000000000000 := xget_ok hO1 2 480 ((p1 * 120) + p2)
  exact f_lret C hret hlk dX3_issuedOf_13 ⟨by omega, by omega⟩ (hp _ (by rw [F_X3_issuedOf]))

def F_X7_isBlank (p0 : Int) (st : fS) : Int := if p0 = 32 then 1 else (if p0 = 10 then 1 else 0)
abbrev rm_X7_isBlank : Room := { frames := 0, cells := 0, slots := 0, locals := 0 }
set_option maxRecDepth 100000 in
set_option maxHeartbeats 8000000 in
theorem c_X7_isBlank {l : Launch} {D : va_G} {cI cJ cZ cB : ClassId} {a : Nat → Nat} {E : State → Prop} (hX : xHyp a E) (p0 : Int) (h0 : in64 p0) (st : fS)  : xMi l D cI cJ cZ cB a E yX7_isBlank wsX7_isBlank rm_X7_isBlank [.long (zJ p0)] st (fun z u => z = F_X7_isBlank p0 st ∧ u = st) := by
  refine fB_open (cc := cX7_isBlank) (maxL := 2) (ret := (some .boolean)) (by decide) rfl (Nat.le_of_ble_eq_true rfl) hX.2 ?_
  intro p e s m below meth c C hret hlk
  have hp : ∀ z : Int, z = F_X7_isBlank p0 st → z = F_X7_isBlank p0 st ∧ st = st := fun z h => ⟨h, rfl⟩
  refine f_lload_n C 0 dX7_isBlank_0 rfl rfl ?_
  refine f_ldc2 C (z := 32) (by decide +kernel) (by decide) dX7_isBlank_1 ?_
  refine f_lc_if_eq C 16 ⟨by omega, by omega⟩ ⟨by decide, by decide⟩ dX7_isBlank_4 dX7_isBlank_5 (by decide) (fun c1 => ?_) (fun c1 => ?_)
  · refine f_iconst C dX7_isBlank_16 ?_
    refine f_goto C 21 dX7_isBlank_17 (by decide) ?_
    exact f_zret C hret hlk dX7_isBlank_21 (by decide) (hp _ (by rw [F_X7_isBlank, if_pos c1]))
  refine f_lload_n C 0 dX7_isBlank_8 rfl rfl ?_
  refine f_ldc2 C (z := 10) (by decide +kernel) (by decide) dX7_isBlank_9 ?_
  refine f_lc_if_ne C 20 ⟨by omega, by omega⟩ ⟨by decide, by decide⟩ dX7_isBlank_12 dX7_isBlank_13 (by decide) (fun c2 => ?_) (fun c2 => ?_)
  · refine f_iconst C dX7_isBlank_20 ?_
    exact f_zret C hret hlk dX7_isBlank_21 (by decide) (hp _ (by rw [F_X7_isBlank, if_neg c1, if_neg c2]))
  refine f_iconst C dX7_isBlank_16 ?_
  refine f_goto C 21 dX7_isBlank_17 (by decide) ?_
  exact f_zret C hret hlk dX7_isBlank_21 (by decide) (hp _ (by rw [F_X7_isBlank, if_neg c1, if_pos c2]))

def F_X7_hasWord (st : fS) : Int := if (st.1 4) ≤ (st.1 3) then 0 else 1
abbrev rm_X7_hasWord : Room := { frames := 0, cells := 0, slots := 0, locals := 0 }
set_option maxRecDepth 100000 in
set_option maxHeartbeats 8000000 in
theorem c_X7_hasWord {l : Launch} {D : va_G} {cI cJ cZ cB : ClassId} {a : Nat → Nat} {E : State → Prop} (hX : xHyp a E)   (st : fS)  : xMi l D cI cJ cZ cB a E yX7_hasWord wsX7_hasWord rm_X7_hasWord [.ref (a 3)] st (fun z u => z = F_X7_hasWord st ∧ u = st) := by
  refine fB_open (cc := cX7_hasWord) (maxL := 1) (ret := (some .boolean)) (by decide) rfl (Nat.le_of_ble_eq_true rfl) hX.2 ?_
  intro p e s m below meth c C hret hlk
  have hin7 : ∀ w ∈ u_ws RX7 TX7 5, w ∈ wsX7_hasWord := by decide +kernel
  have hp : ∀ z : Int, z = F_X7_hasWord st → z = F_X7_hasWord st ∧ st = st := fun z h => ⟨h, rfl⟩
  refine f_aload_n C 0 dX7_hasWord_0 rfl rfl ?_
  refine f_ok (fun hO1 => ?_)
  have k2 : 0 ≤ st.1 3 ∧ st.1 3 ≤ 600 := hO1.1 3
  refine f_get C (v := .int (zI (st.1 3))) hin7 3 2 rfl rfl (Nat.le_of_ble_eq_true rfl) (by decide +kernel) rfl rfl dX7_hasWord_1 ?_
  refine f_aload_n C 0 dX7_hasWord_4 rfl rfl ?_
  have k3 : 0 ≤ st.1 4 ∧ st.1 4 ≤ 600 := hO1.1 4
  refine f_get C (v := .int (zI (st.1 4))) hin7 3 3 rfl rfl (Nat.le_of_ble_eq_true rfl) (by decide +kernel) rfl rfl dX7_hasWord_5 ?_
  refine f_icmp_ge C 15 ⟨by omega, by omega⟩ ⟨by omega, by omega⟩ dX7_hasWord_8 (by decide) (fun c4 => ?_) (fun c4 => ?_)
  · refine f_iconst C dX7_hasWord_15 ?_
    exact f_zret C hret hlk dX7_hasWord_16 (by decide) (hp _ (by rw [F_X7_hasWord, if_pos c4]))
  refine f_iconst C dX7_hasWord_11 ?_
  refine f_goto C 16 dX7_hasWord_12 (by decide) ?_
  exact f_zret C hret hlk dX7_hasWord_16 (by decide) (hp _ (by rw [F_X7_hasWord, if_neg c4]))

def F_X7_numberOfWord (st : fS) : Int := st.1 5
abbrev rm_X7_numberOfWord : Room := { frames := 0, cells := 0, slots := 0, locals := 0 }
set_option maxRecDepth 100000 in
set_option maxHeartbeats 8000000 in
theorem c_X7_numberOfWord {l : Launch} {D : va_G} {cI cJ cZ cB : ClassId} {a : Nat → Nat} {E : State → Prop} (hX : xHyp a E)   (st : fS)  : xMi l D cI cJ cZ cB a E yX7_numberOfWord wsX7_numberOfWord rm_X7_numberOfWord [.ref (a 3)] st (fun z u => z = F_X7_numberOfWord st ∧ u = st) := by
  refine fB_open (cc := cX7_numberOfWord) (maxL := 1) (ret := (some .int)) (by decide) rfl (Nat.le_of_ble_eq_true rfl) hX.2 ?_
  intro p e s m below meth c C hret hlk
  have hin7 : ∀ w ∈ u_ws RX7 TX7 5, w ∈ wsX7_numberOfWord := by decide +kernel
  have hp : ∀ z : Int, z = F_X7_numberOfWord st → z = F_X7_numberOfWord st ∧ st = st := fun z h => ⟨h, rfl⟩
  refine f_aload_n C 0 dX7_numberOfWord_0 rfl rfl ?_
  refine f_ok (fun hO1 => ?_)
  have k2 : (-1000000000) ≤ st.1 5 ∧ st.1 5 ≤ 1000000000 := hO1.1 5
  refine f_get C (v := .int (zI (st.1 5))) hin7 3 4 rfl rfl (Nat.le_of_ble_eq_true rfl) (by decide +kernel) rfl rfl dX7_numberOfWord_1 ?_
  exact f_iret C hret hlk dX7_numberOfWord_4 ⟨by omega, by omega⟩ (hp _ (by rw [F_X7_numberOfWord]))
end
section
theorem zz_ok : True := trivial
end
