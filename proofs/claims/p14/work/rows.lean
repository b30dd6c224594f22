section
-- ===== PART A: goes FIRST, ahead of the names: the tables' words, and 'selects' of the private methods out of them =====
/-- a private method of a class that the tables say can be made, by its rows of tables_1 -/
def lw_okq (q : MethodName × Nat) : Prop := (q.1.cls ≠ "java/lang/invoke/MethodHandle" ∧ q.1.cls ≠ "java/lang/invoke/VarHandle") ∧ Cond.instantiable q.1.cls q.2 ∈ tables_1 ∧ Cond.privateMethod q.1 ∈ tables_1 ∧ Cond.instanceMethod q.1 ∈ tables_1
theorem lw_p0 : lw_okq (⟨"JamRules", "isTime", "(J)Z"⟩, 12) := ⟨⟨by decide +kernel, by decide +kernel⟩, List.mem_of_getElem? (i := 7) (by decide +kernel), List.mem_of_getElem? (i := 102) (by decide +kernel), List.mem_of_getElem? (i := 103) (by decide +kernel)⟩
theorem lw_p1 : lw_okq (⟨"JamRules", "earliestHead", "()J"⟩, 12) := ⟨⟨by decide +kernel, by decide +kernel⟩, List.mem_of_getElem? (i := 7) (by decide +kernel), List.mem_of_getElem? (i := 107) (by decide +kernel), List.mem_of_getElem? (i := 108) (by decide +kernel)⟩
theorem lw_p2 : lw_okq (⟨"JamRules", "isSensor", "(I)Z"⟩, 12) := ⟨⟨by decide +kernel, by decide +kernel⟩, List.mem_of_getElem? (i := 7) (by decide +kernel), List.mem_of_getElem? (i := 152) (by decide +kernel), List.mem_of_getElem? (i := 153) (by decide +kernel)⟩
theorem lw_p3 : lw_okq (⟨"JamRules", "tellJams", "()V"⟩, 12) := ⟨⟨by decide +kernel, by decide +kernel⟩, List.mem_of_getElem? (i := 7) (by decide +kernel), List.mem_of_getElem? (i := 156) (by decide +kernel), List.mem_of_getElem? (i := 157) (by decide +kernel)⟩
theorem lw_p4 : lw_okq (⟨"JamRules", "lengthAt", "(LJamRules$Sensor;)J"⟩, 12) := ⟨⟨by decide +kernel, by decide +kernel⟩, List.mem_of_getElem? (i := 7) (by decide +kernel), List.mem_of_getElem? (i := 161) (by decide +kernel), List.mem_of_getElem? (i := 162) (by decide +kernel)⟩
theorem lw_p5 : lw_okq (⟨"JamRules", "isItem", "(I)Z"⟩, 12) := ⟨⟨by decide +kernel, by decide +kernel⟩, List.mem_of_getElem? (i := 7) (by decide +kernel), List.mem_of_getElem? (i := 165) (by decide +kernel), List.mem_of_getElem? (i := 166) (by decide +kernel)⟩
theorem lw_p6 : lw_okq (⟨"JamRules", "tell", "(II)I"⟩, 12) := ⟨⟨by decide +kernel, by decide +kernel⟩, List.mem_of_getElem? (i := 7) (by decide +kernel), List.mem_of_getElem? (i := 169) (by decide +kernel), List.mem_of_getElem? (i := 170) (by decide +kernel)⟩
theorem lw_p7 : lw_okq (⟨"JamRules", "doubtAt", "(I)J"⟩, 12) := ⟨⟨by decide +kernel, by decide +kernel⟩, List.mem_of_getElem? (i := 7) (by decide +kernel), List.mem_of_getElem? (i := 207) (by decide +kernel), List.mem_of_getElem? (i := 208) (by decide +kernel)⟩
theorem lw_p8 : lw_okq (⟨"JamRules", "isInDoubt", "(II)Z"⟩, 12) := ⟨⟨by decide +kernel, by decide +kernel⟩, List.mem_of_getElem? (i := 7) (by decide +kernel), List.mem_of_getElem? (i := 211) (by decide +kernel), List.mem_of_getElem? (i := 212) (by decide +kernel)⟩
theorem lw_p9 : lw_okq (⟨"JamRules", "becomeDark", "(I)V"⟩, 12) := ⟨⟨by decide +kernel, by decide +kernel⟩, List.mem_of_getElem? (i := 7) (by decide +kernel), List.mem_of_getElem? (i := 223) (by decide +kernel), List.mem_of_getElem? (i := 224) (by decide +kernel)⟩
theorem lw_p10 : lw_okq (⟨"JamRules", "loseLateItems", "(I)V"⟩, 12) := ⟨⟨by decide +kernel, by decide +kernel⟩, List.mem_of_getElem? (i := 7) (by decide +kernel), List.mem_of_getElem? (i := 227) (by decide +kernel), List.mem_of_getElem? (i := 228) (by decide +kernel)⟩
theorem lw_p11 : lw_okq (⟨"JamRules", "isAwaited", "(II)Z"⟩, 12) := ⟨⟨by decide +kernel, by decide +kernel⟩, List.mem_of_getElem? (i := 7) (by decide +kernel), List.mem_of_getElem? (i := 231) (by decide +kernel), List.mem_of_getElem? (i := 232) (by decide +kernel)⟩
theorem lw_p12 : lw_okq (⟨"JamRules", "dueAt", "(II)J"⟩, 12) := ⟨⟨by decide +kernel, by decide +kernel⟩, List.mem_of_getElem? (i := 7) (by decide +kernel), List.mem_of_getElem? (i := 235) (by decide +kernel), List.mem_of_getElem? (i := 236) (by decide +kernel)⟩
theorem lw_p13 : lw_okq (⟨"JamRules", "leastUnseen", "(I)I"⟩, 12) := ⟨⟨by decide +kernel, by decide +kernel⟩, List.mem_of_getElem? (i := 7) (by decide +kernel), List.mem_of_getElem? (i := 244) (by decide +kernel), List.mem_of_getElem? (i := 245) (by decide +kernel)⟩
theorem lw_p14 : lw_okq (⟨"JamRules", "isComing", "(II)Z"⟩, 12) := ⟨⟨by decide +kernel, by decide +kernel⟩, List.mem_of_getElem? (i := 7) (by decide +kernel), List.mem_of_getElem? (i := 248) (by decide +kernel), List.mem_of_getElem? (i := 249) (by decide +kernel)⟩
theorem lw_p15 : lw_okq (⟨"JamRules", "becomeLight", "(I)V"⟩, 12) := ⟨⟨by decide +kernel, by decide +kernel⟩, List.mem_of_getElem? (i := 7) (by decide +kernel), List.mem_of_getElem? (i := 260) (by decide +kernel), List.mem_of_getElem? (i := 261) (by decide +kernel)⟩
def lw_privs_1 : List (MethodName × Nat) := [(⟨"JamRules", "isTime", "(J)Z"⟩, 12), (⟨"JamRules", "earliestHead", "()J"⟩, 12), (⟨"JamRules", "isSensor", "(I)Z"⟩, 12), (⟨"JamRules", "tellJams", "()V"⟩, 12), (⟨"JamRules", "lengthAt", "(LJamRules$Sensor;)J"⟩, 12), (⟨"JamRules", "isItem", "(I)Z"⟩, 12), (⟨"JamRules", "tell", "(II)I"⟩, 12), (⟨"JamRules", "doubtAt", "(I)J"⟩, 12), (⟨"JamRules", "isInDoubt", "(II)Z"⟩, 12), (⟨"JamRules", "becomeDark", "(I)V"⟩, 12), (⟨"JamRules", "loseLateItems", "(I)V"⟩, 12), (⟨"JamRules", "isAwaited", "(II)Z"⟩, 12), (⟨"JamRules", "dueAt", "(II)J"⟩, 12), (⟨"JamRules", "leastUnseen", "(I)I"⟩, 12), (⟨"JamRules", "isComing", "(II)Z"⟩, 12), (⟨"JamRules", "becomeLight", "(I)V"⟩, 12)]
theorem lw_r1 : ∀ q ∈ lw_privs_1, lw_okq q := List.forall_mem_cons.mpr ⟨lw_p0, List.forall_mem_cons.mpr ⟨lw_p1, List.forall_mem_cons.mpr ⟨lw_p2, List.forall_mem_cons.mpr ⟨lw_p3, List.forall_mem_cons.mpr ⟨lw_p4, List.forall_mem_cons.mpr ⟨lw_p5, List.forall_mem_cons.mpr ⟨lw_p6, List.forall_mem_cons.mpr ⟨lw_p7, List.forall_mem_cons.mpr ⟨lw_p8, List.forall_mem_cons.mpr ⟨lw_p9, List.forall_mem_cons.mpr ⟨lw_p10, List.forall_mem_cons.mpr ⟨lw_p11, List.forall_mem_cons.mpr ⟨lw_p12, List.forall_mem_cons.mpr ⟨lw_p13, List.forall_mem_cons.mpr ⟨lw_p14, List.forall_mem_cons.mpr ⟨lw_p15, fun _ h => absurd h List.not_mem_nil⟩⟩⟩⟩⟩⟩⟩⟩⟩⟩⟩⟩⟩⟩⟩⟩
theorem lw_p16 : lw_okq (⟨"JamRules", "judgeLength", "(II)V"⟩, 12) := ⟨⟨by decide +kernel, by decide +kernel⟩, List.mem_of_getElem? (i := 7) (by decide +kernel), List.mem_of_getElem? (i := 264) (by decide +kernel), List.mem_of_getElem? (i := 265) (by decide +kernel)⟩
theorem lw_p17 : lw_okq (⟨"JamRules", "isFault", "(I)Z"⟩, 12) := ⟨⟨by decide +kernel, by decide +kernel⟩, List.mem_of_getElem? (i := 7) (by decide +kernel), List.mem_of_getElem? (i := 281) (by decide +kernel), List.mem_of_getElem? (i := 282) (by decide +kernel)⟩
theorem lw_p18 : lw_okq (⟨"JamRules", "cameAgain", "(I)Z"⟩, 12) := ⟨⟨by decide +kernel, by decide +kernel⟩, List.mem_of_getElem? (i := 7) (by decide +kernel), List.mem_of_getElem? (i := 293) (by decide +kernel), List.mem_of_getElem? (i := 294) (by decide +kernel)⟩
theorem lw_p19 : lw_okq (⟨"JamRules", "resetCounts", "()V"⟩, 12) := ⟨⟨by decide +kernel, by decide +kernel⟩, List.mem_of_getElem? (i := 7) (by decide +kernel), List.mem_of_getElem? (i := 310) (by decide +kernel), List.mem_of_getElem? (i := 311) (by decide +kernel)⟩
theorem lw_p20 : lw_okq (⟨"JamRules", "clear", "(I)V"⟩, 12) := ⟨⟨by decide +kernel, by decide +kernel⟩, List.mem_of_getElem? (i := 7) (by decide +kernel), List.mem_of_getElem? (i := 314) (by decide +kernel), List.mem_of_getElem? (i := 315) (by decide +kernel)⟩
theorem lw_p21 : lw_okq (⟨"JamRules", "emptyBelt", "(I)V"⟩, 12) := ⟨⟨by decide +kernel, by decide +kernel⟩, List.mem_of_getElem? (i := 7) (by decide +kernel), List.mem_of_getElem? (i := 318) (by decide +kernel), List.mem_of_getElem? (i := 319) (by decide +kernel)⟩
theorem lw_p22 : lw_okq (⟨"JamRules", "putOnList", "(I)V"⟩, 12) := ⟨⟨by decide +kernel, by decide +kernel⟩, List.mem_of_getElem? (i := 7) (by decide +kernel), List.mem_of_getElem? (i := 326) (by decide +kernel), List.mem_of_getElem? (i := 327) (by decide +kernel)⟩
theorem lw_p23 : lw_okq (⟨"JamRules", "listOffBy", "(I)V"⟩, 12) := ⟨⟨by decide +kernel, by decide +kernel⟩, List.mem_of_getElem? (i := 7) (by decide +kernel), List.mem_of_getElem? (i := 330) (by decide +kernel), List.mem_of_getElem? (i := 331) (by decide +kernel)⟩
theorem lw_p24 : lw_okq (⟨"JamRules", "takeOffList", "(I)V"⟩, 12) := ⟨⟨by decide +kernel, by decide +kernel⟩, List.mem_of_getElem? (i := 7) (by decide +kernel), List.mem_of_getElem? (i := 338) (by decide +kernel), List.mem_of_getElem? (i := 339) (by decide +kernel)⟩
theorem lw_p25 : lw_okq (⟨"JamRules", "faultByRank", "(I)I"⟩, 12) := ⟨⟨by decide +kernel, by decide +kernel⟩, List.mem_of_getElem? (i := 7) (by decide +kernel), List.mem_of_getElem? (i := 361) (by decide +kernel), List.mem_of_getElem? (i := 362) (by decide +kernel)⟩
theorem lw_p26 : lw_okq (⟨"JamRulesModel", "stands", "()Z"⟩, 33) := ⟨⟨by decide +kernel, by decide +kernel⟩, List.mem_of_getElem? (i := 376) (by decide +kernel), List.mem_of_getElem? (i := 500) (by decide +kernel), List.mem_of_getElem? (i := 501) (by decide +kernel)⟩
theorem lw_p27 : lw_okq (⟨"JamRulesModel", "noSensor", "(I)Z"⟩, 33) := ⟨⟨by decide +kernel, by decide +kernel⟩, List.mem_of_getElem? (i := 376) (by decide +kernel), List.mem_of_getElem? (i := 508) (by decide +kernel), List.mem_of_getElem? (i := 509) (by decide +kernel)⟩
theorem lw_p28 : lw_okq (⟨"JamRulesModel", "jams", "(J)V"⟩, 33) := ⟨⟨by decide +kernel, by decide +kernel⟩, List.mem_of_getElem? (i := 376) (by decide +kernel), List.mem_of_getElem? (i := 512) (by decide +kernel), List.mem_of_getElem? (i := 513) (by decide +kernel)⟩
theorem lw_p29 : lw_okq (⟨"JamRulesModel", "tell", "(IIJZ)I"⟩, 33) := ⟨⟨by decide +kernel, by decide +kernel⟩, List.mem_of_getElem? (i := 376) (by decide +kernel), List.mem_of_getElem? (i := 517) (by decide +kernel), List.mem_of_getElem? (i := 518) (by decide +kernel)⟩
theorem lw_p30 : lw_okq (⟨"JamRulesModel", "isDoubt", "(IIJ)Z"⟩, 33) := ⟨⟨by decide +kernel, by decide +kernel⟩, List.mem_of_getElem? (i := 376) (by decide +kernel), List.mem_of_getElem? (i := 521) (by decide +kernel), List.mem_of_getElem? (i := 522) (by decide +kernel)⟩
theorem lw_p31 : lw_okq (⟨"JamRulesModel", "isSeen", "(II)Z"⟩, 33) := ⟨⟨by decide +kernel, by decide +kernel⟩, List.mem_of_getElem? (i := 376) (by decide +kernel), List.mem_of_getElem? (i := 525) (by decide +kernel), List.mem_of_getElem? (i := 526) (by decide +kernel)⟩
def lw_privs_2 : List (MethodName × Nat) := [(⟨"JamRules", "judgeLength", "(II)V"⟩, 12), (⟨"JamRules", "isFault", "(I)Z"⟩, 12), (⟨"JamRules", "cameAgain", "(I)Z"⟩, 12), (⟨"JamRules", "resetCounts", "()V"⟩, 12), (⟨"JamRules", "clear", "(I)V"⟩, 12), (⟨"JamRules", "emptyBelt", "(I)V"⟩, 12), (⟨"JamRules", "putOnList", "(I)V"⟩, 12), (⟨"JamRules", "listOffBy", "(I)V"⟩, 12), (⟨"JamRules", "takeOffList", "(I)V"⟩, 12), (⟨"JamRules", "faultByRank", "(I)I"⟩, 12), (⟨"JamRulesModel", "stands", "()Z"⟩, 33), (⟨"JamRulesModel", "noSensor", "(I)Z"⟩, 33), (⟨"JamRulesModel", "jams", "(J)V"⟩, 33), (⟨"JamRulesModel", "tell", "(IIJZ)I"⟩, 33), (⟨"JamRulesModel", "isDoubt", "(IIJ)Z"⟩, 33), (⟨"JamRulesModel", "isSeen", "(II)Z"⟩, 33)]
theorem lw_r2 : ∀ q ∈ lw_privs_2, lw_okq q := List.forall_mem_cons.mpr ⟨lw_p16, List.forall_mem_cons.mpr ⟨lw_p17, List.forall_mem_cons.mpr ⟨lw_p18, List.forall_mem_cons.mpr ⟨lw_p19, List.forall_mem_cons.mpr ⟨lw_p20, List.forall_mem_cons.mpr ⟨lw_p21, List.forall_mem_cons.mpr ⟨lw_p22, List.forall_mem_cons.mpr ⟨lw_p23, List.forall_mem_cons.mpr ⟨lw_p24, List.forall_mem_cons.mpr ⟨lw_p25, List.forall_mem_cons.mpr ⟨lw_p26, List.forall_mem_cons.mpr ⟨lw_p27, List.forall_mem_cons.mpr ⟨lw_p28, List.forall_mem_cons.mpr ⟨lw_p29, List.forall_mem_cons.mpr ⟨lw_p30, List.forall_mem_cons.mpr ⟨lw_p31, fun _ h => absurd h List.not_mem_nil⟩⟩⟩⟩⟩⟩⟩⟩⟩⟩⟩⟩⟩⟩⟩⟩
theorem lw_p32 : lw_okq (⟨"JamRulesModel", "darken", "(IJ)V"⟩, 33) := ⟨⟨by decide +kernel, by decide +kernel⟩, List.mem_of_getElem? (i := 376) (by decide +kernel), List.mem_of_getElem? (i := 529) (by decide +kernel), List.mem_of_getElem? (i := 530) (by decide +kernel)⟩
theorem lw_p33 : lw_okq (⟨"JamRulesModel", "next", "(I)I"⟩, 33) := ⟨⟨by decide +kernel, by decide +kernel⟩, List.mem_of_getElem? (i := 376) (by decide +kernel), List.mem_of_getElem? (i := 533) (by decide +kernel), List.mem_of_getElem? (i := 534) (by decide +kernel)⟩
theorem lw_p34 : lw_okq (⟨"JamRulesModel", "due", "(II)J"⟩, 33) := ⟨⟨by decide +kernel, by decide +kernel⟩, List.mem_of_getElem? (i := 376) (by decide +kernel), List.mem_of_getElem? (i := 537) (by decide +kernel), List.mem_of_getElem? (i := 538) (by decide +kernel)⟩
theorem lw_p35 : lw_okq (⟨"JamRulesModel", "lighten", "(IJ)V"⟩, 33) := ⟨⟨by decide +kernel, by decide +kernel⟩, List.mem_of_getElem? (i := 376) (by decide +kernel), List.mem_of_getElem? (i := 544) (by decide +kernel), List.mem_of_getElem? (i := 545) (by decide +kernel)⟩
theorem lw_p36 : lw_okq (⟨"JamRulesModel", "noFault", "(I)Z"⟩, 33) := ⟨⟨by decide +kernel, by decide +kernel⟩, List.mem_of_getElem? (i := 376) (by decide +kernel), List.mem_of_getElem? (i := 552) (by decide +kernel), List.mem_of_getElem? (i := 553) (by decide +kernel)⟩
theorem lw_p37 : lw_okq (⟨"JamRulesModel", "clear", "(I)V"⟩, 33) := ⟨⟨by decide +kernel, by decide +kernel⟩, List.mem_of_getElem? (i := 376) (by decide +kernel), List.mem_of_getElem? (i := 566) (by decide +kernel), List.mem_of_getElem? (i := 567) (by decide +kernel)⟩
theorem lw_p38 : lw_okq (⟨"JamRulesModel", "enlist", "(I)V"⟩, 33) := ⟨⟨by decide +kernel, by decide +kernel⟩, List.mem_of_getElem? (i := 376) (by decide +kernel), List.mem_of_getElem? (i := 570) (by decide +kernel), List.mem_of_getElem? (i := 571) (by decide +kernel)⟩
theorem lw_p39 : lw_okq (⟨"JamRulesModel", "rankOf", "(I)I"⟩, 33) := ⟨⟨by decide +kernel, by decide +kernel⟩, List.mem_of_getElem? (i := 376) (by decide +kernel), List.mem_of_getElem? (i := 596) (by decide +kernel), List.mem_of_getElem? (i := 597) (by decide +kernel)⟩
def lw_privs_3 : List (MethodName × Nat) := [(⟨"JamRulesModel", "darken", "(IJ)V"⟩, 33), (⟨"JamRulesModel", "next", "(I)I"⟩, 33), (⟨"JamRulesModel", "due", "(II)J"⟩, 33), (⟨"JamRulesModel", "lighten", "(IJ)V"⟩, 33), (⟨"JamRulesModel", "noFault", "(I)Z"⟩, 33), (⟨"JamRulesModel", "clear", "(I)V"⟩, 33), (⟨"JamRulesModel", "enlist", "(I)V"⟩, 33), (⟨"JamRulesModel", "rankOf", "(I)I"⟩, 33)]
theorem lw_r3 : ∀ q ∈ lw_privs_3, lw_okq q := List.forall_mem_cons.mpr ⟨lw_p32, List.forall_mem_cons.mpr ⟨lw_p33, List.forall_mem_cons.mpr ⟨lw_p34, List.forall_mem_cons.mpr ⟨lw_p35, List.forall_mem_cons.mpr ⟨lw_p36, List.forall_mem_cons.mpr ⟨lw_p37, List.forall_mem_cons.mpr ⟨lw_p38, List.forall_mem_cons.mpr ⟨lw_p39, fun _ h => absurd h List.not_mem_nil⟩⟩⟩⟩⟩⟩⟩⟩
def lw_privs : List (MethodName × Nat) := lw_privs_1 ++ (lw_privs_2 ++ (lw_privs_3))
def lw_tbl : List Cond := k2_sels lw_privs ++ tables_1
theorem lw_privs_ok : ∀ q ∈ lw_privs, lw_okq q := by
  show ∀ q ∈ lw_privs_1 ++ (lw_privs_2 ++ (lw_privs_3)), lw_okq q
  exact List.forall_mem_append.mpr ⟨lw_r1, List.forall_mem_append.mpr ⟨lw_r2, lw_r3⟩⟩
end
section
/-! ===== numbers by their Int ===== -/
def ph_i (z : Int) : Int32 := Int32.ofInt z
def ph_l (z : Int) : Int64 := Int64.ofInt z
abbrev ph_ri (z : Int) : Prop := -2147483648 ≤ z ∧ z < 2147483648
abbrev ph_rl (z : Int) : Prop := -9223372036854775808 ≤ z ∧ z < 9223372036854775808
theorem ph_iT {z : Int} (h : ph_ri z) : (ph_i z).toInt = z := Int32.toInt_ofInt_of_le (by omega) (by omega)
theorem ph_lT {z : Int} (h : ph_rl z) : (ph_l z).toInt = z := Int64.toInt_ofInt_of_le (by omega) (by omega)
theorem ph_ile {a b : Int} (ha : ph_ri a) (hb : ph_ri b) : ph_i a ≤ ph_i b ↔ a ≤ b := by rw [Int32.le_iff_toInt_le, ph_iT ha, ph_iT hb]
theorem ph_ilt {a b : Int} (ha : ph_ri a) (hb : ph_ri b) : ph_i a < ph_i b ↔ a < b := by rw [Int32.lt_iff_toInt_lt, ph_iT ha, ph_iT hb]
theorem ph_ieq {a b : Int} (ha : ph_ri a) (hb : ph_ri b) : ph_i a = ph_i b ↔ a = b := by rw [← Int32.toInt_inj, ph_iT ha, ph_iT hb]
theorem ph_lle {a b : Int} (ha : ph_rl a) (hb : ph_rl b) : ph_l a ≤ ph_l b ↔ a ≤ b := by rw [Int64.le_iff_toInt_le, ph_lT ha, ph_lT hb]
theorem ph_llt {a b : Int} (ha : ph_rl a) (hb : ph_rl b) : ph_l a < ph_l b ↔ a < b := by rw [Int64.lt_iff_toInt_lt, ph_lT ha, ph_lT hb]
theorem ph_leq {a b : Int} (ha : ph_rl a) (hb : ph_rl b) : ph_l a = ph_l b ↔ a = b := by rw [← Int64.toInt_inj, ph_lT ha, ph_lT hb]
theorem ph_0 : ph_i 0 = 0 := rfl
theorem ph_icl {z : Int} (h0 : 0 ≤ z) (h : z < 2147483648) : (ph_i z).toNatClampNeg = z.toNat := Int32.toNatClampNeg_ofInt_of_le (by omega) (by omega)
theorem ph_iin {z : Int} {N : Nat} (h0 : 0 ≤ z) (h : z < (N : Int)) (hz : z < 2147483648) : vp_in (ph_i z) N := by
  intro q
  rcases q with q | q
  · have := (ph_ilt (a := z) (b := 0) (by omega) (by omega)).mp q
    omega
  · rw [ph_icl h0 hz] at q
    omega
theorem ph_jcl {x : Int} {j : Nat} (hj : x = (j : Int)) (h : j < 2147483648) : (ph_i x).toNatClampNeg = j := by
  subst hj
  rw [ph_icl (by omega) (by omega)]
  simp
theorem ph_jin {x : Int} {j N : Nat} (hj : x = (j : Int)) (h : j < N) (hN : N < 2147483648) : vp_in (ph_i x) N := ph_iin (by omega) (by omega) (by omega)
theorem pn_iadd (a b : Int) : ph_i a + ph_i b = ph_i (a + b) := (Int32.ofInt_add a b).symm
theorem pn_isub (a b : Int) : ph_i a - ph_i b = ph_i (a - b) := (Int32.ofInt_sub a b).symm
theorem pn_imul (a b : Int) : ph_i a * ph_i b = ph_i (a * b) := (Int32.ofInt_mul a b).symm
theorem pn_ineg (a : Int) : -ph_i a = ph_i (-a) := (Int32.ofInt_neg a).symm
theorem pn_ladd (a b : Int) : ph_l a + ph_l b = ph_l (a + b) := (Int64.ofInt_add a b).symm
theorem pn_lsub (a b : Int) : ph_l a - ph_l b = ph_l (a - b) := (Int64.ofInt_sub a b).symm
theorem pn_lmul (a b : Int) : ph_l a * ph_l b = ph_l (a * b) := (Int64.ofInt_mul a b).symm
theorem pn_lneg (a : Int) : -ph_l a = ph_l (-a) := (Int64.ofInt_neg a).symm
theorem pn_i2l {z : Int} (h : ph_ri z) : (ph_i z).toInt64 = ph_l z := by
  rw [← Int64.toInt_inj, Int32.toInt_toInt64, ph_iT h, ph_lT (by omega)]
theorem pn_l2i (z : Int) : (ph_l z).toInt32 = ph_i z := Int64.toInt32_ofInt
theorem ph_iof (x : Int32) : ∃ z : Int, ph_ri z ∧ x = ph_i z := ⟨x.toInt, ⟨by have := x.le_toInt; omega, by have := x.toInt_lt; omega⟩, (Int32.ofInt_toInt x).symm⟩
theorem ph_lof (x : Int64) : ∃ z : Int, ph_rl z ∧ x = ph_l z := ⟨x.toInt, ⟨by have := x.le_toInt; omega, by have := x.toInt_lt; omega⟩, (Int64.ofInt_toInt x).symm⟩
/-- a truth value as a number -/
noncomputable def ph_b (P : Prop) : Int := @ite Int P (Classical.propDecidable P) 1 0
theorem ph_b1 {P : Prop} (h : P) : ph_b P = 1 := if_pos h
theorem ph_b0 {P : Prop} (h : ¬ P) : ph_b P = 0 := if_neg h
theorem ph_br (P : Prop) : 0 ≤ ph_b P ∧ ph_b P ≤ 1 := by
  rcases Classical.em P with h | h
  · rw [ph_b1 h]; omega
  · rw [ph_b0 h]; omega
/-! ===== the locals: by lookup ===== -/
abbrev ph_V : Type := List (Nat × Option Value)
def ph_g : ph_V → Nat → Option Value
  | [], _ => none
  | q :: t, i => bif Nat.beq q.1 i then q.2 else ph_g t i
theorem ph_g_self (i : Nat) (v : Option Value) (t : ph_V) : ph_g ((i, v) :: t) i = v := by simp [ph_g]
theorem ph_g_ne {i j : Nat} (v : Option Value) (t : ph_V) (h : i ≠ j) : ph_g ((i, v) :: t) j = ph_g t j := by
  have : Nat.beq i j = false := by
    cases hb : Nat.beq i j with
    | false => rfl
    | true => exact absurd (Nat.eq_of_beq_eq_true hb) h
  simp [ph_g, this]
def ph_has (ls : Array Slot) (nL : Nat) (lv : ph_V) : Prop := ls.size = nL ∧ lv_wf ls ∧ ∀ (i : Nat) (v : Value), ph_g lv i = some v → ls[i]? = some (.val v)
/-- the store at i leaves no half of a long behind -/
def ph_ok (lv : ph_V) (i : Nat) : Bool := match i with
  | 0 => true
  | j + 1 => match ph_g lv j with
    | some v => v.category == 1
    | none => true
def ph_ll (nL : Nat) (lv : ph_V) : List (Nat × Value) := (List.range nL).filterMap fun j => (ph_g lv j).map fun v => (j, v)
theorem ph_ll_mem {nL : Nat} {lv : ph_V} {j : Nat} {v : Value} : (j, v) ∈ ph_ll nL lv ↔ j < nL ∧ ph_g lv j = some v := by
  unfold ph_ll
  rw [List.mem_filterMap]
  constructor
  · rintro ⟨a, ha, h⟩
    cases hg : ph_g lv a with
    | none => rw [hg] at h; cases h
    | some w =>
      rw [hg] at h
      simp only [Option.map_some, Option.some.injEq, Prod.mk.injEq] at h
      obtain ⟨rfl, rfl⟩ := h
      exact ⟨List.mem_range.mp ha, hg⟩
  · rintro ⟨h1, h2⟩
    exact ⟨j, List.mem_range.mpr h1, by rw [h2]; rfl⟩
theorem ph_has.lv {ls : Array Slot} {nL : Nat} {lv : ph_V} (h : ph_has ls nL lv) : lv_has ls nL (ph_ll nL lv) := ⟨h.1, h.2.1, fun q hq => h.2.2 q.1 q.2 (ph_ll_mem.mp hq).2⟩
theorem ph_has.bd {ls : Array Slot} {nL : Nat} {lv : ph_V} (h : ph_has ls nL lv) {j : Nat} {v : Value} (hj : ph_g lv j = some v) : j < nL := by
  rw [← h.1]
  exact (Array.getElem?_eq_some_iff.mp (h.2.2 j v hj)).1
theorem ph_ok_ne {lv : ph_V} {i j : Nat} {w : Value} (hk : ph_ok lv i = true) (hj : ph_g lv j = some w) (e : j + 1 = i) : ¬ w.category = 2 := by
  subst e
  simp only [ph_ok, hj, beq_iff_eq] at hk
  omega
theorem ph_st1 {ls : Array Slot} {nL i : Nat} {lv : ph_V} {v : Value} (h : ph_has ls nL lv) (hk : ph_ok lv i = true) (h' : lv_has ls nL ((i, v) :: (ph_ll nL lv).filter (fun q => !(q.1 == i) && !(q.1 + 1 == i && q.2.category == 2)))) : ph_has ls nL ((i, some v) :: lv) := by
  refine ⟨h.1, h.2.1, fun j w hj => ?_⟩
  by_cases e : i = j
  · subst e
    rw [ph_g_self] at hj
    cases hj
    exact h'.2.2 (i, v) List.mem_cons_self
  · rw [ph_g_ne _ _ e] at hj
    exact h.2.2 j w hj
theorem ph_st1' {ls ls' : Array Slot} {nL i : Nat} {lv : ph_V} {v : Value} (h : ph_has ls nL lv) (hk : ph_ok lv i = true) (h' : lv_has ls' nL ((i, v) :: (ph_ll nL lv).filter (fun q => !(q.1 == i) && !(q.1 + 1 == i && q.2.category == 2)))) : ph_has ls' nL ((i, some v) :: lv) := by
  refine ⟨h'.1, h'.2.1, fun j w hj => ?_⟩
  by_cases e : i = j
  · subst e
    rw [ph_g_self] at hj
    cases hj
    exact h'.2.2 (i, v) List.mem_cons_self
  · rw [ph_g_ne _ _ e] at hj
    refine h'.2.2 (j, w) (List.mem_cons_of_mem _ (List.mem_filter.mpr ⟨ph_ll_mem.mpr ⟨h.bd hj, hj⟩, ?_⟩))
    have e1 : (j == i) = false := by simpa using fun q => e q.symm
    by_cases e2 : j + 1 = i
    · have := ph_ok_ne hk hj e2
      simp [e1, this]
    · simp [e1, e2]
theorem ph_st2' {ls ls' : Array Slot} {nL i : Nat} {lv : ph_V} {v : Value} (h : ph_has ls nL lv) (hk : ph_ok lv i = true) (h' : lv_has ls' nL ((i, v) :: (ph_ll nL lv).filter (fun q => !(q.1 == i) && (!(q.1 == i + 1) && !(q.1 + 1 == i && q.2.category == 2))))) : ph_has ls' nL ((i, some v) :: (i + 1, none) :: lv) := by
  refine ⟨h'.1, h'.2.1, fun j w hj => ?_⟩
  by_cases e : i = j
  · subst e
    rw [ph_g_self] at hj
    cases hj
    exact h'.2.2 (i, v) List.mem_cons_self
  · rw [ph_g_ne _ _ e] at hj
    by_cases e3 : i + 1 = j
    · subst e3
      rw [ph_g_self] at hj
      cases hj
    · rw [ph_g_ne _ _ e3] at hj
      refine h'.2.2 (j, w) (List.mem_cons_of_mem _ (List.mem_filter.mpr ⟨ph_ll_mem.mpr ⟨h.bd hj, hj⟩, ?_⟩))
      have e1 : (j == i) = false := by simpa using fun q => e q.symm
      have e4 : (j == i + 1) = false := by simpa using fun q => e3 q.symm
      by_cases e2 : j + 1 = i
      · have := ph_ok_ne hk hj e2
        simp [e1, e4, this]
      · simp [e1, e4, e2]
/-- a list of locals in its plain form -/
def ph_mk (l : List (Nat × Value)) : ph_V := l.map fun q => (q.1, some q.2)
def ph_all (lv : ph_V) : List (Nat × Value) → Prop
  | [] => True
  | q :: t => ph_g lv q.1 = some q.2 ∧ ph_all lv t
theorem ph_mk_g {l : List (Nat × Value)} {i : Nat} {v : Value} (h : ph_g (ph_mk l) i = some v) : (i, v) ∈ l := by
  induction l with
  | nil => cases h
  | cons q t ih =>
    by_cases e : q.1 = i
    · subst e
      have : ph_g ((q.1, some q.2) :: ph_mk t) q.1 = some v := h
      rw [ph_g_self] at this
      cases this
      exact List.mem_cons_self
    · have h2 : ph_g ((q.1, some q.2) :: ph_mk t) i = some v := h
      rw [ph_g_ne _ _ e] at h2
      exact List.mem_cons_of_mem _ (ih h2)
theorem ph_all_mem {lv : ph_V} {l : List (Nat × Value)} (h : ph_all lv l) : ∀ q ∈ l, ph_g lv q.1 = some q.2 := by
  induction l with
  | nil => intro q hq; cases hq
  | cons a t ih =>
    intro q hq
    rcases List.mem_cons.mp hq with rfl | h2
    · exact h.1
    · exact ih h.2 q h2
theorem ph_has.to {ls : Array Slot} {nL : Nat} {lv : ph_V} {l : List (Nat × Value)} (h : ph_has ls nL lv) (hl : ph_all lv l) : ph_has ls nL (ph_mk l) := ⟨h.1, h.2.1, fun i v hi => h.2.2 i v (ph_all_mem hl (i, v) (ph_mk_g hi))⟩
theorem ph_has.of {ls : Array Slot} {nL : Nat} {l : List (Nat × Value)} (h : lv_has ls nL l) : ph_has ls nL (ph_mk l) := ⟨h.1, h.2.1, fun i v hi => h.2.2 (i, v) (ph_mk_g hi)⟩
/-! ===== the heap of typed pools: cell (pool c, index i) at the address ad c i, of the kind kd c, with the numbers τ c i k ===== -/
abbrev ph_K : Type := (Nat × List Nat) ⊕ (Nat × Nat)
abbrev ph_T : Type := Nat → Nat → Nat → Int
def ph_r (z : Int) : Option Nat := if z < 0 then none else some z.toNat
def ph_e (t : Nat) (z : Int) : Value := match t with
  | 0 => .int (ph_i z)
  | 1 => .long (ph_l z)
  | _ => va_rf (ph_r z)
theorem ph_rn (a : Nat) : ph_r (a : Int) = some a := by
  unfold ph_r
  rw [if_neg (by omega)]
  simp
theorem ph_r1 : ph_r (-1) = none := rfl
def ph_fs (tags : List Nat) (f : Nat → Int) : List Value := tags.mapIdx fun k t => ph_e t (f k)
abbrev ph_S : Type := (Nat → Int32) ⊕ (Nat → Int64) ⊕ (Nat → UInt32) ⊕ (Nat → UInt64) ⊕ (Nat → Option Nat)
/-- 0 int, 1 boolean, 2 long, from 3 on references -/
def ph_ac (ty : Nat) (f : Nat → Int) : ph_S := match ty with
  | 0 => .inl fun j => ph_i (f j)
  | 1 => .inl fun j => ph_i (f j)
  | 2 => .inr (.inl fun j => ph_l (f j))
  | _ => .inr (.inr (.inr (.inr fun j => ph_r (f j))))
def ph_cell (dT : Nat → ClassId) (k : ph_K) (f : Nat → Int) : va_E := match k with
  | .inl q => .inr (q.1, ph_fs q.2 f)
  | .inr q => .inl (dT q.1, q.2, ph_ac q.1 f)
def ph_u1 (f : Nat → Int) (k : Nat) (z : Int) : Nat → Int := fun j => if j = k then z else f j
def ph_up (τ : ph_T) (c i k : Nat) (z : Int) : ph_T := fun c' i' k' => if c' = c ∧ i' = i ∧ k' = k then z else τ c' i' k'
theorem ph_up_self (τ : ph_T) (c i k : Nat) (z : Int) : ph_up τ c i k z c i = ph_u1 (τ c i) k z := by
  funext j
  simp [ph_up, ph_u1]
theorem ph_up_ne (τ : ph_T) {c i c' i' : Nat} (k : Nat) (z : Int) (h : ¬ (c' = c ∧ i' = i)) : ph_up τ c i k z c' i' = τ c' i' := by
  funext j
  unfold ph_up
  rw [if_neg (fun q => h ⟨q.1, q.2.1⟩)]
theorem ph_fs_get {tags : List Nat} {f : Nat → Int} {k t : Nat} (h : tags[k]? = some t) : (ph_fs tags f)[k]? = some (ph_e t (f k)) := by
  unfold ph_fs
  rw [List.getElem?_mapIdx, h]
  rfl
theorem ph_fs_len (tags : List Nat) (f : Nat → Int) : (ph_fs tags f).length = tags.length := by simp [ph_fs]
theorem ph_fs_set {tags : List Nat} {f : Nat → Int} {k t : Nat} (h : tags[k]? = some t) (z : Int) : (ph_fs tags f).set k (ph_e t z) = ph_fs tags (ph_u1 f k z) := by
  apply List.ext_getElem?
  intro j
  have hk : k < tags.length := (List.getElem?_eq_some_iff.mp h).1
  by_cases e : j = k
  · subst e
    rw [List.getElem?_set_self (by rw [ph_fs_len]; exact hk), ph_fs_get h]
    simp [ph_u1]
  · rw [List.getElem?_set_ne (fun q => e q.symm)]
    unfold ph_fs
    rw [List.getElem?_mapIdx, List.getElem?_mapIdx]
    simp [ph_u1, e]
def ph_U (D : va_G) (cl : List vw_C) (dT : Nat → ClassId) (kd : Nat → ph_K) (A : Nat → Prop) (L : Nat → Nat → Prop) (ad : Nat → Nat → Nat) (τ : ph_T) (H : Heap) : Prop :=
  (∀ c i : Nat, L c i → A (ad c i) ∧ va_at D cl (ad c i, ph_cell dT (kd c) (τ c i)) H) ∧ ∀ c i c' i' : Nat, L c i → L c' i' → ad c i = ad c' i' → c = c' ∧ i = i'
section PHU
variable {D : va_G} {cl : List vw_C} {dT : Nat → ClassId} {kd : Nat → ph_K} {A : Nat → Prop} {L : Nat → Nat → Prop} {ad : Nat → Nat → Nat} {τ : ph_T} {H H1 : Heap}
theorem ph_U.put (h : ph_U D cl dT kd A L ad τ H) {c i k : Nat} {z : Int} (hL : L c i) (he : va_at D cl (ad c i, ph_cell dT (kd c) (ph_u1 (τ c i) k z)) H1) (oq : ∀ q : Nat, q ≠ ad c i → H1[q]? = H[q]?) : ph_U D cl dT kd A L ad (ph_up τ c i k z) H1 := by
  refine ⟨fun c' i' h' => ⟨(h.1 c' i' h').1, ?_⟩, h.2⟩
  by_cases e : c' = c ∧ i' = i
  · obtain ⟨rfl, rfl⟩ := e
    rw [ph_up_self]
    exact he
  · rw [ph_up_ne τ k z e]
    exact (h.1 c' i' h').2.kept (oq _ (fun q => e (h.2 c' i' c i h' hL q)))
theorem ph_U.lt (h : ph_U D cl dT kd A L ad τ H) {c i : Nat} (hL : L c i) : ad c i < H.size := ((h.1 c i hL).2).lt
def ph_Ln (L : Nat → Nat → Prop) (c i : Nat) : Nat → Nat → Prop := fun c' i' => L c' i' ∨ (c' = c ∧ i' = i)
def ph_an (ad : Nat → Nat → Nat) (c i a : Nat) : Nat → Nat → Nat := fun c' i' => if c' = c ∧ i' = i then a else ad c' i'
def ph_tn (τ : ph_T) (c i : Nat) (f : Nat → Int) : ph_T := fun c' i' => if c' = c ∧ i' = i then f else τ c' i'
theorem ph_U.new (h : ph_U D cl dT kd A L ad τ H) {c i a : Nat} {f : Nat → Int} (hL : ¬ L c i) (hA : A a) (ha : H.size = a) (he : va_at D cl (a, ph_cell dT (kd c) f) H1) (oq : ∀ q : Nat, q < a → H1[q]? = H[q]?) : ph_U D cl dT kd A (ph_Ln L c i) (ph_an ad c i a) (ph_tn τ c i f) H1 := by
  have hne : ∀ c' i', L c' i' → ¬ (c' = c ∧ i' = i) := fun c' i' h1 e => hL (by obtain ⟨rfl, rfl⟩ := e; exact h1)
  refine ⟨fun c' i' h' => ?_, fun c1 i1 c2 i2 h1 h2 e => ?_⟩
  · by_cases e : c' = c ∧ i' = i
    · obtain ⟨rfl, rfl⟩ := e
      simp only [ph_an, ph_tn, and_self, if_true]
      exact ⟨hA, he⟩
    · have h1 : L c' i' := h'.resolve_right e
      simp only [ph_an, ph_tn, if_neg e]
      exact ⟨(h.1 c' i' h1).1, (h.1 c' i' h1).2.kept (oq _ (by rw [← ha]; exact h.lt h1))⟩
  · by_cases e1 : c1 = c ∧ i1 = i
    · by_cases e2 : c2 = c ∧ i2 = i
      · exact ⟨e1.1.trans e2.1.symm, e1.2.trans e2.2.symm⟩
      · have h3 : L c2 i2 := h2.resolve_right e2
        simp only [ph_an, if_pos e1, if_neg e2] at e
        have := h.lt h3
        omega
    · have h3 : L c1 i1 := h1.resolve_right e1
      by_cases e2 : c2 = c ∧ i2 = i
      · simp only [ph_an, if_pos e2, if_neg e1] at e
        have := h.lt h3
        omega
      · simp only [ph_an, if_neg e2, if_neg e1] at e
        exact h.2 c1 i1 c2 i2 h3 (h2.resolve_right e2) e
end PHU
end
section
/-! ===== the judgement over the heap of typed pools ===== -/
def ph_W (p : Program) (l : Launch) (e : Env) (R : Room) (s : State) (m : MethodId) (args : Array Value) (below : List Frame) (meth : Method) (c : Code) (D : va_G) (cl : List vw_C) (dT : Nat → ClassId) (kd : Nat → ph_K) (A : Nat → Prop) (nL : Nat) (Q : State → Prop) (L : Nat → Nat → Prop) (ad : Nat → Nat → Nat) (τ : ph_T) (cells slots pc : Nat) (lv : ph_V) (st : List Value) : Prop :=
  ∀ (H : Heap) (locs : List Loc) (ls : Array Slot), ph_U D cl dT kd A L ad τ H → va_S A s.heap H locs → ph_has ls nL lv → W p l e R s m args below meth c H locs cells slots Q (F0 m pc ls st)
/-- what is known of a state, and stays -/
def ph_keep (A : Nat → Prop) (KX : State → Prop) : Prop := ∀ u U : State, u.vm.Alike U.vm → u.heap.size ≤ U.heap.size → (∀ q : Nat, q < u.heap.size → ¬ A q → U.heap[q]? = u.heap[q]?) → KX u → KX U
def ph_C (p : Program) (s : State) (m : MethodId) (args : Array Value) (c : Code) (cc : ByteArray) (nL : Nat) (own : String) (Ts : List Cond) (D : va_G) (cl : List vw_C) (tys : List (ClassId × FieldType)) (A : Nat → Prop) (KX : State → Prop) : Prop :=
  CallFix p m c cc nL s args Ts own ∧ va_K D cl tys s ∧ (∀ q : Nat, s.heap.size ≤ q → A q) ∧ KX s ∧ ph_keep A KX
section PHW
variable {p : Program} {l : Launch} {e : Env} {R : Room} {s : State} {m : MethodId} {args : Array Value} {below : List Frame} {meth : Method} {c : Code}
variable {D : va_G} {cl : List vw_C} {tys : List (ClassId × FieldType)} {dT : Nat → ClassId} {kd : Nat → ph_K} {A : Nat → Prop} {KX : State → Prop} {nL : Nat} {Q : State → Prop} {cc : ByteArray} {own : String} {Ts : List Cond}
variable {L : Nat → Nat → Prop} {ad : Nat → Nat → Nat} {τ : ph_T} {cells slots pc : Nat} {lv : ph_V} {st : List Value}
theorem ph_C.hx (C : ph_C p s m args c cc nL own Ts D cl tys A KX) : p.tables.exec = Jvm.exec := C.1.1
theorem ph_C.hb (C : ph_C p s m args c cc nL own Ts D cl tys A KX) : c.code = cc := C.1.2.1
theorem ph_C.hown (C : ph_C p s m args c cc nL own Ts D cl tys A KX) : s.vm.findClass own = some m.cls := C.1.2.2.2.1
theorem ph_C.hts (C : ph_C p s m args c cc nL own Ts D cl tys A KX) : ∀ w ∈ Ts, w.before args s = true := C.1.2.2.2.2
theorem ph_C.hK (C : ph_C p s m args c cc nL own Ts D cl tys A KX) : va_K D cl tys s := C.2.1
theorem ph_C.hA (C : ph_C p s m args c cc nL own Ts D cl tys A KX) : ∀ q : Nat, s.heap.size ≤ q → A q := C.2.2.1
theorem ph_loc {l2 : List (Nat × Value)} (h : ph_all lv l2) (k : ph_W p l e R s m args below meth c D cl dT kd A nL Q L ad τ cells slots pc (ph_mk l2) st) : ph_W p l e R s m args below meth c D cl dT kd A nL Q L ad τ cells slots pc lv st := fun H locs ls hU hS hl => k H locs ls hU hS (hl.to h)
theorem ph_wide {c2 s2 : Nat} (h1 : cells ≤ c2) (h2 : slots ≤ s2) (k : ph_W p l e R s m args below meth c D cl dT kd A nL Q L ad τ c2 s2 pc lv st) : ph_W p l e R s m args below meth c D cl dT kd A nL Q L ad τ cells slots pc lv st := fun H locs ls hU hS hl => W.widen h1 h2 (k H locs ls hU hS hl)
theorem ph_iconst (C : ph_C p s m args c cc nL own Ts D cl tys A KX) {n : Int} (hd : decode cc pc = .ok (.iconst n, 1)) 
    (k : ph_W p l e R s m args below meth c D cl dT kd A nL Q L ad τ cells slots (pc + 1) lv (.int (ph_i n) :: st)) : ph_W p l e R s m args below meth c D cl dT kd A nL Q L ad τ cells slots pc lv st := fun H locs ls hU hS hl => lv_iconst C.hx C.hb hd rfl (k H locs ls hU hS hl)
theorem ph_bipush (C : ph_C p s m args c cc nL own Ts D cl tys A KX) {n : Int} (hd : decode cc pc = .ok (.bipush n, 2)) (hv : (Int8.ofInt n).toInt32 = ph_i n)
    (k : ph_W p l e R s m args below meth c D cl dT kd A nL Q L ad τ cells slots (pc + 2) lv (.int (ph_i n) :: st)) : ph_W p l e R s m args below meth c D cl dT kd A nL Q L ad τ cells slots pc lv st := fun H locs ls hU hS hl => lv_bipush C.hx C.hb hd hv (k H locs ls hU hS hl)
theorem ph_sipush (C : ph_C p s m args c cc nL own Ts D cl tys A KX) {n : Int} (hd : decode cc pc = .ok (.sipush n, 3)) (hv : (Int16.ofInt n).toInt32 = ph_i n)
    (k : ph_W p l e R s m args below meth c D cl dT kd A nL Q L ad τ cells slots (pc + 3) lv (.int (ph_i n) :: st)) : ph_W p l e R s m args below meth c D cl dT kd A nL Q L ad τ cells slots pc lv st := fun H locs ls hU hS hl => lv_sipush C.hx C.hb hd hv (k H locs ls hU hS hl)
theorem ph_lconst (C : ph_C p s m args c cc nL own Ts D cl tys A KX) {n : Fin 2} (hd : decode cc pc = .ok (.lconst n, 1)) (z : Int) (hv : Int64.ofNat (n : Nat) = ph_l z)
    (k : ph_W p l e R s m args below meth c D cl dT kd A nL Q L ad τ cells slots (pc + 1) lv (.long (ph_l z) :: st)) : ph_W p l e R s m args below meth c D cl dT kd A nL Q L ad τ cells slots pc lv st := fun H locs ls hU hS hl => lv_lconst C.hx C.hb hd hv (k H locs ls hU hS hl)
theorem ph_ldc (C : ph_C p s m args c cc nL own Ts D cl tys A KX) {index : Nat} {v : Int32} (hd : decode cc pc = .ok (.ldc index, 2)) (z : Int) (hv : v = ph_i z) (hc : Cond.constant own index v ∈ Ts)
    (k : ph_W p l e R s m args below meth c D cl dT kd A nL Q L ad τ cells slots (pc + 2) lv (.int (ph_i z) :: st)) : ph_W p l e R s m args below meth c D cl dT kd A nL Q L ad τ cells slots pc lv st := fun H locs ls hU hS hl => lv_ldc C.hx C.hb C.hown (C.hts _ hc) hd (by rw [hv]; exact (k H locs ls hU hS hl))
theorem ph_ldc2 (C : ph_C p s m args c cc nL own Ts D cl tys A KX) {index : Nat} {v : Int64} (hd : decode cc pc = .ok (.ldc2_w index, 3)) (z : Int) (hv : v = ph_l z) (hc : Cond.constantLong own index v ∈ Ts)
    (k : ph_W p l e R s m args below meth c D cl dT kd A nL Q L ad τ cells slots (pc + 3) lv (.long (ph_l z) :: st)) : ph_W p l e R s m args below meth c D cl dT kd A nL Q L ad τ cells slots pc lv st := fun H locs ls hU hS hl => lv_ldc2 C.hx C.hb C.hown (C.hts _ hc) hd (by rw [hv]; exact (k H locs ls hU hS hl))
theorem ph_iload_n (C : ph_C p s m args c cc nL own Ts D cl tys A KX) {j : Fin 4} {x : Int32} (hd : decode cc pc = .ok (.iload_n j, 1)) (hg : ph_g lv (j : Nat) = some (.int x))
    (k : ph_W p l e R s m args below meth c D cl dT kd A nL Q L ad τ cells slots (pc + 1) lv (.int x :: st)) : ph_W p l e R s m args below meth c D cl dT kd A nL Q L ad τ cells slots pc lv st := fun H locs ls hU hS hl => lv_iload_n C.hx C.hb hd rfl (hl.2.2 _ _ hg) (k H locs ls hU hS hl)
theorem ph_iload (C : ph_C p s m args c cc nL own Ts D cl tys A KX) {j : Nat} {x : Int32} (hd : decode cc pc = .ok (.iload j, 2)) (hg : ph_g lv j = some (.int x))
    (k : ph_W p l e R s m args below meth c D cl dT kd A nL Q L ad τ cells slots (pc + 2) lv (.int x :: st)) : ph_W p l e R s m args below meth c D cl dT kd A nL Q L ad τ cells slots pc lv st := fun H locs ls hU hS hl => lv_iload C.hx C.hb hd (hl.2.2 _ _ hg) (k H locs ls hU hS hl)
theorem ph_lload_n (C : ph_C p s m args c cc nL own Ts D cl tys A KX) {j : Fin 4} {x : Int64} (hd : decode cc pc = .ok (.lload_n j, 1)) (hg : ph_g lv (j : Nat) = some (.long x))
    (k : ph_W p l e R s m args below meth c D cl dT kd A nL Q L ad τ cells slots (pc + 1) lv (.long x :: st)) : ph_W p l e R s m args below meth c D cl dT kd A nL Q L ad τ cells slots pc lv st := fun H locs ls hU hS hl => lv_lload_n C.hx C.hb hd rfl (hl.2.2 _ _ hg) (k H locs ls hU hS hl)
theorem ph_lload (C : ph_C p s m args c cc nL own Ts D cl tys A KX) {j : Nat} {x : Int64} (hd : decode cc pc = .ok (.lload j, 2)) (hg : ph_g lv j = some (.long x))
    (k : ph_W p l e R s m args below meth c D cl dT kd A nL Q L ad τ cells slots (pc + 2) lv (.long x :: st)) : ph_W p l e R s m args below meth c D cl dT kd A nL Q L ad τ cells slots pc lv st := fun H locs ls hU hS hl => lv_lload C.hx C.hb hd (hl.2.2 _ _ hg) (k H locs ls hU hS hl)
theorem ph_aload_n (C : ph_C p s m args c cc nL own Ts D cl tys A KX) {j : Fin 4} {x : Nat} (hd : decode cc pc = .ok (.aload_n j, 1)) (hg : ph_g lv (j : Nat) = some (.ref x))
    (k : ph_W p l e R s m args below meth c D cl dT kd A nL Q L ad τ cells slots (pc + 1) lv (.ref x :: st)) : ph_W p l e R s m args below meth c D cl dT kd A nL Q L ad τ cells slots pc lv st := fun H locs ls hU hS hl => lv_aload_n C.hx C.hb hd rfl (hl.2.2 _ _ hg) (k H locs ls hU hS hl)
theorem ph_aload (C : ph_C p s m args c cc nL own Ts D cl tys A KX) {j : Nat} {x : Nat} (hd : decode cc pc = .ok (.aload j, 2)) (hg : ph_g lv j = some (.ref x))
    (k : ph_W p l e R s m args below meth c D cl dT kd A nL Q L ad τ cells slots (pc + 2) lv (.ref x :: st)) : ph_W p l e R s m args below meth c D cl dT kd A nL Q L ad τ cells slots pc lv st := fun H locs ls hU hS hl => lv_aload C.hx C.hb hd (hl.2.2 _ _ hg) (k H locs ls hU hS hl)
theorem ph_istore_n (C : ph_C p s m args c cc nL own Ts D cl tys A KX) {j : Fin 4} {x : Int32} (hd : decode cc pc = .ok (.istore_n j, 1)) (hn : (j : Nat) < nL) (ho : ph_ok lv (j : Nat) = true)
    (k : ph_W p l e R s m args below meth c D cl dT kd A nL Q L ad τ cells slots (pc + 1) (((j : Nat), some (.int x)) :: lv) st) : ph_W p l e R s m args below meth c D cl dT kd A nL Q L ad τ cells slots pc lv (.int x :: st) := fun H locs ls hU hS hl => lv_istore_n C.hx C.hb hd rfl hl.lv hn rfl (fun ls2 h2 => k H locs ls2 hU hS (ph_st1' hl ho h2))
theorem ph_istore (C : ph_C p s m args c cc nL own Ts D cl tys A KX) {j : Nat} {x : Int32} (hd : decode cc pc = .ok (.istore j, 2)) (hn : j < nL) (ho : ph_ok lv j = true)
    (k : ph_W p l e R s m args below meth c D cl dT kd A nL Q L ad τ cells slots (pc + 2) ((j, some (.int x)) :: lv) st) : ph_W p l e R s m args below meth c D cl dT kd A nL Q L ad τ cells slots pc lv (.int x :: st) := fun H locs ls hU hS hl => lv_istore C.hx C.hb hd hl.lv hn rfl (fun ls2 h2 => k H locs ls2 hU hS (ph_st1' hl ho h2))
theorem ph_lstore_n (C : ph_C p s m args c cc nL own Ts D cl tys A KX) {j : Fin 4} {x : Int64} (hd : decode cc pc = .ok (.lstore_n j, 1)) (hn : (j : Nat) + 1 < nL) (ho : ph_ok lv (j : Nat) = true)
    (k : ph_W p l e R s m args below meth c D cl dT kd A nL Q L ad τ cells slots (pc + 1) (((j : Nat), some (.long x)) :: ((j : Nat) + 1, none) :: lv) st) : ph_W p l e R s m args below meth c D cl dT kd A nL Q L ad τ cells slots pc lv (.long x :: st) := fun H locs ls hU hS hl => lv_lstore_n C.hx C.hb hd rfl hl.lv hn rfl (fun ls2 h2 => k H locs ls2 hU hS (ph_st2' hl ho h2))
theorem ph_lstore (C : ph_C p s m args c cc nL own Ts D cl tys A KX) {j : Nat} {x : Int64} (hd : decode cc pc = .ok (.lstore j, 2)) (hn : j + 1 < nL) (ho : ph_ok lv j = true)
    (k : ph_W p l e R s m args below meth c D cl dT kd A nL Q L ad τ cells slots (pc + 2) ((j, some (.long x)) :: (j + 1, none) :: lv) st) : ph_W p l e R s m args below meth c D cl dT kd A nL Q L ad τ cells slots pc lv (.long x :: st) := fun H locs ls hU hS hl => lv_lstore C.hx C.hb hd hl.lv hn rfl (fun ls2 h2 => k H locs ls2 hU hS (ph_st2' hl ho h2))
theorem ph_astore_n (C : ph_C p s m args c cc nL own Ts D cl tys A KX) {j : Fin 4} {x : Nat} (hd : decode cc pc = .ok (.astore_n j, 1)) (hn : (j : Nat) < nL) (ho : ph_ok lv (j : Nat) = true)
    (k : ph_W p l e R s m args below meth c D cl dT kd A nL Q L ad τ cells slots (pc + 1) (((j : Nat), some (.ref x)) :: lv) st) : ph_W p l e R s m args below meth c D cl dT kd A nL Q L ad τ cells slots pc lv (.ref x :: st) := fun H locs ls hU hS hl => lv_astore_n C.hx C.hb hd rfl hl.lv hn rfl (fun ls2 h2 => k H locs ls2 hU hS (ph_st1' hl ho h2))
theorem ph_astore (C : ph_C p s m args c cc nL own Ts D cl tys A KX) {j : Nat} {x : Nat} (hd : decode cc pc = .ok (.astore j, 2)) (hn : j < nL) (ho : ph_ok lv j = true)
    (k : ph_W p l e R s m args below meth c D cl dT kd A nL Q L ad τ cells slots (pc + 2) ((j, some (.ref x)) :: lv) st) : ph_W p l e R s m args below meth c D cl dT kd A nL Q L ad τ cells slots pc lv (.ref x :: st) := fun H locs ls hU hS hl => lv_astore C.hx C.hb hd hl.lv hn rfl (fun ls2 h2 => k H locs ls2 hU hS (ph_st1' hl ho h2))
theorem ph_iinc (C : ph_C p s m args c cc nL own Ts D cl tys A KX) {j : Nat} {n x : Int} (hd : decode cc pc = .ok (.iinc j n, 3)) (hg : ph_g lv j = some (.int (ph_i x))) (ho : ph_ok lv j = true)
    (k : ph_W p l e R s m args below meth c D cl dT kd A nL Q L ad τ cells slots (pc + 3) ((j, some (.int (ph_i (x + n)))) :: lv) st) : ph_W p l e R s m args below meth c D cl dT kd A nL Q L ad τ cells slots pc lv st := fun H locs ls hU hS hl => by
  have hm : (j, Value.int (ph_i x)) ∈ ph_ll nL lv := ph_ll_mem.mpr ⟨hl.bd hg, hg⟩
  obtain ⟨q, hq⟩ := List.getElem?_of_mem hm
  exact lv_iinc (v := ph_i (x + n)) C.hx C.hb hd hl.lv hq (pn_iadd x n) (hl.bd hg) rfl (fun ls2 h2 => k H locs ls2 hU hS (ph_st1' hl ho h2))
theorem ph_iadd (C : ph_C p s m args c cc nL own Ts D cl tys A KX) {x y : Int} (hd : decode cc pc = .ok (.iadd, 1)) 
    (k : ph_W p l e R s m args below meth c D cl dT kd A nL Q L ad τ cells slots (pc + 1) lv (.int (ph_i (x + y)) :: st)) : ph_W p l e R s m args below meth c D cl dT kd A nL Q L ad τ cells slots pc lv (.int (ph_i y) :: .int (ph_i x) :: st) := fun H locs ls hU hS hl => lv_iadd C.hx C.hb hd (by rw [pn_iadd]; exact (k H locs ls hU hS hl))
theorem ph_isub (C : ph_C p s m args c cc nL own Ts D cl tys A KX) {x y : Int} (hd : decode cc pc = .ok (.isub, 1)) 
    (k : ph_W p l e R s m args below meth c D cl dT kd A nL Q L ad τ cells slots (pc + 1) lv (.int (ph_i (x - y)) :: st)) : ph_W p l e R s m args below meth c D cl dT kd A nL Q L ad τ cells slots pc lv (.int (ph_i y) :: .int (ph_i x) :: st) := fun H locs ls hU hS hl => lv_isub C.hx C.hb hd (by rw [pn_isub]; exact (k H locs ls hU hS hl))
theorem ph_imul (C : ph_C p s m args c cc nL own Ts D cl tys A KX) {x y : Int} (hd : decode cc pc = .ok (.imul, 1)) 
    (k : ph_W p l e R s m args below meth c D cl dT kd A nL Q L ad τ cells slots (pc + 1) lv (.int (ph_i (x * y)) :: st)) : ph_W p l e R s m args below meth c D cl dT kd A nL Q L ad τ cells slots pc lv (.int (ph_i y) :: .int (ph_i x) :: st) := fun H locs ls hU hS hl => lv_imul C.hx C.hb hd (by rw [pn_imul]; exact (k H locs ls hU hS hl))
theorem ph_ladd (C : ph_C p s m args c cc nL own Ts D cl tys A KX) {x y : Int} (hd : decode cc pc = .ok (.ladd, 1)) 
    (k : ph_W p l e R s m args below meth c D cl dT kd A nL Q L ad τ cells slots (pc + 1) lv (.long (ph_l (x + y)) :: st)) : ph_W p l e R s m args below meth c D cl dT kd A nL Q L ad τ cells slots pc lv (.long (ph_l y) :: .long (ph_l x) :: st) := fun H locs ls hU hS hl => lv_ladd C.hx C.hb hd (by rw [pn_ladd]; exact (k H locs ls hU hS hl))
theorem ph_lsub (C : ph_C p s m args c cc nL own Ts D cl tys A KX) {x y : Int} (hd : decode cc pc = .ok (.lsub, 1)) 
    (k : ph_W p l e R s m args below meth c D cl dT kd A nL Q L ad τ cells slots (pc + 1) lv (.long (ph_l (x - y)) :: st)) : ph_W p l e R s m args below meth c D cl dT kd A nL Q L ad τ cells slots pc lv (.long (ph_l y) :: .long (ph_l x) :: st) := fun H locs ls hU hS hl => lv_lsub C.hx C.hb hd (by rw [pn_lsub]; exact (k H locs ls hU hS hl))
theorem ph_lmul (C : ph_C p s m args c cc nL own Ts D cl tys A KX) {x y : Int} (hd : decode cc pc = .ok (.lmul, 1)) 
    (k : ph_W p l e R s m args below meth c D cl dT kd A nL Q L ad τ cells slots (pc + 1) lv (.long (ph_l (x * y)) :: st)) : ph_W p l e R s m args below meth c D cl dT kd A nL Q L ad τ cells slots pc lv (.long (ph_l y) :: .long (ph_l x) :: st) := fun H locs ls hU hS hl => lv_lmul C.hx C.hb hd (by rw [pn_lmul]; exact (k H locs ls hU hS hl))
theorem ph_ineg (C : ph_C p s m args c cc nL own Ts D cl tys A KX) {x : Int} (hd : decode cc pc = .ok (.ineg, 1)) 
    (k : ph_W p l e R s m args below meth c D cl dT kd A nL Q L ad τ cells slots (pc + 1) lv (.int (ph_i (-x)) :: st)) : ph_W p l e R s m args below meth c D cl dT kd A nL Q L ad τ cells slots pc lv (.int (ph_i x) :: st) := fun H locs ls hU hS hl => lv_ineg C.hx C.hb hd (by rw [pn_ineg]; exact (k H locs ls hU hS hl))
theorem ph_lneg (C : ph_C p s m args c cc nL own Ts D cl tys A KX) {x : Int} (hd : decode cc pc = .ok (.lneg, 1)) 
    (k : ph_W p l e R s m args below meth c D cl dT kd A nL Q L ad τ cells slots (pc + 1) lv (.long (ph_l (-x)) :: st)) : ph_W p l e R s m args below meth c D cl dT kd A nL Q L ad τ cells slots pc lv (.long (ph_l x) :: st) := fun H locs ls hU hS hl => lv_lneg C.hx C.hb hd (by rw [pn_lneg]; exact (k H locs ls hU hS hl))
theorem ph_i2l (C : ph_C p s m args c cc nL own Ts D cl tys A KX) {x : Int} (hd : decode cc pc = .ok (.i2l, 1)) (hr : ph_ri x)
    (k : ph_W p l e R s m args below meth c D cl dT kd A nL Q L ad τ cells slots (pc + 1) lv (.long (ph_l x) :: st)) : ph_W p l e R s m args below meth c D cl dT kd A nL Q L ad τ cells slots pc lv (.int (ph_i x) :: st) := fun H locs ls hU hS hl => lv_i2l C.hx C.hb hd (pn_i2l hr) (k H locs ls hU hS hl)
theorem ph_l2i (C : ph_C p s m args c cc nL own Ts D cl tys A KX) {x : Int} (hd : decode cc pc = .ok (.l2i, 1)) 
    (k : ph_W p l e R s m args below meth c D cl dT kd A nL Q L ad τ cells slots (pc + 1) lv (.int (ph_i x) :: st)) : ph_W p l e R s m args below meth c D cl dT kd A nL Q L ad τ cells slots pc lv (.long (ph_l x) :: st) := fun H locs ls hU hS hl => lv_l2i C.hx C.hb hd (pn_l2i x) (k H locs ls hU hS hl)
theorem ph_iand (C : ph_C p s m args c cc nL own Ts D cl tys A KX) {x y : Int32} (hd : decode cc pc = .ok (.iand, 1)) (z : Int) (hv : x &&& y = ph_i z)
    (k : ph_W p l e R s m args below meth c D cl dT kd A nL Q L ad τ cells slots (pc + 1) lv (.int (ph_i z) :: st)) : ph_W p l e R s m args below meth c D cl dT kd A nL Q L ad τ cells slots pc lv (.int y :: .int x :: st) := fun H locs ls hU hS hl => lv_iand C.hx C.hb hd (by rw [hv]; exact (k H locs ls hU hS hl))
theorem ph_ior (C : ph_C p s m args c cc nL own Ts D cl tys A KX) {x y : Int32} (hd : decode cc pc = .ok (.ior, 1)) (z : Int) (hv : x ||| y = ph_i z)
    (k : ph_W p l e R s m args below meth c D cl dT kd A nL Q L ad τ cells slots (pc + 1) lv (.int (ph_i z) :: st)) : ph_W p l e R s m args below meth c D cl dT kd A nL Q L ad τ cells slots pc lv (.int y :: .int x :: st) := fun H locs ls hU hS hl => lv_ior C.hx C.hb hd (by rw [hv]; exact (k H locs ls hU hS hl))
theorem ph_ixor (C : ph_C p s m args c cc nL own Ts D cl tys A KX) {x y : Int32} (hd : decode cc pc = .ok (.ixor, 1)) (z : Int) (hv : x ^^^ y = ph_i z)
    (k : ph_W p l e R s m args below meth c D cl dT kd A nL Q L ad τ cells slots (pc + 1) lv (.int (ph_i z) :: st)) : ph_W p l e R s m args below meth c D cl dT kd A nL Q L ad τ cells slots pc lv (.int y :: .int x :: st) := fun H locs ls hU hS hl => lv_ixor C.hx C.hb hd (by rw [hv]; exact (k H locs ls hU hS hl))
theorem ph_ishl (C : ph_C p s m args c cc nL own Ts D cl tys A KX) {x y : Int32} (hd : decode cc pc = .ok (.ishl, 1)) (z : Int) (hv : x <<< (y &&& 31) = ph_i z)
    (k : ph_W p l e R s m args below meth c D cl dT kd A nL Q L ad τ cells slots (pc + 1) lv (.int (ph_i z) :: st)) : ph_W p l e R s m args below meth c D cl dT kd A nL Q L ad τ cells slots pc lv (.int y :: .int x :: st) := fun H locs ls hU hS hl => lv_ishl C.hx C.hb hd (by rw [hv]; exact (k H locs ls hU hS hl))
theorem ph_ishr (C : ph_C p s m args c cc nL own Ts D cl tys A KX) {x y : Int32} (hd : decode cc pc = .ok (.ishr, 1)) (z : Int) (hv : x >>> (y &&& 31) = ph_i z)
    (k : ph_W p l e R s m args below meth c D cl dT kd A nL Q L ad τ cells slots (pc + 1) lv (.int (ph_i z) :: st)) : ph_W p l e R s m args below meth c D cl dT kd A nL Q L ad τ cells slots pc lv (.int y :: .int x :: st) := fun H locs ls hU hS hl => lv_ishr C.hx C.hb hd (by rw [hv]; exact (k H locs ls hU hS hl))
theorem ph_land (C : ph_C p s m args c cc nL own Ts D cl tys A KX) {x y : Int64} (hd : decode cc pc = .ok (.land, 1)) (z : Int) (hv : x &&& y = ph_l z)
    (k : ph_W p l e R s m args below meth c D cl dT kd A nL Q L ad τ cells slots (pc + 1) lv (.long (ph_l z) :: st)) : ph_W p l e R s m args below meth c D cl dT kd A nL Q L ad τ cells slots pc lv (.long y :: .long x :: st) := fun H locs ls hU hS hl => lv_land C.hx C.hb hd (by rw [hv]; exact (k H locs ls hU hS hl))
theorem ph_lor (C : ph_C p s m args c cc nL own Ts D cl tys A KX) {x y : Int64} (hd : decode cc pc = .ok (.lor, 1)) (z : Int) (hv : x ||| y = ph_l z)
    (k : ph_W p l e R s m args below meth c D cl dT kd A nL Q L ad τ cells slots (pc + 1) lv (.long (ph_l z) :: st)) : ph_W p l e R s m args below meth c D cl dT kd A nL Q L ad τ cells slots pc lv (.long y :: .long x :: st) := fun H locs ls hU hS hl => lv_lor C.hx C.hb hd (by rw [hv]; exact (k H locs ls hU hS hl))
theorem ph_lxor (C : ph_C p s m args c cc nL own Ts D cl tys A KX) {x y : Int64} (hd : decode cc pc = .ok (.lxor, 1)) (z : Int) (hv : x ^^^ y = ph_l z)
    (k : ph_W p l e R s m args below meth c D cl dT kd A nL Q L ad τ cells slots (pc + 1) lv (.long (ph_l z) :: st)) : ph_W p l e R s m args below meth c D cl dT kd A nL Q L ad τ cells slots pc lv (.long y :: .long x :: st) := fun H locs ls hU hS hl => lv_lxor C.hx C.hb hd (by rw [hv]; exact (k H locs ls hU hS hl))
theorem ph_lshl (C : ph_C p s m args c cc nL own Ts D cl tys A KX) {x : Int64} {y : Int32} (hd : decode cc pc = .ok (.lshl, 1)) (z : Int) (hv : x <<< (y.toInt64 &&& 63) = ph_l z)
    (k : ph_W p l e R s m args below meth c D cl dT kd A nL Q L ad τ cells slots (pc + 1) lv (.long (ph_l z) :: st)) : ph_W p l e R s m args below meth c D cl dT kd A nL Q L ad τ cells slots pc lv (.int y :: .long x :: st) := fun H locs ls hU hS hl => lv_lshl C.hx C.hb hd hv (k H locs ls hU hS hl)
theorem ph_lshr (C : ph_C p s m args c cc nL own Ts D cl tys A KX) {x : Int64} {y : Int32} (hd : decode cc pc = .ok (.lshr, 1)) (z : Int) (hv : x >>> (y.toInt64 &&& 63) = ph_l z)
    (k : ph_W p l e R s m args below meth c D cl dT kd A nL Q L ad τ cells slots (pc + 1) lv (.long (ph_l z) :: st)) : ph_W p l e R s m args below meth c D cl dT kd A nL Q L ad τ cells slots pc lv (.int y :: .long x :: st) := fun H locs ls hU hS hl => lv_lshr C.hx C.hb hd hv (k H locs ls hU hS hl)
theorem ph_iushr (C : ph_C p s m args c cc nL own Ts D cl tys A KX) {x y : Int32} (hd : decode cc pc = .ok (.iushr, 1)) (z : Int) (hv : (x.toUInt32 >>> (y.toUInt32 &&& Int32.toUInt32 31)).toInt32 = ph_i z)
    (k : ph_W p l e R s m args below meth c D cl dT kd A nL Q L ad τ cells slots (pc + 1) lv (.int (ph_i z) :: st)) : ph_W p l e R s m args below meth c D cl dT kd A nL Q L ad τ cells slots pc lv (.int y :: .int x :: st) := fun H locs ls hU hS hl => lv_iushr C.hx C.hb hd hv (k H locs ls hU hS hl)
theorem ph_lushr (C : ph_C p s m args c cc nL own Ts D cl tys A KX) {x : Int64} {y : Int32} (hd : decode cc pc = .ok (.lushr, 1)) (z : Int) (hv : (x.toUInt64 >>> (y.toInt64.toUInt64 &&& Int64.toUInt64 63)).toInt64 = ph_l z)
    (k : ph_W p l e R s m args below meth c D cl dT kd A nL Q L ad τ cells slots (pc + 1) lv (.long (ph_l z) :: st)) : ph_W p l e R s m args below meth c D cl dT kd A nL Q L ad τ cells slots pc lv (.int y :: .long x :: st) := fun H locs ls hU hS hl => lv_lushr C.hx C.hb hd hv (k H locs ls hU hS hl)
theorem ph_idiv (C : ph_C p s m args c cc nL own Ts D cl tys A KX) {x y : Int32} (hd : decode cc pc = .ok (.idiv, 1)) (z : Int) (hne : ¬ y = 0) (hv : x / y = ph_i z)
    (k : ph_W p l e R s m args below meth c D cl dT kd A nL Q L ad τ cells slots (pc + 1) lv (.int (ph_i z) :: st)) : ph_W p l e R s m args below meth c D cl dT kd A nL Q L ad τ cells slots pc lv (.int y :: .int x :: st) := fun H locs ls hU hS hl => lv_idiv C.hx C.hb hd hne (by rw [hv]; exact (k H locs ls hU hS hl))
theorem ph_irem (C : ph_C p s m args c cc nL own Ts D cl tys A KX) {x y : Int32} (hd : decode cc pc = .ok (.irem, 1)) (z : Int) (hne : ¬ y = 0) (hv : x - x / y * y = ph_i z)
    (k : ph_W p l e R s m args below meth c D cl dT kd A nL Q L ad τ cells slots (pc + 1) lv (.int (ph_i z) :: st)) : ph_W p l e R s m args below meth c D cl dT kd A nL Q L ad τ cells slots pc lv (.int y :: .int x :: st) := fun H locs ls hU hS hl => lv_irem C.hx C.hb hd hne (by rw [hv]; exact (k H locs ls hU hS hl))
theorem ph_ldiv (C : ph_C p s m args c cc nL own Ts D cl tys A KX) {x y : Int64} (hd : decode cc pc = .ok (.ldiv, 1)) (z : Int) (hne : ¬ y = 0) (hv : x / y = ph_l z)
    (k : ph_W p l e R s m args below meth c D cl dT kd A nL Q L ad τ cells slots (pc + 1) lv (.long (ph_l z) :: st)) : ph_W p l e R s m args below meth c D cl dT kd A nL Q L ad τ cells slots pc lv (.long y :: .long x :: st) := fun H locs ls hU hS hl => lv_ldiv C.hx C.hb hd hne (by rw [hv]; exact (k H locs ls hU hS hl))
theorem ph_lrem (C : ph_C p s m args c cc nL own Ts D cl tys A KX) {x y : Int64} (hd : decode cc pc = .ok (.lrem, 1)) (z : Int) (hne : ¬ y = 0) (hv : x - x / y * y = ph_l z)
    (k : ph_W p l e R s m args below meth c D cl dT kd A nL Q L ad τ cells slots (pc + 1) lv (.long (ph_l z) :: st)) : ph_W p l e R s m args below meth c D cl dT kd A nL Q L ad τ cells slots pc lv (.long y :: .long x :: st) := fun H locs ls hU hS hl => lv_lrem C.hx C.hb hd hne (by rw [hv]; exact (k H locs ls hU hS hl))
theorem ph_dup (C : ph_C p s m args c cc nL own Ts D cl tys A KX) {v : Value} (hd : decode cc pc = .ok (.dup, 1)) (hv : v.category = 1)
    (k : ph_W p l e R s m args below meth c D cl dT kd A nL Q L ad τ cells slots (pc + 1) lv (v :: v :: st)) : ph_W p l e R s m args below meth c D cl dT kd A nL Q L ad τ cells slots pc lv (v :: st) := fun H locs ls hU hS hl => lv_dup C.hx C.hb hd hv (k H locs ls hU hS hl)
theorem ph_pop (C : ph_C p s m args c cc nL own Ts D cl tys A KX) {v : Value} (hd : decode cc pc = .ok (.pop, 1)) (hv : v.category = 1)
    (k : ph_W p l e R s m args below meth c D cl dT kd A nL Q L ad τ cells slots (pc + 1) lv st) : ph_W p l e R s m args below meth c D cl dT kd A nL Q L ad τ cells slots pc lv (v :: st) := fun H locs ls hU hS hl => lv_pop C.hx C.hb hd hv (k H locs ls hU hS hl)
theorem ph_dup_x1 (C : ph_C p s m args c cc nL own Ts D cl tys A KX) {v u : Value} (hd : decode cc pc = .ok (.dup_x1, 1)) (hv : v.category = 1) (hu : u.category = 1)
    (k : ph_W p l e R s m args below meth c D cl dT kd A nL Q L ad τ cells slots (pc + 1) lv (v :: u :: v :: st)) : ph_W p l e R s m args below meth c D cl dT kd A nL Q L ad τ cells slots pc lv (v :: u :: st) := fun H locs ls hU hS hl => lv_dup_x1 C.hx C.hb hd hv hu (k H locs ls hU hS hl)
theorem ph_dup_x2 (C : ph_C p s m args c cc nL own Ts D cl tys A KX) {v u t : Value} (hd : decode cc pc = .ok (.dup_x2, 1)) (hv : v.category = 1) (hu : u.category = 1) (ht : t.category = 1)
    (k : ph_W p l e R s m args below meth c D cl dT kd A nL Q L ad τ cells slots (pc + 1) lv (v :: u :: t :: v :: st)) : ph_W p l e R s m args below meth c D cl dT kd A nL Q L ad τ cells slots pc lv (v :: u :: t :: st) := fun H locs ls hU hS hl => lv_dup_x2 C.hx C.hb hd hv hu ht (k H locs ls hU hS hl)
theorem ph_dup2_11 (C : ph_C p s m args c cc nL own Ts D cl tys A KX) {v u : Value} (hd : decode cc pc = .ok (.dup2, 1)) (hv : v.category = 1) (hu : u.category = 1)
    (k : ph_W p l e R s m args below meth c D cl dT kd A nL Q L ad τ cells slots (pc + 1) lv (v :: u :: v :: u :: st)) : ph_W p l e R s m args below meth c D cl dT kd A nL Q L ad τ cells slots pc lv (v :: u :: st) := fun H locs ls hU hS hl => lv_dup2_11 C.hx C.hb hd hv hu (k H locs ls hU hS hl)
theorem ph_dup2_2 (C : ph_C p s m args c cc nL own Ts D cl tys A KX) {v : Value} (hd : decode cc pc = .ok (.dup2, 1)) (hv : v.category = 2)
    (k : ph_W p l e R s m args below meth c D cl dT kd A nL Q L ad τ cells slots (pc + 1) lv (v :: v :: st)) : ph_W p l e R s m args below meth c D cl dT kd A nL Q L ad τ cells slots pc lv (v :: st) := fun H locs ls hU hS hl => lv_dup2_2 C.hx C.hb hd hv (k H locs ls hU hS hl)
theorem ph_goto (C : ph_C p s m args c cc nL own Ts D cl tys A KX) {off : Int} {tgt : Nat} (hd : decode cc pc = .ok (.goto off, 3)) (ht : (pc : Int) + off = (tgt : Int))
    (k : ph_W p l e R s m args below meth c D cl dT kd A nL Q L ad τ cells slots tgt lv st) : ph_W p l e R s m args below meth c D cl dT kd A nL Q L ad τ cells slots pc lv st := fun H locs ls hU hS hl => lv_goto C.hx C.hb hd ht (k H locs ls hU hS hl)
theorem ph_icmp_eq (C : ph_C p s m args c cc nL own Ts D cl tys A KX) {x y off : Int} {tgt : Nat} (hd : decode cc pc = .ok (.if_icmp .eq off, 3)) (ht : (pc : Int) + off = (tgt : Int)) (hx : ph_ri x) (hy : ph_ri y)
    (kt : x = y → ph_W p l e R s m args below meth c D cl dT kd A nL Q L ad τ cells slots tgt lv st) (kf : ¬ x = y → ph_W p l e R s m args below meth c D cl dT kd A nL Q L ad τ cells slots (pc + 3) lv st) : ph_W p l e R s m args below meth c D cl dT kd A nL Q L ad τ cells slots pc lv (.int (ph_i y) :: .int (ph_i x) :: st) := fun H locs ls hU hS hl => lv_icmp_eq C.hx C.hb hd ht (fun q => kt ((ph_ieq hx hy).mp q) H locs ls hU hS hl) (fun q => kf (fun z => q ((ph_ieq hx hy).mpr z)) H locs ls hU hS hl)
theorem ph_if_eq (C : ph_C p s m args c cc nL own Ts D cl tys A KX) {x off : Int} {tgt : Nat} (hd : decode cc pc = .ok (.ifCond .eq off, 3)) (ht : (pc : Int) + off = (tgt : Int)) (hx : ph_ri x)
    (kt : x = 0 → ph_W p l e R s m args below meth c D cl dT kd A nL Q L ad τ cells slots tgt lv st) (kf : ¬ x = 0 → ph_W p l e R s m args below meth c D cl dT kd A nL Q L ad τ cells slots (pc + 3) lv st) : ph_W p l e R s m args below meth c D cl dT kd A nL Q L ad τ cells slots pc lv (.int (ph_i x) :: st) := fun H locs ls hU hS hl => lv_if_eq C.hx C.hb hd ht (fun q => kt ((ph_ieq hx (by omega : ph_ri 0)).mp q) H locs ls hU hS hl) (fun q => kf (fun z => q ((ph_ieq hx (by omega : ph_ri 0)).mpr z)) H locs ls hU hS hl)
theorem ph_l_eq (C : ph_C p s m args c cc nL own Ts D cl tys A KX) {x y off : Int} {tgt : Nat} (hd0 : decode cc pc = .ok (.lcmp, 1)) (hd : decode cc (pc + 1) = .ok (.ifCond .eq off, 3)) (ht : ((pc + 1 : Nat) : Int) + off = (tgt : Int)) (hx : ph_rl x) (hy : ph_rl y)
    (kt : x = y → ph_W p l e R s m args below meth c D cl dT kd A nL Q L ad τ cells slots tgt lv st) (kf : ¬ x = y → ph_W p l e R s m args below meth c D cl dT kd A nL Q L ad τ cells slots (pc + 4) lv st) : ph_W p l e R s m args below meth c D cl dT kd A nL Q L ad τ cells slots pc lv (.long (ph_l y) :: .long (ph_l x) :: st) := fun H locs ls hU hS hl => W.lcmp C.hx C.hb hd0 (lv_if_eq C.hx C.hb hd ht (fun q => kt ((ph_leq hx hy).mp ((lg_cmp_eq (ph_l x) (ph_l y)).mp q)) H locs ls hU hS hl) (fun q => kf (fun z => q ((lg_cmp_eq (ph_l x) (ph_l y)).mpr ((ph_leq hx hy).mpr z))) H locs ls hU hS hl))
theorem ph_icmp_ne (C : ph_C p s m args c cc nL own Ts D cl tys A KX) {x y off : Int} {tgt : Nat} (hd : decode cc pc = .ok (.if_icmp .ne off, 3)) (ht : (pc : Int) + off = (tgt : Int)) (hx : ph_ri x) (hy : ph_ri y)
    (kt : ¬ x = y → ph_W p l e R s m args below meth c D cl dT kd A nL Q L ad τ cells slots tgt lv st) (kf : x = y → ph_W p l e R s m args below meth c D cl dT kd A nL Q L ad τ cells slots (pc + 3) lv st) : ph_W p l e R s m args below meth c D cl dT kd A nL Q L ad τ cells slots pc lv (.int (ph_i y) :: .int (ph_i x) :: st) := fun H locs ls hU hS hl => lv_icmp_ne C.hx C.hb hd ht (fun q => kt (fun z => q ((ph_ieq hx hy).mpr z)) H locs ls hU hS hl) (fun q => kf ((ph_ieq hx hy).mp q) H locs ls hU hS hl)
theorem ph_if_ne (C : ph_C p s m args c cc nL own Ts D cl tys A KX) {x off : Int} {tgt : Nat} (hd : decode cc pc = .ok (.ifCond .ne off, 3)) (ht : (pc : Int) + off = (tgt : Int)) (hx : ph_ri x)
    (kt : ¬ x = 0 → ph_W p l e R s m args below meth c D cl dT kd A nL Q L ad τ cells slots tgt lv st) (kf : x = 0 → ph_W p l e R s m args below meth c D cl dT kd A nL Q L ad τ cells slots (pc + 3) lv st) : ph_W p l e R s m args below meth c D cl dT kd A nL Q L ad τ cells slots pc lv (.int (ph_i x) :: st) := fun H locs ls hU hS hl => lv_if_ne C.hx C.hb hd ht (fun q => kt (fun z => q ((ph_ieq hx (by omega : ph_ri 0)).mpr z)) H locs ls hU hS hl) (fun q => kf ((ph_ieq hx (by omega : ph_ri 0)).mp q) H locs ls hU hS hl)
theorem ph_l_ne (C : ph_C p s m args c cc nL own Ts D cl tys A KX) {x y off : Int} {tgt : Nat} (hd0 : decode cc pc = .ok (.lcmp, 1)) (hd : decode cc (pc + 1) = .ok (.ifCond .ne off, 3)) (ht : ((pc + 1 : Nat) : Int) + off = (tgt : Int)) (hx : ph_rl x) (hy : ph_rl y)
    (kt : ¬ x = y → ph_W p l e R s m args below meth c D cl dT kd A nL Q L ad τ cells slots tgt lv st) (kf : x = y → ph_W p l e R s m args below meth c D cl dT kd A nL Q L ad τ cells slots (pc + 4) lv st) : ph_W p l e R s m args below meth c D cl dT kd A nL Q L ad τ cells slots pc lv (.long (ph_l y) :: .long (ph_l x) :: st) := fun H locs ls hU hS hl => W.lcmp C.hx C.hb hd0 (lv_if_ne C.hx C.hb hd ht (fun q => kt (fun z => q ((lg_cmp_eq (ph_l x) (ph_l y)).mpr ((ph_leq hx hy).mpr z))) H locs ls hU hS hl) (fun q => kf ((ph_leq hx hy).mp ((lg_cmp_eq (ph_l x) (ph_l y)).mp q)) H locs ls hU hS hl))
theorem ph_icmp_lt (C : ph_C p s m args c cc nL own Ts D cl tys A KX) {x y off : Int} {tgt : Nat} (hd : decode cc pc = .ok (.if_icmp .lt off, 3)) (ht : (pc : Int) + off = (tgt : Int)) (hx : ph_ri x) (hy : ph_ri y)
    (kt : x < y → ph_W p l e R s m args below meth c D cl dT kd A nL Q L ad τ cells slots tgt lv st) (kf : ¬ x < y → ph_W p l e R s m args below meth c D cl dT kd A nL Q L ad τ cells slots (pc + 3) lv st) : ph_W p l e R s m args below meth c D cl dT kd A nL Q L ad τ cells slots pc lv (.int (ph_i y) :: .int (ph_i x) :: st) := fun H locs ls hU hS hl => lv_icmp_lt C.hx C.hb hd ht (fun q => kt ((ph_ilt hx hy).mp q) H locs ls hU hS hl) (fun q => kf (fun z => q ((ph_ilt hx hy).mpr z)) H locs ls hU hS hl)
theorem ph_if_lt (C : ph_C p s m args c cc nL own Ts D cl tys A KX) {x off : Int} {tgt : Nat} (hd : decode cc pc = .ok (.ifCond .lt off, 3)) (ht : (pc : Int) + off = (tgt : Int)) (hx : ph_ri x)
    (kt : x < 0 → ph_W p l e R s m args below meth c D cl dT kd A nL Q L ad τ cells slots tgt lv st) (kf : ¬ x < 0 → ph_W p l e R s m args below meth c D cl dT kd A nL Q L ad τ cells slots (pc + 3) lv st) : ph_W p l e R s m args below meth c D cl dT kd A nL Q L ad τ cells slots pc lv (.int (ph_i x) :: st) := fun H locs ls hU hS hl => lv_if_lt C.hx C.hb hd ht (fun q => kt ((ph_ilt hx (by omega : ph_ri 0)).mp q) H locs ls hU hS hl) (fun q => kf (fun z => q ((ph_ilt hx (by omega : ph_ri 0)).mpr z)) H locs ls hU hS hl)
theorem ph_l_lt (C : ph_C p s m args c cc nL own Ts D cl tys A KX) {x y off : Int} {tgt : Nat} (hd0 : decode cc pc = .ok (.lcmp, 1)) (hd : decode cc (pc + 1) = .ok (.ifCond .lt off, 3)) (ht : ((pc + 1 : Nat) : Int) + off = (tgt : Int)) (hx : ph_rl x) (hy : ph_rl y)
    (kt : x < y → ph_W p l e R s m args below meth c D cl dT kd A nL Q L ad τ cells slots tgt lv st) (kf : ¬ x < y → ph_W p l e R s m args below meth c D cl dT kd A nL Q L ad τ cells slots (pc + 4) lv st) : ph_W p l e R s m args below meth c D cl dT kd A nL Q L ad τ cells slots pc lv (.long (ph_l y) :: .long (ph_l x) :: st) := fun H locs ls hU hS hl => W.lcmp C.hx C.hb hd0 (lv_if_lt C.hx C.hb hd ht (fun q => kt ((ph_llt hx hy).mp ((lg_cmp_lt (ph_l x) (ph_l y)).mp q)) H locs ls hU hS hl) (fun q => kf (fun z => q ((lg_cmp_lt (ph_l x) (ph_l y)).mpr ((ph_llt hx hy).mpr z))) H locs ls hU hS hl))
theorem ph_icmp_ge (C : ph_C p s m args c cc nL own Ts D cl tys A KX) {x y off : Int} {tgt : Nat} (hd : decode cc pc = .ok (.if_icmp .ge off, 3)) (ht : (pc : Int) + off = (tgt : Int)) (hx : ph_ri x) (hy : ph_ri y)
    (kt : y ≤ x → ph_W p l e R s m args below meth c D cl dT kd A nL Q L ad τ cells slots tgt lv st) (kf : ¬ y ≤ x → ph_W p l e R s m args below meth c D cl dT kd A nL Q L ad τ cells slots (pc + 3) lv st) : ph_W p l e R s m args below meth c D cl dT kd A nL Q L ad τ cells slots pc lv (.int (ph_i y) :: .int (ph_i x) :: st) := fun H locs ls hU hS hl => lv_icmp_ge C.hx C.hb hd ht (fun q => kt ((ph_ile hy hx).mp q) H locs ls hU hS hl) (fun q => kf (fun z => q ((ph_ile hy hx).mpr z)) H locs ls hU hS hl)
theorem ph_if_ge (C : ph_C p s m args c cc nL own Ts D cl tys A KX) {x off : Int} {tgt : Nat} (hd : decode cc pc = .ok (.ifCond .ge off, 3)) (ht : (pc : Int) + off = (tgt : Int)) (hx : ph_ri x)
    (kt : 0 ≤ x → ph_W p l e R s m args below meth c D cl dT kd A nL Q L ad τ cells slots tgt lv st) (kf : ¬ 0 ≤ x → ph_W p l e R s m args below meth c D cl dT kd A nL Q L ad τ cells slots (pc + 3) lv st) : ph_W p l e R s m args below meth c D cl dT kd A nL Q L ad τ cells slots pc lv (.int (ph_i x) :: st) := fun H locs ls hU hS hl => lv_if_ge C.hx C.hb hd ht (fun q => kt ((ph_ile (by omega : ph_ri 0) hx).mp q) H locs ls hU hS hl) (fun q => kf (fun z => q ((ph_ile (by omega : ph_ri 0) hx).mpr z)) H locs ls hU hS hl)
theorem ph_l_ge (C : ph_C p s m args c cc nL own Ts D cl tys A KX) {x y off : Int} {tgt : Nat} (hd0 : decode cc pc = .ok (.lcmp, 1)) (hd : decode cc (pc + 1) = .ok (.ifCond .ge off, 3)) (ht : ((pc + 1 : Nat) : Int) + off = (tgt : Int)) (hx : ph_rl x) (hy : ph_rl y)
    (kt : y ≤ x → ph_W p l e R s m args below meth c D cl dT kd A nL Q L ad τ cells slots tgt lv st) (kf : ¬ y ≤ x → ph_W p l e R s m args below meth c D cl dT kd A nL Q L ad τ cells slots (pc + 4) lv st) : ph_W p l e R s m args below meth c D cl dT kd A nL Q L ad τ cells slots pc lv (.long (ph_l y) :: .long (ph_l x) :: st) := fun H locs ls hU hS hl => W.lcmp C.hx C.hb hd0 (lv_if_ge C.hx C.hb hd ht (fun q => kt ((ph_lle hy hx).mp ((lg_cmp_ge (ph_l x) (ph_l y)).mp q)) H locs ls hU hS hl) (fun q => kf (fun z => q ((lg_cmp_ge (ph_l x) (ph_l y)).mpr ((ph_lle hy hx).mpr z))) H locs ls hU hS hl))
theorem ph_icmp_gt (C : ph_C p s m args c cc nL own Ts D cl tys A KX) {x y off : Int} {tgt : Nat} (hd : decode cc pc = .ok (.if_icmp .gt off, 3)) (ht : (pc : Int) + off = (tgt : Int)) (hx : ph_ri x) (hy : ph_ri y)
    (kt : y < x → ph_W p l e R s m args below meth c D cl dT kd A nL Q L ad τ cells slots tgt lv st) (kf : ¬ y < x → ph_W p l e R s m args below meth c D cl dT kd A nL Q L ad τ cells slots (pc + 3) lv st) : ph_W p l e R s m args below meth c D cl dT kd A nL Q L ad τ cells slots pc lv (.int (ph_i y) :: .int (ph_i x) :: st) := fun H locs ls hU hS hl => lv_icmp_gt C.hx C.hb hd ht (fun q => kt ((ph_ilt hy hx).mp q) H locs ls hU hS hl) (fun q => kf (fun z => q ((ph_ilt hy hx).mpr z)) H locs ls hU hS hl)
theorem ph_if_gt (C : ph_C p s m args c cc nL own Ts D cl tys A KX) {x off : Int} {tgt : Nat} (hd : decode cc pc = .ok (.ifCond .gt off, 3)) (ht : (pc : Int) + off = (tgt : Int)) (hx : ph_ri x)
    (kt : 0 < x → ph_W p l e R s m args below meth c D cl dT kd A nL Q L ad τ cells slots tgt lv st) (kf : ¬ 0 < x → ph_W p l e R s m args below meth c D cl dT kd A nL Q L ad τ cells slots (pc + 3) lv st) : ph_W p l e R s m args below meth c D cl dT kd A nL Q L ad τ cells slots pc lv (.int (ph_i x) :: st) := fun H locs ls hU hS hl => lv_if_gt C.hx C.hb hd ht (fun q => kt ((ph_ilt (by omega : ph_ri 0) hx).mp q) H locs ls hU hS hl) (fun q => kf (fun z => q ((ph_ilt (by omega : ph_ri 0) hx).mpr z)) H locs ls hU hS hl)
theorem ph_l_gt (C : ph_C p s m args c cc nL own Ts D cl tys A KX) {x y off : Int} {tgt : Nat} (hd0 : decode cc pc = .ok (.lcmp, 1)) (hd : decode cc (pc + 1) = .ok (.ifCond .gt off, 3)) (ht : ((pc + 1 : Nat) : Int) + off = (tgt : Int)) (hx : ph_rl x) (hy : ph_rl y)
    (kt : y < x → ph_W p l e R s m args below meth c D cl dT kd A nL Q L ad τ cells slots tgt lv st) (kf : ¬ y < x → ph_W p l e R s m args below meth c D cl dT kd A nL Q L ad τ cells slots (pc + 4) lv st) : ph_W p l e R s m args below meth c D cl dT kd A nL Q L ad τ cells slots pc lv (.long (ph_l y) :: .long (ph_l x) :: st) := fun H locs ls hU hS hl => W.lcmp C.hx C.hb hd0 (lv_if_gt C.hx C.hb hd ht (fun q => kt ((ph_llt hy hx).mp ((lg_cmp_gt (ph_l x) (ph_l y)).mp q)) H locs ls hU hS hl) (fun q => kf (fun z => q ((lg_cmp_gt (ph_l x) (ph_l y)).mpr ((ph_llt hy hx).mpr z))) H locs ls hU hS hl))
theorem ph_icmp_le (C : ph_C p s m args c cc nL own Ts D cl tys A KX) {x y off : Int} {tgt : Nat} (hd : decode cc pc = .ok (.if_icmp .le off, 3)) (ht : (pc : Int) + off = (tgt : Int)) (hx : ph_ri x) (hy : ph_ri y)
    (kt : x ≤ y → ph_W p l e R s m args below meth c D cl dT kd A nL Q L ad τ cells slots tgt lv st) (kf : ¬ x ≤ y → ph_W p l e R s m args below meth c D cl dT kd A nL Q L ad τ cells slots (pc + 3) lv st) : ph_W p l e R s m args below meth c D cl dT kd A nL Q L ad τ cells slots pc lv (.int (ph_i y) :: .int (ph_i x) :: st) := fun H locs ls hU hS hl => lv_icmp_le C.hx C.hb hd ht (fun q => kt ((ph_ile hx hy).mp q) H locs ls hU hS hl) (fun q => kf (fun z => q ((ph_ile hx hy).mpr z)) H locs ls hU hS hl)
theorem ph_if_le (C : ph_C p s m args c cc nL own Ts D cl tys A KX) {x off : Int} {tgt : Nat} (hd : decode cc pc = .ok (.ifCond .le off, 3)) (ht : (pc : Int) + off = (tgt : Int)) (hx : ph_ri x)
    (kt : x ≤ 0 → ph_W p l e R s m args below meth c D cl dT kd A nL Q L ad τ cells slots tgt lv st) (kf : ¬ x ≤ 0 → ph_W p l e R s m args below meth c D cl dT kd A nL Q L ad τ cells slots (pc + 3) lv st) : ph_W p l e R s m args below meth c D cl dT kd A nL Q L ad τ cells slots pc lv (.int (ph_i x) :: st) := fun H locs ls hU hS hl => lv_if_le C.hx C.hb hd ht (fun q => kt ((ph_ile hx (by omega : ph_ri 0)).mp q) H locs ls hU hS hl) (fun q => kf (fun z => q ((ph_ile hx (by omega : ph_ri 0)).mpr z)) H locs ls hU hS hl)
theorem ph_l_le (C : ph_C p s m args c cc nL own Ts D cl tys A KX) {x y off : Int} {tgt : Nat} (hd0 : decode cc pc = .ok (.lcmp, 1)) (hd : decode cc (pc + 1) = .ok (.ifCond .le off, 3)) (ht : ((pc + 1 : Nat) : Int) + off = (tgt : Int)) (hx : ph_rl x) (hy : ph_rl y)
    (kt : x ≤ y → ph_W p l e R s m args below meth c D cl dT kd A nL Q L ad τ cells slots tgt lv st) (kf : ¬ x ≤ y → ph_W p l e R s m args below meth c D cl dT kd A nL Q L ad τ cells slots (pc + 4) lv st) : ph_W p l e R s m args below meth c D cl dT kd A nL Q L ad τ cells slots pc lv (.long (ph_l y) :: .long (ph_l x) :: st) := fun H locs ls hU hS hl => W.lcmp C.hx C.hb hd0 (lv_if_le C.hx C.hb hd ht (fun q => kt ((ph_lle hx hy).mp ((lg_cmp_le (ph_l x) (ph_l y)).mp q)) H locs ls hU hS hl) (fun q => kf (fun z => q ((lg_cmp_le (ph_l x) (ph_l y)).mpr ((ph_lle hx hy).mpr z))) H locs ls hU hS hl))
theorem ph_bif_eq (C : ph_C p s m args c cc nL own Ts D cl tys A KX) {P : Prop} {off : Int} {tgt : Nat} (hd : decode cc pc = .ok (.ifCond .eq off, 3)) (ht : (pc : Int) + off = (tgt : Int))
    (kt : ¬ P → ph_W p l e R s m args below meth c D cl dT kd A nL Q L ad τ cells slots tgt lv st) (kf : P → ph_W p l e R s m args below meth c D cl dT kd A nL Q L ad τ cells slots (pc + 3) lv st) : ph_W p l e R s m args below meth c D cl dT kd A nL Q L ad τ cells slots pc lv (.int (ph_i (ph_b P)) :: st) := ph_if_eq C hd ht (by have := ph_br P; omega) (fun q => kt (fun z => by rw [ph_b1 z] at q; omega)) (fun q => kf (Classical.byContradiction fun z => q (ph_b0 z)))
theorem ph_bif_ne (C : ph_C p s m args c cc nL own Ts D cl tys A KX) {P : Prop} {off : Int} {tgt : Nat} (hd : decode cc pc = .ok (.ifCond .ne off, 3)) (ht : (pc : Int) + off = (tgt : Int))
    (kt : P → ph_W p l e R s m args below meth c D cl dT kd A nL Q L ad τ cells slots tgt lv st) (kf : ¬ P → ph_W p l e R s m args below meth c D cl dT kd A nL Q L ad τ cells slots (pc + 3) lv st) : ph_W p l e R s m args below meth c D cl dT kd A nL Q L ad τ cells slots pc lv (.int (ph_i (ph_b P)) :: st) := ph_if_ne C hd ht (by have := ph_br P; omega) (fun q => kt (Classical.byContradiction fun z => q (ph_b0 z))) (fun q => kf (fun z => by rw [ph_b1 z] at q; omega))
end PHW
end
section
section PHH
variable {p : Program} {l : Launch} {e : Env} {R : Room} {s : State} {m : MethodId} {args : Array Value} {below : List Frame} {meth : Method} {c : Code}
variable {D : va_G} {cl : List vw_C} {tys : List (ClassId × FieldType)} {dT : Nat → ClassId} {kd : Nat → ph_K} {A : Nat → Prop} {KX : State → Prop} {nL : Nat} {Q : State → Prop} {cc : ByteArray} {own : String} {Ts : List Cond}
variable {L : Nat → Nat → Prop} {ad : Nat → Nat → Nat} {τ : ph_T} {cells slots pc : Nat} {lv : ph_V} {st : List Value}
theorem ph_U.cell {H : Heap} (h : ph_U D cl dT kd A L ad τ H) {g i a : Nat} (hL : L g i) (ha : ad g i = a) : va_at D cl (a, ph_cell dT (kd g) (τ g i)) H := by
  subst ha
  exact (h.1 g i hL).2
theorem ph_U.ob {H : Heap} (h : ph_U D cl dT kd A L ad τ H) {g i a ci : Nat} {tags : List Nat} (hL : L g i) (ha : ad g i = a) (hk : kd g = .inl (ci, tags)) : va_P D cl [(a, .inr (ci, ph_fs tags (τ g i)))] H := by
  intro k q hq
  have hz : k < 1 := (List.getElem?_eq_some_iff.mp hq).1
  rw [show k = 0 by omega] at hq
  cases hq
  have h1 := h.cell hL ha
  rw [hk] at h1
  exact h1
theorem ph_U.ar {H : Heap} (h : ph_U D cl dT kd A L ad τ H) {g i a ty N : Nat} (hL : L g i) (ha : ad g i = a) (hk : kd g = .inr (ty, N)) : va_P D cl [(a, .inl (dT ty, N, ph_ac ty (τ g i)))] H := by
  intro k q hq
  have hz : k < 1 := (List.getElem?_eq_some_iff.mp hq).1
  rw [show k = 0 by omega] at hq
  cases hq
  have h1 := h.cell hL ha
  rw [hk] at h1
  exact h1
/-- getfield -/
theorem ph_get (C : ph_C p s m args c cc nL own Ts D cl tys A KX) {g i a ci index N k t : Nat} {tags : List Nat} {Cn ref : String} {T : u_T} {v : Value} (hd : decode cc pc = .ok (.getfield index, 3)) (hL : L g i) (ha : ad g i = a) (hk : kd g = .inl (ci, tags)) (hc : cl[ci]? = some (Cn, T, N)) (hin : ∀ w ∈ u_ws Cn T N, w ∈ Ts) (hkN : k < N) (ht : tags[k]? = some t) (href : (T k).1 = ref) (hlink : Cond.fieldLink own index ref (T k).2.1 (T k).2.2.1 ∈ Ts) (hv : ph_e t (τ g i k) = v)
    (kk : ph_W p l e R s m args below meth c D cl dT kd A nL Q L ad τ cells slots (pc + 3) lv (v :: st)) : ph_W p l e R s m args below meth c D cl dT kd A nL Q L ad τ cells slots pc lv (.ref a :: st) := fun H locs ls hU hS hl => by
  subst hv
  exact va_get (ref := ref) C.hx C.hb C.hts hin C.hown C.hK (hU.ob hL ha hk) 0 rfl hc k hkN (C.hts _ hlink) (fun x h => by rw [← href]; exact h) (ph_fs_get ht) hd (kk H locs ls hU hS hl)
theorem ph_getN (C : ph_C p s m args c cc nL own Ts D cl tys A KX) {g i a ci index N k t : Nat} {tags : List Nat} {Cn ref host : String} {T : u_T} {v : Value} (hd : decode cc pc = .ok (.getfield index, 3)) (hL : L g i) (ha : ad g i = a) (hk : kd g = .inl (ci, tags)) (hc : cl[ci]? = some (Cn, T, N)) (hin : ∀ w ∈ u_ws Cn T N, w ∈ Ts) (hkN : k < N) (ht : tags[k]? = some t) (href : (T k).1 = ref) (hlink : (Cond.fieldLinkNest own index ref (T k).2.1 (T k).2.2.1 host).before args s = true) (hv : ph_e t (τ g i k) = v)
    (kk : ph_W p l e R s m args below meth c D cl dT kd A nL Q L ad τ cells slots (pc + 3) lv (v :: st)) : ph_W p l e R s m args below meth c D cl dT kd A nL Q L ad τ cells slots pc lv (.ref a :: st) := fun H locs ls hU hS hl => by
  subst hv
  exact va_getN (ref := ref) C.hx C.hb C.hts hin C.hown C.hK (hU.ob hL ha hk) 0 rfl hc k hkN hlink (fun x h => by rw [← href]; exact h) (ph_fs_get ht) hd (kk H locs ls hU hS hl)
/-- putfield -/
theorem ph_put (C : ph_C p s m args c cc nL own Ts D cl tys A KX) {g i a ci index N k t : Nat} {tags : List Nat} {Cn ref : String} {T : u_T} {ty0 : Nat → FieldType} {ty : FieldType} {v : Value} (hd : decode cc pc = .ok (.putfield index, 3)) (z : Int) (hL : L g i) (ha : ad g i = a) (hk : kd g = .inl (ci, tags)) (hc : cl[ci]? = some (Cn, T, N)) (hin : ∀ w ∈ u_ws Cn T N, w ∈ Ts) (hty : ∀ k, k < N → parseFieldDescriptor (T k).2.2.1 = some (ty0 k)) (hnm : ∀ a, a < N → ∀ b, b < N → a ≠ b → (T a).2.1 ≠ (T b).2.1) (hkN : k < N) (ht : tags[k]? = some t) (href : (T k).1 = ref) (hlink : Cond.fieldLink own index ref (T k).2.1 (T k).2.2.1 ∈ Ts) (hfin : (T k).2.2.2 = false) (hd0 : parseFieldDescriptor (T k).2.2.1 = some ty) (hv : ph_e t z = v) (hn : narrow ty v = v) (hfit : fits ty v = true)
    (kk : ph_W p l e R s m args below meth c D cl dT kd A nL Q L ad (ph_up τ g i k z) cells slots (pc + 3) lv st) : ph_W p l e R s m args below meth c D cl dT kd A nL Q L ad τ cells slots pc lv (v :: .ref a :: st) := fun H locs ls hU hS hl => by
  subst hv
  subst ha
  have hap := va_apart (own := own) C.hts hin ty0 hty hnm C.hK hc
  obtain ⟨r, h1, cell, q1, q2, q3, q4⟩ := (hU.ob hL rfl hk) 0 _ rfl
  have hr : r = (Cn, T, N) := Option.some.inj (h1.symm.trans hc)
  subst hr
  obtain ⟨hSl, hfc, kC, hkC, hkind⟩ := C.hK.1 ci _ hc
  obtain ⟨cf, kf, fi, f, hi, hsl⟩ := hSl k hkN
  have hlay := C.hts _ (hin _ (u_in_lay hkN))
  unfold u_lay at hlay
  rw [if_neg (by rw [hfin]; decide)] at hlay
  have hst := (u_facts hfc hkC (u_lays C.hts hin hkN) hi).1
  have h6 := u_store hfc hkC hkind hlay hi hd0 hn hfit
  refine W.putK C.hx C.hb (f := f) ⟨C.hown, C.hts _ hlink, ⟨_, _, _, (by rw [← href]; exact hi)⟩, hst⟩ (by rw [q2]; exact h6) q1 q3 (by rw [hsl]; exact k2_hasslot (q4 k hkN)) rfl rfl hd fun H' e1 e2 e3 => ?_
  rw [hsl] at e1 ⊢
  have hlen : k < (ph_fs tags (τ g i)).length := by
    rw [ph_fs_len]
    exact (List.getElem?_eq_some_iff.mp ht).1
  refine kk H' _ ls (hU.put hL ?_ e3) (hS.put e2 e3 (hU.1 g i hL).1) hl
  rw [hk]
  show va_at D cl (ad g i, .inr (ci, ph_fs tags (ph_u1 (τ g i) k z))) H'
  rw [← ph_fs_set ht z]
  exact ⟨_, hc, t_OB.to (V := updV (vp_V (ph_fs tags (τ g i))) k (ph_e t z)) ⟨_, e1, q2, q3, t_set q4 hap hkN (ph_e t z)⟩ (fun j _ => vp_updV_set hlen (ph_e t z) j)⟩
theorem ph_putF (C : ph_C p s m args c cc nL own Ts D cl tys A KX) {g i a ci index N k t : Nat} {tags : List Nat} {Cn ref : String} {T : u_T} {ty0 : Nat → FieldType} {ty : FieldType} {v : Value} (hd : decode cc pc = .ok (.putfield index, 3)) (z : Int) (hL : L g i) (ha : ad g i = a) (hk : kd g = .inl (ci, tags)) (hc : cl[ci]? = some (Cn, T, N)) (hin : ∀ w ∈ u_ws Cn T N, w ∈ Ts) (hty : ∀ k, k < N → parseFieldDescriptor (T k).2.2.1 = some (ty0 k)) (hnm : ∀ a, a < N → ∀ b, b < N → a ≠ b → (T a).2.1 ≠ (T b).2.1) (hkN : k < N) (ht : tags[k]? = some t) (href : (T k).1 = ref) (hlink : Cond.fieldLink own index ref (T k).2.1 (T k).2.2.1 ∈ Ts) (hfin : (T k).2.2.2 = true) (hin2 : meth.name = "<init>") (hdecl : (T k).1 = own) (hd0 : parseFieldDescriptor (T k).2.2.1 = some ty) (hv : ph_e t z = v) (hn : narrow ty v = v) (hfit : fits ty v = true)
    (kk : ph_W p l e R s m args below meth c D cl dT kd A nL Q L ad (ph_up τ g i k z) cells slots (pc + 3) lv st) : ph_W p l e R s m args below meth c D cl dT kd A nL Q L ad τ cells slots pc lv (v :: .ref a :: st) := fun H locs ls hU hS hl => by
  subst hv
  subst ha
  have hap := va_apart (own := own) C.hts hin ty0 hty hnm C.hK hc
  obtain ⟨r, h1, cell, q1, q2, q3, q4⟩ := (hU.ob hL rfl hk) 0 _ rfl
  have hr : r = (Cn, T, N) := Option.some.inj (h1.symm.trans hc)
  subst hr
  obtain ⟨hSl, hfc, kC, hkC, hkind⟩ := C.hK.1 ci _ hc
  obtain ⟨cf, kf, fi, f, hi, hsl⟩ := hSl k hkN
  have hlay := C.hts _ (hin _ (u_in_lay hkN))
  unfold u_lay at hlay
  rw [if_pos hfin] at hlay
  have hst := (u_facts hfc hkC (u_lays C.hts hin hkN) hi).1
  have hcf : m.cls = cf := by
    obtain ⟨_, _, c', _, _, _, -, -, hf', -, -, -, hown2, -⟩ := Cond.laysFinal_spec hlay
    have e1 : c' = cf := by have := hi.symm.trans hf'; simp at this; exact this.1.symm
    rw [hdecl] at hown2
    rw [← e1]
    exact Option.some.inj (C.hown.symm.trans hown2)
  have h6 := u_fits hfc hkC hkind (Or.inr hlay) hi hd0 hn hfit
  refine W.putFinK C.hx C.hb C.hown (C.hts _ hlink) (by rw [← href]; exact hi) hst hcf hin2 (by rw [q2]; exact h6) q1 q3 (by rw [hsl]; exact k2_hasslot (q4 k hkN)) rfl rfl hd fun H' e1 e2 e3 => ?_
  rw [hsl] at e1 ⊢
  have hlen : k < (ph_fs tags (τ g i)).length := by
    rw [ph_fs_len]
    exact (List.getElem?_eq_some_iff.mp ht).1
  refine kk H' _ ls (hU.put hL ?_ e3) (hS.put e2 e3 (hU.1 g i hL).1) hl
  rw [hk]
  show va_at D cl (ad g i, .inr (ci, ph_fs tags (ph_u1 (τ g i) k z))) H'
  rw [← ph_fs_set ht z]
  exact ⟨_, hc, t_OB.to (V := updV (vp_V (ph_fs tags (τ g i))) k (ph_e t z)) ⟨_, e1, q2, q3, t_set q4 hap hkN (ph_e t z)⟩ (fun j _ => vp_updV_set hlen (ph_e t z) j)⟩
/-- loads from arrays -/
theorem ph_iald (C : ph_C p s m args c cc nL own Ts D cl tys A KX) {g i a N : Nat} {x : Int} (hd : decode cc pc = .ok (.iaload, 1)) (hL : L g i) (ha : ad g i = a) (hk : kd g = .inr (0, N)) (hty : tys[0]? = some (dT 0, .int)) (j : Nat) (hj : x = (j : Int)) (hx : j < N) (hN : N < 2147483648)
    (kk : ph_W p l e R s m args below meth c D cl dT kd A nL Q L ad τ cells slots (pc + 1) lv (.int (ph_i (τ g i j)) :: st)) : ph_W p l e R s m args below meth c D cl dT kd A nL Q L ad τ cells slots pc lv (.int (ph_i x) :: .ref a :: st) := fun H locs ls hU hS hl =>
  va_iald C.hx C.hb C.hK (hU.ar hL ha hk) 0 0 rfl hty (ph_jin hj hx hN) hd (by rw [ph_jcl hj (by omega)]; exact kk H locs ls hU hS hl)
theorem ph_zald (C : ph_C p s m args c cc nL own Ts D cl tys A KX) {g i a N : Nat} {x : Int} (hd : decode cc pc = .ok (.baload, 1)) (hL : L g i) (ha : ad g i = a) (hk : kd g = .inr (1, N)) (hty : tys[1]? = some (dT 1, .boolean)) (j : Nat) (hj : x = (j : Int)) (hx : j < N) (hN : N < 2147483648)
    (kk : ph_W p l e R s m args below meth c D cl dT kd A nL Q L ad τ cells slots (pc + 1) lv (.int (ph_i (τ g i j)) :: st)) : ph_W p l e R s m args below meth c D cl dT kd A nL Q L ad τ cells slots pc lv (.int (ph_i x) :: .ref a :: st) := fun H locs ls hU hS hl =>
  va_zald C.hx C.hb C.hK (hU.ar hL ha hk) 0 1 rfl hty (ph_jin hj hx hN) hd (by rw [ph_jcl hj (by omega)]; exact kk H locs ls hU hS hl)
theorem ph_lald (C : ph_C p s m args c cc nL own Ts D cl tys A KX) {g i a N : Nat} {x : Int} (hd : decode cc pc = .ok (.laload, 1)) (hL : L g i) (ha : ad g i = a) (hk : kd g = .inr (2, N)) (hty : tys[2]? = some (dT 2, .long)) (j : Nat) (hj : x = (j : Int)) (hx : j < N) (hN : N < 2147483648)
    (kk : ph_W p l e R s m args below meth c D cl dT kd A nL Q L ad τ cells slots (pc + 1) lv (.long (ph_l (τ g i j)) :: st)) : ph_W p l e R s m args below meth c D cl dT kd A nL Q L ad τ cells slots pc lv (.int (ph_i x) :: .ref a :: st) := fun H locs ls hU hS hl =>
  va_lald C.hx C.hb C.hK (hU.ar hL ha hk) 0 2 rfl hty (ph_jin hj hx hN) hd (by rw [ph_jcl hj (by omega)]; exact kk H locs ls hU hS hl)
theorem ph_aald (C : ph_C p s m args c cc nL own Ts D cl tys A KX) {g i a N t : Nat} {x : Int} {Cn : String} {v : Value} (hd : decode cc pc = .ok (.aaload, 1)) (hL : L g i) (ha : ad g i = a) (hk : kd g = .inr (t + 3, N)) (hty : tys[t + 3]? = some (dT (t + 3), .object Cn)) (j : Nat) (hj : x = (j : Int)) (hx : j < N) (hN : N < 2147483648) (hv : va_rf (ph_r (τ g i j)) = v)
    (kk : ph_W p l e R s m args below meth c D cl dT kd A nL Q L ad τ cells slots (pc + 1) lv (v :: st)) : ph_W p l e R s m args below meth c D cl dT kd A nL Q L ad τ cells slots pc lv (.int (ph_i x) :: .ref a :: st) := fun H locs ls hU hS hl =>
  va_aldq C.hx C.hb C.hK (hU.ar hL ha hk) 0 (t + 3) rfl hty (ph_jin hj hx hN) hd (by rw [ph_jcl hj (by omega), hv]; exact kk H locs ls hU hS hl)
theorem ph_alen (C : ph_C p s m args c cc nL own Ts D cl tys A KX) {g i a N t : Nat} {ty : FieldType} (hd : decode cc pc = .ok (.arraylength, 1)) (hL : L g i) (ha : ad g i = a) (hk : kd g = .inr (t, N)) (hty : tys[t]? = some (dT t, ty))
    (kk : ph_W p l e R s m args below meth c D cl dT kd A nL Q L ad τ cells slots (pc + 1) lv (.int (ph_i (N : Int)) :: st)) : ph_W p l e R s m args below meth c D cl dT kd A nL Q L ad τ cells slots pc lv (.ref a :: st) := fun H locs ls hU hS hl =>
  va_alen C.hx C.hb C.hK (hU.ar hL ha hk) 0 t rfl hty (v := ph_i (N : Int)) (Int32.ofInt_eq_ofNat).symm hd (kk H locs ls hU hS hl)
theorem ph_iast (C : ph_C p s m args c cc nL own Ts D cl tys A KX) {g i a N : Nat} {x z : Int} (hd : decode cc pc = .ok (.iastore, 1)) (hL : L g i) (ha : ad g i = a) (hk : kd g = .inr (0, N)) (hty : tys[0]? = some (dT (0), .int)) (j : Nat) (hj : x = (j : Int)) (hx : j < N) (hN : N < 2147483648)
    (kk : ph_W p l e R s m args below meth c D cl dT kd A nL Q L ad (ph_up τ g i j z) cells slots (pc + 1) lv st) : ph_W p l e R s m args below meth c D cl dT kd A nL Q L ad τ cells slots pc lv (.int (ph_i z) :: .int (ph_i x) :: .ref a :: st) := fun H locs ls hU hS hl => by
  subst ha
  have hcell := (hU.ar hL rfl hk) 0 _ rfl
  have hin : vp_in (ph_i x) N := ph_jin hj hx hN
  refine W.iast C.hx C.hb hcell ((C.hK.2 _ _ hty).1 N (fun j => .int (ph_i (τ g i j)))) (fun q => by cases q) (by show ¬ (ph_i x < 0 ∨ (arrV _ _ _).slots.size ≤ _); rw [arrV_size]; exact hin) rfl rfl hd fun H1 e z1 oq => ?_
  refine kk H1 _ ls (hU.put hL ?_ oq) (hS.put z1 oq (hU.1 g i hL).1) hl
  rw [hk]
  show H1[ad g i]? = some (vp_cell _ _)
  rw [e, ph_jcl hj (by omega)]
  show some ((arrV (dT (0)) N (fun q => .int (ph_i (τ g i q)))).setSlot j _) = some (arrV (dT (0)) N (fun q => .int (ph_i (ph_u1 (τ g i) j z q))))
  rw [arrV_store]
  congr 2
  funext q
  by_cases hq : q = j
  · subst hq
    simp [updV, ph_u1]
  · simp [updV, ph_u1, hq]
theorem ph_zast (C : ph_C p s m args c cc nL own Ts D cl tys A KX) {g i a N : Nat} {x z : Int} (hd : decode cc pc = .ok (.bastore, 1)) (hz : z = 0 ∨ z = 1) (hL : L g i) (ha : ad g i = a) (hk : kd g = .inr (1, N)) (hty : tys[1]? = some (dT (1), .boolean)) (j : Nat) (hj : x = (j : Int)) (hx : j < N) (hN : N < 2147483648)
    (kk : ph_W p l e R s m args below meth c D cl dT kd A nL Q L ad (ph_up τ g i j z) cells slots (pc + 1) lv st) : ph_W p l e R s m args below meth c D cl dT kd A nL Q L ad τ cells slots pc lv (.int (ph_i z) :: .int (ph_i x) :: .ref a :: st) := fun H locs ls hU hS hl => by
  subst ha
  have hcell := (hU.ar hL rfl hk) 0 _ rfl
  have hin : vp_in (ph_i x) N := ph_jin hj hx hN
  refine W.zast C.hx C.hb hcell ((C.hK.2 _ _ hty).1 N (fun j => .int (ph_i (τ g i j)))) (fun q => by cases q) (by show ¬ (ph_i x < 0 ∨ (arrV _ _ _).slots.size ≤ _); rw [arrV_size]; exact hin) rfl rfl hd fun H1 e z1 oq => ?_
  refine kk H1 _ ls (hU.put hL ?_ oq) (hS.put z1 oq (hU.1 g i hL).1) hl
  rw [hk]
  show H1[ad g i]? = some (vp_cell _ _)
  rw [e, ph_jcl hj (by omega)]
  show some ((arrV (dT (1)) N (fun q => .int (ph_i (τ g i q)))).setSlot j _) = some (arrV (dT (1)) N (fun q => .int (ph_i (ph_u1 (τ g i) j z q))))
  rw [arrV_store]
  congr 2
  funext q
  by_cases hq : q = j
  · subst hq
    rcases hz with rfl | rfl <;> simp [updV, ph_u1] <;> rfl
  · simp [updV, ph_u1, hq]
theorem ph_last (C : ph_C p s m args c cc nL own Ts D cl tys A KX) {g i a N : Nat} {x z : Int} (hd : decode cc pc = .ok (.lastore, 1)) (hL : L g i) (ha : ad g i = a) (hk : kd g = .inr (2, N)) (hty : tys[2]? = some (dT (2), .long)) (j : Nat) (hj : x = (j : Int)) (hx : j < N) (hN : N < 2147483648)
    (kk : ph_W p l e R s m args below meth c D cl dT kd A nL Q L ad (ph_up τ g i j z) cells slots (pc + 1) lv st) : ph_W p l e R s m args below meth c D cl dT kd A nL Q L ad τ cells slots pc lv (.long (ph_l z) :: .int (ph_i x) :: .ref a :: st) := fun H locs ls hU hS hl => by
  subst ha
  have hcell := (hU.ar hL rfl hk) 0 _ rfl
  have hin : vp_in (ph_i x) N := ph_jin hj hx hN
  refine W.last C.hx C.hb hcell ((C.hK.2 _ _ hty).1 N (fun j => .long (ph_l (τ g i j)))) (fun q => by cases q) (by show ¬ (ph_i x < 0 ∨ (arrV _ _ _).slots.size ≤ _); rw [arrV_size]; exact hin) rfl rfl hd fun H1 e z1 oq => ?_
  refine kk H1 _ ls (hU.put hL ?_ oq) (hS.put z1 oq (hU.1 g i hL).1) hl
  rw [hk]
  show H1[ad g i]? = some (vp_cell _ _)
  rw [e, ph_jcl hj (by omega)]
  show some ((arrV (dT (2)) N (fun q => .long (ph_l (τ g i q)))).setSlot j _) = some (arrV (dT (2)) N (fun q => .long (ph_l (ph_u1 (τ g i) j z q))))
  rw [arrV_store]
  congr 2
  funext q
  by_cases hq : q = j
  · subst hq
    simp [updV, ph_u1]
  · simp [updV, ph_u1, hq]
theorem ph_aast (C : ph_C p s m args c cc nL own Ts D cl tys A KX) {g i a N t g2 i2 v ci : Nat} {x : Int} {r : vw_C} {tags : List Nat} (hL : L g i) (ha : ad g i = a) (hk : kd g = .inr (t + 3, N)) (hty : tys[t + 3]? = some (dT (t + 3), .object r.1)) (hL2 : L g2 i2) (ha2 : ad g2 i2 = v) (hk2 : kd g2 = .inl (ci, tags)) (hc : cl[ci]? = some r) (j : Nat) (hj : x = (j : Int)) (hx : j < N) (hN : N < 2147483648) (hd : decode cc pc = .ok (.aastore, 1))
    (kk : ph_W p l e R s m args below meth c D cl dT kd A nL Q L ad (ph_up τ g i j (v : Int)) cells slots (pc + 1) lv st) : ph_W p l e R s m args below meth c D cl dT kd A nL Q L ad τ cells slots pc lv (.ref v :: .int (ph_i x) :: .ref a :: st) := fun H locs ls hU hS hl => by
  subst ha
  have hcell := (hU.ar hL rfl hk) 0 _ rfl
  have hin : vp_in (ph_i x) N := ph_jin hj hx hN
  have hlt : (ph_i x).toNatClampNeg < N := Nat.not_le.mp fun q => hin (Or.inr q)
  have hn0 : ¬ ph_i x < 0 := fun q => hin (Or.inl q)
  obtain ⟨r', hr', cellV, g1, g2', g3, -⟩ := (hU.ob hL2 ha2 hk2) 0 _ rfl
  have hcls := (C.hK.1 ci r hc).2
  obtain ⟨kA, comp, k1, k2, k3, -⟩ := (C.hK.2 _ _ hty).2
  have hcomp : comp = D.1 ci := Option.some.inj (k3.symm.trans hcls.1)
  subst hcomp
  have hcls2 := hcls
  obtain ⟨kC, hkC, -⟩ := hcls2.2
  refine W.aast C.hx C.hb hcell (fun q h => by cases h) (fun h => by cases h) k1 k2 rfl hkC ⟨hn0, by show _ < (arrV _ _ _).slots.size; rw [arrV_size]; exact hlt⟩ g1 (fun q h => by rw [g3] at h; cases h) (by rw [g2']; exact hkC) (by rw [g2']; exact va_assign hcls) rfl rfl hd fun H1 e z1 oq => ?_
  refine kk H1 _ ls (hU.put hL ?_ oq) (hS.put z1 oq (hU.1 g i hL).1) hl
  rw [hk]
  show H1[ad g i]? = some (vp_cell _ _)
  rw [e, ph_jcl hj (by omega)]
  show some ((arrV (dT (t + 3)) N (fun q => va_rf (ph_r (τ g i q)))).setSlot j _) = some (arrV (dT (t + 3)) N (fun q => va_rf (ph_r (ph_u1 (τ g i) j (v : Int) q))))
  rw [arrV_store]
  congr 2
  funext q
  by_cases hq : q = j
  · subst hq
    simp [updV, ph_u1, ph_rn, va_rf]
  · simp [updV, ph_u1, hq]
/-- new cells -/
def ph_df (tags : List Nat) : Nat → Int := fun k => match tags[k]? with
  | some 0 => 0
  | some 1 => 0
  | some _ => -1
  | none => 0
theorem ph_new (C : ph_C p s m args c cc nL own Ts D cl tys A KX) {g ci index N : Nat} {tags : List Nat} {Cn : String} {T : u_T} {ty0 : Nat → FieldType} (hd : decode cc pc = .ok (.new index, 3)) (i : Nat) (hL : ¬ L g i) (hk : kd g = .inl (ci, tags)) (hc : cl[ci]? = some (Cn, T, N)) (hin : ∀ w ∈ u_ws Cn T N, w ∈ Ts) (hty : ∀ k, k < N → parseFieldDescriptor (T k).2.2.1 = some (ty0 k)) (hcl : Cond.classLink own index Cn ∈ Ts) (hins : Cond.instantiable Cn N ∈ Ts) (hini : Cond.initialized Cn ∈ Ts) (hdf : ∀ j, j < N → defaultValue (ty0 j) = vp_V (ph_fs tags (ph_df tags)) j) (h1 : cells + 1 ≤ R.cells) (h2 : slots + N ≤ R.slots)
    (kk : ∀ a : Nat, (∀ g' i', L g' i' → ad g' i' ≠ a) → ph_W p l e R s m args below meth c D cl dT kd A nL Q (ph_Ln L g i) (ph_an ad g i a) (ph_tn τ g i (ph_df tags)) (cells + 1) (slots + N) (pc + 3) lv (.ref a :: st)) : ph_W p l e R s m args below meth c D cl dT kd A nL Q L ad τ cells slots pc lv st := fun H locs ls hU hS hl => by
  have hKn := C.hK.1 ci _ hc
  refine W.newcK C.hx C.hb C.hown (C.hts _ hcl) (C.hts _ hins) (C.hts _ hini) rfl hd h1 h2 hKn.2.1 rfl fun H1 kC hkC e1 z1 o1 => ?_
  refine kk H.size (fun g' i' h' => Nat.ne_of_lt (hU.lt h')) H1 locs ls (hU.new hL (C.hA _ hS.1) rfl ?_ o1) ⟨Nat.le_trans hS.1 (by omega), fun x q1 q2 => (o1 x (Nat.lt_of_lt_of_le q1 hS.1)).trans (hS.2.1 x q1 q2), hS.2.2⟩ hl
  rw [hk]
  exact ⟨_, hc, (u_born ty0 C.hts hin hKn hkC e1 hty).to hdf⟩
theorem ph_newi (C : ph_C p s m args c cc nL own Ts D cl tys A KX) {g N : Nat} {x : Int} {at0 : ArrayType} (hd : decode cc pc = .ok (.newarray at0, 2)) (i : Nat) (hL : ¬ L g i) (hk : kd g = .inr (0, N)) (hty : tys[0]? = some (dT 0, .int)) (hw : Cond.arrayClass .int ∈ Ts) (hN : x = (N : Int)) (hN2 : N < 100000) (h1 : cells + 1 ≤ R.cells) (h2 : slots + N ≤ R.slots) (hat : newarray.typeOf at0 = .int)
    (kk : ∀ a : Nat, (∀ g' i', L g' i' → ad g' i' ≠ a) → ph_W p l e R s m args below meth c D cl dT kd A nL Q (ph_Ln L g i) (ph_an ad g i a) (ph_tn τ g i (fun _ => 0)) (cells + 1) (slots + N) (pc + 2) lv (.ref a :: st)) : ph_W p l e R s m args below meth c D cl dT kd A nL Q L ad τ cells slots pc lv (.int (ph_i x) :: st) := fun H locs ls hU hS hl => by
  subst hN
  refine va_newaK C.hx C.hb (by rw [hat]; exact C.hts _ hw) rfl hd rfl (fun q => by have := (ph_ilt (a := (N : Int)) (b := 0) (by omega) (by omega)).mp q; omega) (N := N) (by rw [ph_icl (by omega) (by omega)]; simp) (by rw [hat]; show N * 4 ≤ _; omega) h1 h2 rfl fun H1 cA e1 z1 o1 hAr hNm => ?_
  rw [hat] at e1 hNm
  have hcA : cA = dT 0 := Option.some.inj (hNm.symm.trans (C.hK.2 0 _ hty).2)
  subst hcA
  refine kk H.size (fun g' i' h' => Nat.ne_of_lt (hU.lt h')) H1 locs ls (hU.new hL (C.hA _ hS.1) rfl ?_ o1) ⟨Nat.le_trans hS.1 (by omega), fun x q1 q2 => (o1 x (Nat.lt_of_lt_of_le q1 hS.1)).trans (hS.2.1 x q1 q2), hS.2.2⟩ hl
  rw [hk]
  exact e1
theorem ph_newz (C : ph_C p s m args c cc nL own Ts D cl tys A KX) {g N : Nat} {x : Int} {at0 : ArrayType} (hd : decode cc pc = .ok (.newarray at0, 2)) (i : Nat) (hL : ¬ L g i) (hk : kd g = .inr (1, N)) (hty : tys[1]? = some (dT 1, .boolean)) (hw : Cond.arrayClass .boolean ∈ Ts) (hN : x = (N : Int)) (hN2 : N < 100000) (h1 : cells + 1 ≤ R.cells) (h2 : slots + N ≤ R.slots) (hat : newarray.typeOf at0 = .boolean)
    (kk : ∀ a : Nat, (∀ g' i', L g' i' → ad g' i' ≠ a) → ph_W p l e R s m args below meth c D cl dT kd A nL Q (ph_Ln L g i) (ph_an ad g i a) (ph_tn τ g i (fun _ => 0)) (cells + 1) (slots + N) (pc + 2) lv (.ref a :: st)) : ph_W p l e R s m args below meth c D cl dT kd A nL Q L ad τ cells slots pc lv (.int (ph_i x) :: st) := fun H locs ls hU hS hl => by
  subst hN
  refine va_newaK C.hx C.hb (by rw [hat]; exact C.hts _ hw) rfl hd rfl (fun q => by have := (ph_ilt (a := (N : Int)) (b := 0) (by omega) (by omega)).mp q; omega) (N := N) (by rw [ph_icl (by omega) (by omega)]; simp) (by rw [hat]; show N * 1 ≤ _; omega) h1 h2 rfl fun H1 cA e1 z1 o1 hAr hNm => ?_
  rw [hat] at e1 hNm
  have hcA : cA = dT 1 := Option.some.inj (hNm.symm.trans (C.hK.2 1 _ hty).2)
  subst hcA
  refine kk H.size (fun g' i' h' => Nat.ne_of_lt (hU.lt h')) H1 locs ls (hU.new hL (C.hA _ hS.1) rfl ?_ o1) ⟨Nat.le_trans hS.1 (by omega), fun x q1 q2 => (o1 x (Nat.lt_of_lt_of_le q1 hS.1)).trans (hS.2.1 x q1 q2), hS.2.2⟩ hl
  rw [hk]
  exact e1
theorem ph_newl (C : ph_C p s m args c cc nL own Ts D cl tys A KX) {g N : Nat} {x : Int} {at0 : ArrayType} (hd : decode cc pc = .ok (.newarray at0, 2)) (i : Nat) (hL : ¬ L g i) (hk : kd g = .inr (2, N)) (hty : tys[2]? = some (dT 2, .long)) (hw : Cond.arrayClass .long ∈ Ts) (hN : x = (N : Int)) (hN2 : N < 100000) (h1 : cells + 1 ≤ R.cells) (h2 : slots + N ≤ R.slots) (hat : newarray.typeOf at0 = .long)
    (kk : ∀ a : Nat, (∀ g' i', L g' i' → ad g' i' ≠ a) → ph_W p l e R s m args below meth c D cl dT kd A nL Q (ph_Ln L g i) (ph_an ad g i a) (ph_tn τ g i (fun _ => 0)) (cells + 1) (slots + N) (pc + 2) lv (.ref a :: st)) : ph_W p l e R s m args below meth c D cl dT kd A nL Q L ad τ cells slots pc lv (.int (ph_i x) :: st) := fun H locs ls hU hS hl => by
  subst hN
  refine va_newaK C.hx C.hb (by rw [hat]; exact C.hts _ hw) rfl hd rfl (fun q => by have := (ph_ilt (a := (N : Int)) (b := 0) (by omega) (by omega)).mp q; omega) (N := N) (by rw [ph_icl (by omega) (by omega)]; simp) (by rw [hat]; show N * 8 ≤ _; omega) h1 h2 rfl fun H1 cA e1 z1 o1 hAr hNm => ?_
  rw [hat] at e1 hNm
  have hcA : cA = dT 2 := Option.some.inj (hNm.symm.trans (C.hK.2 2 _ hty).2)
  subst hcA
  refine kk H.size (fun g' i' h' => Nat.ne_of_lt (hU.lt h')) H1 locs ls (hU.new hL (C.hA _ hS.1) rfl ?_ o1) ⟨Nat.le_trans hS.1 (by omega), fun x q1 q2 => (o1 x (Nat.lt_of_lt_of_le q1 hS.1)).trans (hS.2.1 x q1 q2), hS.2.2⟩ hl
  rw [hk]
  exact e1
theorem ph_newq (C : ph_C p s m args c cc nL own Ts D cl tys A KX) {g N index t : Nat} {x : Int} {Cn : String} (hd : decode cc pc = .ok (.anewarray index, 3)) (i : Nat) (hL : ¬ L g i) (hk : kd g = .inr (t + 3, N)) (hty : tys[t + 3]? = some (dT (t + 3), .object Cn)) (hcl : Cond.classLink own index Cn ∈ Ts) (hAO : va_AO Cn s) (hN : x = (N : Int)) (hN2 : N < 100000) (h1 : cells + 1 ≤ R.cells) (h2 : slots + N ≤ R.slots)
    (kk : ∀ a : Nat, (∀ g' i', L g' i' → ad g' i' ≠ a) → ph_W p l e R s m args below meth c D cl dT kd A nL Q (ph_Ln L g i) (ph_an ad g i a) (ph_tn τ g i (fun _ => -1)) (cells + 1) (slots + N) (pc + 3) lv (.ref a :: st)) : ph_W p l e R s m args below meth c D cl dT kd A nL Q L ad τ cells slots pc lv (.int (ph_i x) :: st) := fun H locs ls hU hS hl => by
  subst hN
  have hcl0 : (ph_i (N : Int)).toNatClampNeg = N := by rw [ph_icl (by omega) (by omega)]; simp
  refine W.anew C.hx C.hb C.hown (C.hts _ hcl) (va_AO.use hAO) rfl hd rfl (fun q => by have := (ph_ilt (a := (N : Int)) (b := 0) (by omega) (by omega)).mp q; omega) (by rw [hcl0]; omega) h1 (by rw [hcl0]; exact h2) fun cA kA comp f1 f2 f3 f4 => ?_
  rw [hcl0]
  generalize hH1 : H.push ({ cls := cA, slots := Array.replicate N .null, vm := .none } : Cell) = H1
  have z1 : H1.size = H.size + 1 := by rw [← hH1, Array.size_push]
  have e1 : H1[H.size]? = some (arrV cA N (fun _ => .null)) := by rw [← hH1, Array.getElem?_push_size, ← arrV_new]
  have o1 : ∀ q : Nat, q < H.size → H1[q]? = H[q]? := fun q hq => by rw [← hH1, Array.getElem?_push, if_neg (Nat.ne_of_lt hq)]
  obtain ⟨kA2, comp2, -, -, -, hNm⟩ := (C.hK.2 _ _ hty).2
  have hcA : cA = dT (t + 3) := Option.some.inj (f1.symm.trans hNm)
  subst hcA
  refine kk H.size (fun g' i' h' => Nat.ne_of_lt (hU.lt h')) H1 locs ls (hU.new hL (C.hA _ hS.1) rfl ?_ o1) ⟨Nat.le_trans hS.1 (by omega), fun x q1 q2 => (o1 x (Nat.lt_of_lt_of_le q1 hS.1)).trans (hS.2.1 x q1 q2), hS.2.2⟩ hl
  rw [hk]
  exact e1
/-- the constructor of Object -/
theorem ph_objInit (C : ph_C p s m args c cc nL own Ts D cl tys A KX) {index a : Nat} (hd : decode cc pc = .ok (.invokespecial index, 3)) (hlink : Cond.methodLink own index Lib.objectInit ∈ Ts) (hinst : Cond.instanceMethod Lib.objectInit ∈ Ts) (hcode : Cond.code Lib.objectInit ⟨#[0xb1]⟩ 1 none ∈ Ts) (hf : 1 ≤ R.frames) (hlo : (st.map fun v => v.category).sum + 12 ≤ R.locals)
    (kk : ph_W p l e R s m args below meth c D cl dT kd A nL Q L ad τ cells slots (pc + 3) lv st) : ph_W p l e R s m args below meth c D cl dT kd A nL Q L ad τ cells slots pc lv (.ref a :: st) := fun H locs ls hU hS hl =>
  W.objInit C.hx C.hb C.hown (C.hts _ hlink) (C.hts _ hinst) (C.hts _ hcode) rfl (by show ls.size = c.maxLocals; rw [C.1.2.2.1]; exact hl.1) rfl hd hf (by show 2 * 0 + _ + 12 ≤ _; omega) (kk H locs ls hU hS hl)
end PHH
/-! ===== contracts ===== -/
def ph_Q (D : va_G) (cl : List vw_C) (dT : Nat → ClassId) (kd : Nat → ph_K) (A : Nat → Prop) (post : Option Value → (Nat → Nat → Prop) → (Nat → Nat → Nat) → ph_T → Prop) : Array Value → State → Outcome → State → Prop := fun _ st o t =>
  (∃ (r : Option Value) (L' : Nat → Nat → Prop) (ad' : Nat → Nat → Nat) (τ' : ph_T), o = .returned r ∧ post r L' ad' τ' ∧ ph_U D cl dT kd A L' ad' τ' t.heap) ∧ va_F A st t
def ph_M (l : Launch) (y : MethodName) (ws : List Cond) (rm : Room) (D : va_G) (cl : List vw_C) (tys : List (ClassId × FieldType)) (dT : Nat → ClassId) (kd : Nat → ph_K) (A : Nat → Prop) (KX : State → Prop) (av : List Value) (L : Nat → Nat → Prop) (ad : Nat → Nat → Nat) (τ : ph_T) (post : Option Value → (Nat → Nat → Prop) → (Nat → Nat → Nat) → ph_T → Prop) (mc ms : Nat) : Prop :=
  Met l y ws rm (va_Pc av (fun U => (∀ q : Nat, U.heap.size ≤ q → A q) ∧ ph_U D cl dT kd A L ad τ U.heap ∧ va_K D cl tys U ∧ KX U ∧ ph_keep A KX)) (ph_Q D cl dT kd A post) mc ms A
section PHM
variable {p : Program} {l : Launch} {e : Env} {R : Room} {s : State} {m : MethodId} {args : Array Value} {below : List Frame} {meth : Method} {c : Code}
variable {D : va_G} {cl : List vw_C} {tys : List (ClassId × FieldType)} {dT : Nat → ClassId} {kd : Nat → ph_K} {A : Nat → Prop} {KX : State → Prop} {nL : Nat} {Q : State → Prop} {cc : ByteArray} {own : String} {Ts : List Cond}
variable {L : Nat → Nat → Prop} {ad : Nat → Nat → Nat} {τ : ph_T} {cells slots pc : Nat} {lv : ph_V} {st : List Value} {post : Option Value → (Nat → Nat → Prop) → (Nat → Nat → Nat) → ph_T → Prop}
theorem ph_M.of {y : MethodName} {ws ws' : List Cond} {rm : Room} {av : List Value} {mc ms maxL : Nat} {ret : Option FieldType} (hy : plainName y.cls = true) (hw : ws = Cond.code y cc maxL ret :: ws') (hlen : (lg_sl av).length ≤ maxL)
    (body : ∀ (p : Program) (e : Env) (s : State) (m : MethodId) (below : List Frame) (meth : Method) (c : Code), ph_C p s m av.toArray c cc maxL y.cls ws D cl tys A KX → meth.sig.returnType = ret → meth.locks = false → meth.name = y.name →
      ph_W p l e rm s m av.toArray below meth c D cl dT kd A maxL (MQ below (ph_Q D cl dT kd A post) av.toArray s mc ms A) L ad τ 0 0 0 (ph_mk (lv_args 0 av)) []) : ph_M l y ws rm D cl tys dT kd A KX av L ad τ post mc ms := by
  refine Met.ofW (cc := cc) (maxL := maxL) (ret := ret) hy hw ?_
  intro p e s m args below meth c s₁ B hml hv
  obtain ⟨rfl, hA, hU, hK, hX, hkeep⟩ := hv
  have hl := lv_entry av (n := maxL) hlen
  rw [lg_entry_eq]
  exact body p e s m below meth c ⟨⟨B.exec, B.bytes, hml, findClass_of_methodNamed B.named, atoms_spec (ws := ws) B.pre⟩, hK, hA, hX, hkeep⟩ B.returns B.notSynchronized (name_of_methodNamed B.named B.method).1 s.heap [] _ hU va_S.rf (ph_has.of hl)
theorem ph_blind {av : List Value} : FrameBlind (va_Pc av (fun U => (∀ q : Nat, U.heap.size ≤ q → A q) ∧ ph_U D cl dT kd A L ad τ U.heap ∧ va_K D cl tys U ∧ KX U ∧ ph_keep A KX)) := fun a U g mk q => by
  obtain ⟨q0, q1, q2, q3, q4, q5⟩ := q
  exact ⟨q0, q1, q2, va_K.moved (u := U) (U := U.calling g mk a) (Vm.Alike.refl U.vm) q3, q5 U (U.calling g mk a) (Vm.Alike.refl U.vm) (Nat.le_refl _) (fun _ _ _ => rfl) q4, q5⟩
theorem ph_pre (C : ph_C p s m args c cc nL own Ts D cl tys A KX) {H : Heap} {locs : List Loc} (hU : ph_U D cl dT kd A L ad τ H) (hS : va_S A s.heap H locs) {av : List Value} {U : State} (hH : U.heap = H) (hW : s.WarmedH U.vm) : va_Pc av (fun U => (∀ q : Nat, U.heap.size ≤ q → A q) ∧ ph_U D cl dT kd A L ad τ U.heap ∧ va_K D cl tys U ∧ KX U ∧ ph_keep A KX) av.toArray U :=
  ⟨rfl, fun q h => C.hA q (by rw [hH] at h; exact Nat.le_trans hS.1 h), by rw [hH]; exact hU, va_K.moved hW.alike C.hK, C.2.2.2.2 s U hW.alike (by rw [hH]; exact hS.1) (fun q h1 h2 => by rw [hH]; exact hS.2.1 q h1 h2) C.2.2.2.1, C.2.2.2.2⟩
theorem ph_back {H : Heap} {locs : List Loc} {ls : Array Slot} {mc ms : Nat} {rest : List Value} {a : Array Value} (hr : va_Run p l e R s m args below meth c H locs cells slots mc ms (F0 m pc ls st) rest (ph_Q D cl dT kd A post a) A) (hS : va_S A s.heap H locs) (hl : ph_has ls nL lv)
    (k : ∀ (r : Option Value) (L' : Nat → Nat → Prop) (ad' : Nat → Nat → Nat) (τ' : ph_T), post r L' ad' τ' → ph_W p l e R s m args below meth c D cl dT kd A nL Q L' ad' τ' (cells + mc) (slots + ms) (pc + 3) lv (r.toList ++ rest)) : W p l e R s m args below meth c H locs cells slots Q (F0 m pc ls st) := by
  intro T hT X
  obtain ⟨v, st₀, t, T', Lc, h0, X', hLc, e1, e2, ⟨⟨r, L', ad', τ', ho, hp, hU'⟩, hz, hk⟩, stp⟩ := hr T hT X
  cases ho
  rw [h0] at hz hk
  obtain ⟨t2, a1, b1⟩ := k _ L' ad' τ' hp T'.heap (locs ++ Lc) ls (by rw [e1]; exact hU')
    ⟨Nat.le_trans hS.1 (by rw [e1]; exact hz), fun q h1 h2 => by rw [e1, hk q (Nat.lt_of_lt_of_le h1 hS.1) h2]; exact hS.2.1 q h1 h2, fun q hq => by
      rcases List.mem_append.mp hq with h | h
      · exact hS.2.2 q h
      · exact hLc q h⟩ hl T' rfl X'
  exact ⟨t2, stp t2 a1, b1⟩
variable {y : MethodName} {ws ws' : List Cond} {rm : Room} {mc ms maxL index n b : Nat} {ret : Option FieldType} {As rest : List Value} {bytes : ByteArray} {Cn : String}
theorem ph_callV (C : ph_C p s m args c cc nL own Ts D cl tys A KX)  (hd : decode cc pc = .ok (.invokevirtual index, 3))(hM : ph_M l y ws rm D cl tys dT kd A KX (.ref b :: As) L ad τ post mc ms) (cw : CallW R s args own Cn index y bytes maxL ret ws rm mc ms n) {g i ci : Nat} {tags : List Nat} {q : vw_C} (hL : L g i) (ha : ad g i = b) (hk : kd g = .inl (ci, tags)) (hc : cl[ci]? = some q) (hq : q.1 = Cn) (hn : As.length = n) (hst : st = As.reverse ++ .ref b :: rest) (hro : (rest.map fun v => v.category).sum ≤ 8) (hf : cells + mc ≤ R.cells ∧ slots + ms ≤ R.slots)
    (k : ∀ (r : Option Value) (L' : Nat → Nat → Prop) (ad' : Nat → Nat → Nat) (τ' : ph_T), post r L' ad' τ' → ph_W p l e R s m args below meth c D cl dT kd A nL Q L' ad' τ' (cells + mc) (slots + ms) (pc + 3) lv (r.toList ++ rest)) : ph_W p l e R s m args below meth c D cl dT kd A nL Q L ad τ cells slots pc lv st := fun H locs ls hU hS hl => by
  subst hst
  subst hq
  exact ph_back (va_runV C.1 hM cw ⟨ph_blind, va_recv C.hK (hU.ob hL ha hk) (q0 := 0) hc rfl, fun U h1 h2 => ph_pre C hU hS h1 h2⟩ rfl hn hl.1 rfl (lv_room hro) hd hf) hS hl k
theorem ph_callS (C : ph_C p s m args c cc nL own Ts D cl tys A KX)  (hd : decode cc pc = .ok (.invokestatic index, 3))(hM : ph_M l y ws rm D cl tys dT kd A KX As L ad τ post mc ms) (cw : CallB R s args own index y bytes maxL ret ws rm mc ms n ∧ (Cond.static y).before args s = true) (hn : As.length = n) (hst : st = As.reverse ++ rest) (hro : (rest.map fun v => v.category).sum ≤ 8) (hf : cells + mc ≤ R.cells ∧ slots + ms ≤ R.slots)
    (k : ∀ (r : Option Value) (L' : Nat → Nat → Prop) (ad' : Nat → Nat → Nat) (τ' : ph_T), post r L' ad' τ' → ph_W p l e R s m args below meth c D cl dT kd A nL Q L' ad' τ' (cells + mc) (slots + ms) (pc + 3) lv (r.toList ++ rest)) : ph_W p l e R s m args below meth c D cl dT kd A nL Q L ad τ cells slots pc lv st := fun H locs ls hU hS hl => by
  subst hst
  exact ph_back (va_runS C.1 hM cw ⟨ph_blind, fun U h1 h2 => ph_pre C hU hS h1 h2⟩ rfl hn hl.1 rfl (lv_room hro) hd hf) hS hl k
theorem ph_callI (C : ph_C p s m args c cc nL own Ts D cl tys A KX)  (hd : decode cc pc = .ok (.invokespecial index, 3))(hM : ph_M l y ws rm D cl tys dT kd A KX (.ref b :: As) L ad τ post mc ms) (cw : CallB R s args own index y bytes maxL none ws rm mc ms n ∧ y.name = "<init>" ∧ (Cond.instanceMethod y).before args s = true) (hn : As.length = n) (hst : st = As.reverse ++ .ref b :: rest) (hro : (rest.map fun v => v.category).sum ≤ 8) (hf : cells + mc ≤ R.cells ∧ slots + ms ≤ R.slots)
    (k : ∀ (r : Option Value) (L' : Nat → Nat → Prop) (ad' : Nat → Nat → Nat) (τ' : ph_T), post r L' ad' τ' → ph_W p l e R s m args below meth c D cl dT kd A nL Q L' ad' τ' (cells + mc) (slots + ms) (pc + 3) lv (r.toList ++ rest)) : ph_W p l e R s m args below meth c D cl dT kd A nL Q L ad τ cells slots pc lv st := fun H locs ls hU hS hl => by
  subst hst
  exact ph_back (va_runI C.1 hM cw ⟨ph_blind, fun U h1 h2 => ph_pre C hU hS h1 h2⟩ rfl hn hl.1 rfl (lv_room hro) hd hf) hS hl k
/-- returns -/
theorem ph_iret (C : ph_C p s m args c cc nL own Ts D cl tys A KX) {v : Int32} {ty : FieldType} (hd : decode cc pc = .ok (.ireturn, 1)) (hr : meth.sig.returnType = some ty) (hlk : meth.locks = false) (hn : narrow ty (.int v) = .int v) (h1 : cells ≤ mc) (h2 : slots ≤ ms) (hp : post (some (.int v)) L ad τ) : ph_W p l e R s m args below meth c D cl dT kd A nL (MQ below (ph_Q D cl dT kd A post) args s mc ms A) L ad τ cells slots pc lv [.int v] := fun H locs ls hU hS hl =>
  W.widen h1 h2 (W.zret C.hx C.hb hr hn (fun t ht hW => ⟨⟨_, _, _, _, rfl, hp, by rw [ht]; exact hU⟩, hS.F ht⟩) hS.2.2 hd hlk)
theorem ph_lret (C : ph_C p s m args c cc nL own Ts D cl tys A KX) {v : Int64} (hd : decode cc pc = .ok (.lreturn, 1)) (hr : meth.sig.returnType = some .long) (hlk : meth.locks = false) (h1 : cells ≤ mc) (h2 : slots ≤ ms) (hp : post (some (.long v)) L ad τ) : ph_W p l e R s m args below meth c D cl dT kd A nL (MQ below (ph_Q D cl dT kd A post) args s mc ms A) L ad τ cells slots pc lv [.long v] := fun H locs ls hU hS hl =>
  W.widen h1 h2 (W.lret C.hx C.hb hr (fun t ht hW => ⟨⟨_, _, _, _, rfl, hp, by rw [ht]; exact hU⟩, hS.F ht⟩) hS.2.2 hd hlk)
theorem ph_vret (C : ph_C p s m args c cc nL own Ts D cl tys A KX)  (hd : decode cc pc = .ok (.return_, 1))(hr : meth.sig.returnType = none) (hlk : meth.locks = false) (h1 : cells ≤ mc) (h2 : slots ≤ ms) (hp : post none L ad τ) : ph_W p l e R s m args below meth c D cl dT kd A nL (MQ below (ph_Q D cl dT kd A post) args s mc ms A) L ad τ cells slots pc lv [] := fun H locs ls hU hS hl =>
  W.widen h1 h2 (W.vret C.hx C.hb hr (fun t ht hW => ⟨⟨_, _, _, _, rfl, hp, by rw [ht]; exact hU⟩, hS.F ht⟩) hS.2.2 hd hlk)
end PHM
end
section
/-! ===== bits of small numbers ===== -/
theorem pb_iN (n : Nat) : ph_i (n : Int) = nI n := Int32.ofInt_eq_ofNat
theorem pb_lN (n : Nat) : ph_l (n : Int) = lN n := Int64.ofInt_eq_ofNat
theorem pb_s31 : ∀ n, n < 32 → ((nI n &&& 31).toBitVec.smod 32).toNat = n := by decide +kernel
theorem pb_s63 : ∀ n, n < 64 → (((nI n).toInt64 &&& 63).toBitVec.smod 64).toNat = n := by decide +kernel
theorem pb_ishr {n s : Nat} (hn : n < 2147483648) (hs : s < 32) : ph_i (n : Int) >>> (ph_i (s : Int) &&& 31) = ph_i ((n / 2 ^ s : Nat) : Int) := by
  rw [pb_iN, pb_iN, pb_iN]
  exact pk_shrN (by omega) _ s (pb_s31 s hs)
theorem pb_iand1 {n : Nat} (hn : n < 2147483648) : ph_i (n : Int) &&& ph_i 1 = ph_i ((n % 2 : Nat) : Int) := by
  rw [pb_iN, pb_iN]
  exact pk_andN (by omega) 1 (by decide)
theorem pb_tb (n s : Nat) : n / 2 ^ s % 2 = (n.testBit s).toNat := by
  rw [Nat.testBit_eq_decide_div_mod_eq]
  rcases Nat.mod_two_eq_zero_or_one (n / 2 ^ s) with h | h <;> simp [h]
end
